set_option maxHeartbeats 4000000 in
set_option maxRecDepth 100000 in
theorem cTS_flushTowardsEnd (G : ts_GX) (T : List va_E) (S : tc_S) : ts_M G yTS_flushTowardsEnd YTS_flushTowardsEnd [.ref 1] (tc_h G S ++ T) (some (.int (tc_flushEnd S).1)) (tc_h G (tc_flushEnd S).2 ++ T) 0 0 := by
  refine ts_of rfl rfl rfl rfl rfl rfl (Nat.le_of_ble_eq_true rfl) (ts_cat1 rfl) (fun X => ?_)
  obtain ⟨F, A, sw⟩ := S
  cases sw with
  | false =>
    refine ts_aload_n dTS_flushTowardsEnd_0 rfl rfl ?_
    refine ts_get pTS_F117 dTS_flushTowardsEnd_1 rfl rfl ?_
    refine ts_if_ne (tgt := 31) dTS_flushTowardsEnd_4 rfl (fun (h4 : ¬ (F 11) = 0) => ?_) (fun (h4 : (F 11) = 0) => ?_)
    · refine ts_aload_n dTS_flushTowardsEnd_31 rfl rfl ?_
      refine ts_get pTS_F160 dTS_flushTowardsEnd_32 rfl rfl ?_
      refine ts_aload_n dTS_flushTowardsEnd_35 rfl rfl ?_
      refine ts_get pTS_F41 dTS_flushTowardsEnd_36 rfl rfl ?_
      refine ts_get pTS_F157 dTS_flushTowardsEnd_39 rfl rfl ?_
      refine ts_icmp_ge (tgt := 61) dTS_flushTowardsEnd_42 rfl (fun (h42 : (F 27) ≤ (F 4)) => ?_) (fun (h42 : ¬ (F 27) ≤ (F 4)) => ?_)
      · refine ts_aload_n dTS_flushTowardsEnd_61 rfl rfl ?_
        refine ts_get pTS_F160 dTS_flushTowardsEnd_62 rfl rfl ?_
        refine ts_aload_n dTS_flushTowardsEnd_65 rfl rfl ?_
        refine ts_get pTS_F41 dTS_flushTowardsEnd_66 rfl rfl ?_
        refine ts_get pTS_F157 dTS_flushTowardsEnd_69 rfl rfl ?_
        refine ts_icmp_lt (tgt := 80) dTS_flushTowardsEnd_72 rfl (fun (h72 : (F 4) < (F 27)) => ?_) (fun (h72 : ¬ (F 4) < (F 27)) => ?_)
        · refine ts_iconst (v := 1) dTS_flushTowardsEnd_80 (by decide) ?_
          have q1 : tc_end1 (F, A, false) = (F, A, false) := if_neg h4
          have e9 : tc_flushEnd (F, A, false) = (1, (F, A, false)) := by
            unfold tc_flushEnd
            rw [q1]
            exact (if_pos h42).trans (if_pos h72)
          exact ts_zret dTS_flushTowardsEnd_81 rfl (by decide) (tc_e1 e9) (tc_e2 e9)
        · refine ts_aload_n dTS_flushTowardsEnd_75 rfl rfl ?_
          refine ts_iconst (v := 3) dTS_flushTowardsEnd_76 (by decide) ?_
          refine ts_put pTS_P44 dTS_flushTowardsEnd_77 rfl (Nat.le_of_ble_eq_true rfl) rfl rfl (h' := tc_h G (tc_f (F, A, false) 9 3) ++ T) (th_f9 _ _ _ _) ?_
          refine ts_iconst (v := 1) dTS_flushTowardsEnd_80 (by decide) ?_
          have q1 : tc_end1 (F, A, false) = (F, A, false) := if_neg h4
          have e9 : tc_flushEnd (F, A, false) = (1, tc_f (F, A, false) 9 3) := by
            unfold tc_flushEnd
            rw [q1]
            exact (if_pos h42).trans (if_neg h72)
          exact ts_zret dTS_flushTowardsEnd_81 rfl (by decide) (tc_e1 e9) (tc_e2 e9)
      · refine ts_aload_n dTS_flushTowardsEnd_45 rfl rfl ?_
        refine ts_aload_n dTS_flushTowardsEnd_46 rfl rfl ?_
        refine ts_get pTS_F41 dTS_flushTowardsEnd_47 rfl rfl ?_
        refine ts_get pTS_F157 dTS_flushTowardsEnd_50 rfl rfl ?_
        refine ts_callV (cTS_flushPage G T (F, A, false) (F 27)) pTS_C194.1 pTS_C194.2 rfl rfl rfl rfl ⟨Nat.le_of_ble_eq_true rfl, Nat.le_of_ble_eq_true rfl⟩ ⟨Nat.le_of_ble_eq_true rfl, Nat.le_of_ble_eq_true rfl⟩ rfl (Nat.le_of_ble_eq_true rfl) dTS_flushTowardsEnd_53 ?_
        obtain ⟨r1, F1, A1, w1, hq⟩ : ∃ (r1 : Int32) (F1 : Nat → Int32) (A1 : Nat → Nat → Int32) (w1 : Bool), tc_flushPage (F, A, false) (F 27) = (r1, F1, A1, w1) := ⟨_, _, _, _, rfl⟩
        have hw1 : w1 = false := by have h9 := tc_flushPage_sw (F, A, false) (F 27); rw [hq] at h9; exact h9
        subst hw1
        rw [hq]
        refine ts_conv (lo' := [.ref 1]) (st' := [.int r1]) (h' := tc_h G (F1, A1, false) ++ T) rfl rfl rfl ?_
        refine ts_if_ne (tgt := 61) dTS_flushTowardsEnd_56 rfl (fun (h56 : ¬ r1 = 0) => ?_) (fun (h56 : r1 = 0) => ?_)
        · refine ts_aload_n dTS_flushTowardsEnd_61 rfl rfl ?_
          refine ts_get pTS_F160 dTS_flushTowardsEnd_62 rfl rfl ?_
          refine ts_aload_n dTS_flushTowardsEnd_65 rfl rfl ?_
          refine ts_get pTS_F41 dTS_flushTowardsEnd_66 rfl rfl ?_
          refine ts_get pTS_F157 dTS_flushTowardsEnd_69 rfl rfl ?_
          refine ts_icmp_lt (tgt := 80) dTS_flushTowardsEnd_72 rfl (fun (h72 : (F1 4) < (F1 27)) => ?_) (fun (h72 : ¬ (F1 4) < (F1 27)) => ?_)
          · refine ts_iconst (v := 1) dTS_flushTowardsEnd_80 (by decide) ?_
            have q1 : tc_end1 (F, A, false) = (F, A, false) := if_neg h4
            have q3 : tc_end3 (F, A, false) = if (tc_flushPage (F, A, false) (F 27)).1 = 0 then (0, (tc_flushPage (F, A, false) (F 27)).2) else tc_end2 (tc_flushPage (F, A, false) (F 27)).2 := if_neg h42
            have e9 : tc_flushEnd (F, A, false) = (1, (F1, A1, false)) := by
              unfold tc_flushEnd
              rw [q1, q3, hq]
              exact (if_neg h56).trans (if_pos h72)
            exact ts_zret dTS_flushTowardsEnd_81 rfl (by decide) (tc_e1 e9) (tc_e2 e9)
          · refine ts_aload_n dTS_flushTowardsEnd_75 rfl rfl ?_
            refine ts_iconst (v := 3) dTS_flushTowardsEnd_76 (by decide) ?_
            refine ts_put pTS_P44 dTS_flushTowardsEnd_77 rfl (Nat.le_of_ble_eq_true rfl) rfl rfl (h' := tc_h G (tc_f (F1, A1, false) 9 3) ++ T) (th_f9 _ _ _ _) ?_
            refine ts_iconst (v := 1) dTS_flushTowardsEnd_80 (by decide) ?_
            have q1 : tc_end1 (F, A, false) = (F, A, false) := if_neg h4
            have q3 : tc_end3 (F, A, false) = if (tc_flushPage (F, A, false) (F 27)).1 = 0 then (0, (tc_flushPage (F, A, false) (F 27)).2) else tc_end2 (tc_flushPage (F, A, false) (F 27)).2 := if_neg h42
            have e9 : tc_flushEnd (F, A, false) = (1, tc_f (F1, A1, false) 9 3) := by
              unfold tc_flushEnd
              rw [q1, q3, hq]
              exact (if_neg h56).trans (if_neg h72)
            exact ts_zret dTS_flushTowardsEnd_81 rfl (by decide) (tc_e1 e9) (tc_e2 e9)
        · refine ts_iconst (v := 0) dTS_flushTowardsEnd_59 (by decide) ?_
          have q1 : tc_end1 (F, A, false) = (F, A, false) := if_neg h4
          have q3 : tc_end3 (F, A, false) = if (tc_flushPage (F, A, false) (F 27)).1 = 0 then (0, (tc_flushPage (F, A, false) (F 27)).2) else tc_end2 (tc_flushPage (F, A, false) (F 27)).2 := if_neg h42
          have e9 : tc_flushEnd (F, A, false) = (0, (F1, A1, false)) := by
            unfold tc_flushEnd
            rw [q1, q3, hq]
            exact if_pos h56
          exact ts_zret dTS_flushTowardsEnd_60 rfl (by decide) (tc_e1 e9) (tc_e2 e9)
    · refine ts_aload_n dTS_flushTowardsEnd_7 rfl rfl ?_
      refine ts_aload_n dTS_flushTowardsEnd_8 rfl rfl ?_
      refine ts_get pTS_F99 dTS_flushTowardsEnd_9 rfl rfl ?_
      refine ts_put pTS_P88 dTS_flushTowardsEnd_12 rfl (Nat.le_of_ble_eq_true rfl) rfl rfl (h' := tc_h G (tc_f (F, A, false) 5 (F 6)) ++ T) (th_f5 _ _ _ _) ?_
      refine ts_aload_n dTS_flushTowardsEnd_15 rfl rfl ?_
      refine ts_get pTS_F41 dTS_flushTowardsEnd_16 rfl rfl ?_
      refine ts_aload_n dTS_flushTowardsEnd_19 rfl rfl ?_
      refine ts_get pTS_F99 dTS_flushTowardsEnd_20 rfl rfl ?_
      refine ts_put pTS_P157 dTS_flushTowardsEnd_23 rfl (Nat.le_of_ble_eq_true rfl) rfl rfl (h' := tc_h G (tc_f (tc_f (F, A, false) 5 (F 6)) 27 (F 6)) ++ T) (th_f27_0 _ _ _ _ rfl) ?_
      refine ts_aload_n dTS_flushTowardsEnd_26 rfl rfl ?_
      refine ts_iconst (v := 1) dTS_flushTowardsEnd_27 (by decide) ?_
      refine ts_put pTS_P117 dTS_flushTowardsEnd_28 rfl (Nat.le_of_ble_eq_true rfl) rfl rfl (h' := tc_h G (tc_f (tc_f (tc_f (F, A, false) 5 (F 6)) 27 (F 6)) 11 1) ++ T) (th_f11 _ _ _ _) ?_
      refine ts_aload_n dTS_flushTowardsEnd_31 rfl rfl ?_
      refine ts_get pTS_F160 dTS_flushTowardsEnd_32 rfl rfl ?_
      refine ts_aload_n dTS_flushTowardsEnd_35 rfl rfl ?_
      refine ts_get pTS_F41 dTS_flushTowardsEnd_36 rfl rfl ?_
      refine ts_get pTS_F157 dTS_flushTowardsEnd_39 rfl rfl ?_
      refine ts_icmp_ge (tgt := 61) dTS_flushTowardsEnd_42 rfl (fun (h42 : (F 6) ≤ (F 4)) => ?_) (fun (h42 : ¬ (F 6) ≤ (F 4)) => ?_)
      · refine ts_aload_n dTS_flushTowardsEnd_61 rfl rfl ?_
        refine ts_get pTS_F160 dTS_flushTowardsEnd_62 rfl rfl ?_
        refine ts_aload_n dTS_flushTowardsEnd_65 rfl rfl ?_
        refine ts_get pTS_F41 dTS_flushTowardsEnd_66 rfl rfl ?_
        refine ts_get pTS_F157 dTS_flushTowardsEnd_69 rfl rfl ?_
        refine ts_icmp_lt (tgt := 80) dTS_flushTowardsEnd_72 rfl (fun (h72 : (F 4) < (F 6)) => ?_) (fun (h72 : ¬ (F 4) < (F 6)) => ?_)
        · refine ts_iconst (v := 1) dTS_flushTowardsEnd_80 (by decide) ?_
          have q1 : tc_end1 (F, A, false) = tc_f (tc_f (tc_f (F, A, false) 5 (F 6)) 27 (F 6)) 11 1 := if_pos h4
          have e9 : tc_flushEnd (F, A, false) = (1, tc_f (tc_f (tc_f (F, A, false) 5 (F 6)) 27 (F 6)) 11 1) := by
            unfold tc_flushEnd
            rw [q1]
            exact (if_pos h42).trans (if_pos h72)
          exact ts_zret dTS_flushTowardsEnd_81 rfl (by decide) (tc_e1 e9) (tc_e2 e9)
        · refine ts_aload_n dTS_flushTowardsEnd_75 rfl rfl ?_
          refine ts_iconst (v := 3) dTS_flushTowardsEnd_76 (by decide) ?_
          refine ts_put pTS_P44 dTS_flushTowardsEnd_77 rfl (Nat.le_of_ble_eq_true rfl) rfl rfl (h' := tc_h G (tc_f (tc_f (tc_f (tc_f (F, A, false) 5 (F 6)) 27 (F 6)) 11 1) 9 3) ++ T) (th_f9 _ _ _ _) ?_
          refine ts_iconst (v := 1) dTS_flushTowardsEnd_80 (by decide) ?_
          have q1 : tc_end1 (F, A, false) = tc_f (tc_f (tc_f (F, A, false) 5 (F 6)) 27 (F 6)) 11 1 := if_pos h4
          have e9 : tc_flushEnd (F, A, false) = (1, tc_f (tc_f (tc_f (tc_f (F, A, false) 5 (F 6)) 27 (F 6)) 11 1) 9 3) := by
            unfold tc_flushEnd
            rw [q1]
            exact (if_pos h42).trans (if_neg h72)
          exact ts_zret dTS_flushTowardsEnd_81 rfl (by decide) (tc_e1 e9) (tc_e2 e9)
      · refine ts_aload_n dTS_flushTowardsEnd_45 rfl rfl ?_
        refine ts_aload_n dTS_flushTowardsEnd_46 rfl rfl ?_
        refine ts_get pTS_F41 dTS_flushTowardsEnd_47 rfl rfl ?_
        refine ts_get pTS_F157 dTS_flushTowardsEnd_50 rfl rfl ?_
        refine ts_callV (cTS_flushPage G T (tc_f (tc_f (tc_f (F, A, false) 5 (F 6)) 27 (F 6)) 11 1) (F 6)) pTS_C194.1 pTS_C194.2 rfl rfl rfl rfl ⟨Nat.le_of_ble_eq_true rfl, Nat.le_of_ble_eq_true rfl⟩ ⟨Nat.le_of_ble_eq_true rfl, Nat.le_of_ble_eq_true rfl⟩ rfl (Nat.le_of_ble_eq_true rfl) dTS_flushTowardsEnd_53 ?_
        obtain ⟨r1, F1, A1, w1, hq⟩ : ∃ (r1 : Int32) (F1 : Nat → Int32) (A1 : Nat → Nat → Int32) (w1 : Bool), tc_flushPage (tc_f (tc_f (tc_f (F, A, false) 5 (F 6)) 27 (F 6)) 11 1) (F 6) = (r1, F1, A1, w1) := ⟨_, _, _, _, rfl⟩
        have hw1 : w1 = false := by have h9 := tc_flushPage_sw (tc_f (tc_f (tc_f (F, A, false) 5 (F 6)) 27 (F 6)) 11 1) (F 6); rw [hq] at h9; exact h9
        subst hw1
        rw [hq]
        refine ts_conv (lo' := [.ref 1]) (st' := [.int r1]) (h' := tc_h G (F1, A1, false) ++ T) rfl rfl rfl ?_
        refine ts_if_ne (tgt := 61) dTS_flushTowardsEnd_56 rfl (fun (h56 : ¬ r1 = 0) => ?_) (fun (h56 : r1 = 0) => ?_)
        · refine ts_aload_n dTS_flushTowardsEnd_61 rfl rfl ?_
          refine ts_get pTS_F160 dTS_flushTowardsEnd_62 rfl rfl ?_
          refine ts_aload_n dTS_flushTowardsEnd_65 rfl rfl ?_
          refine ts_get pTS_F41 dTS_flushTowardsEnd_66 rfl rfl ?_
          refine ts_get pTS_F157 dTS_flushTowardsEnd_69 rfl rfl ?_
          refine ts_icmp_lt (tgt := 80) dTS_flushTowardsEnd_72 rfl (fun (h72 : (F1 4) < (F1 27)) => ?_) (fun (h72 : ¬ (F1 4) < (F1 27)) => ?_)
          · refine ts_iconst (v := 1) dTS_flushTowardsEnd_80 (by decide) ?_
            have q1 : tc_end1 (F, A, false) = tc_f (tc_f (tc_f (F, A, false) 5 (F 6)) 27 (F 6)) 11 1 := if_pos h4
            have q3 : tc_end3 (tc_f (tc_f (tc_f (F, A, false) 5 (F 6)) 27 (F 6)) 11 1) = if (tc_flushPage (tc_f (tc_f (tc_f (F, A, false) 5 (F 6)) 27 (F 6)) 11 1) (F 6)).1 = 0 then (0, (tc_flushPage (tc_f (tc_f (tc_f (F, A, false) 5 (F 6)) 27 (F 6)) 11 1) (F 6)).2) else tc_end2 (tc_flushPage (tc_f (tc_f (tc_f (F, A, false) 5 (F 6)) 27 (F 6)) 11 1) (F 6)).2 := if_neg h42
            have e9 : tc_flushEnd (F, A, false) = (1, (F1, A1, false)) := by
              unfold tc_flushEnd
              rw [q1, q3, hq]
              exact (if_neg h56).trans (if_pos h72)
            exact ts_zret dTS_flushTowardsEnd_81 rfl (by decide) (tc_e1 e9) (tc_e2 e9)
          · refine ts_aload_n dTS_flushTowardsEnd_75 rfl rfl ?_
            refine ts_iconst (v := 3) dTS_flushTowardsEnd_76 (by decide) ?_
            refine ts_put pTS_P44 dTS_flushTowardsEnd_77 rfl (Nat.le_of_ble_eq_true rfl) rfl rfl (h' := tc_h G (tc_f (F1, A1, false) 9 3) ++ T) (th_f9 _ _ _ _) ?_
            refine ts_iconst (v := 1) dTS_flushTowardsEnd_80 (by decide) ?_
            have q1 : tc_end1 (F, A, false) = tc_f (tc_f (tc_f (F, A, false) 5 (F 6)) 27 (F 6)) 11 1 := if_pos h4
            have q3 : tc_end3 (tc_f (tc_f (tc_f (F, A, false) 5 (F 6)) 27 (F 6)) 11 1) = if (tc_flushPage (tc_f (tc_f (tc_f (F, A, false) 5 (F 6)) 27 (F 6)) 11 1) (F 6)).1 = 0 then (0, (tc_flushPage (tc_f (tc_f (tc_f (F, A, false) 5 (F 6)) 27 (F 6)) 11 1) (F 6)).2) else tc_end2 (tc_flushPage (tc_f (tc_f (tc_f (F, A, false) 5 (F 6)) 27 (F 6)) 11 1) (F 6)).2 := if_neg h42
            have e9 : tc_flushEnd (F, A, false) = (1, tc_f (F1, A1, false) 9 3) := by
              unfold tc_flushEnd
              rw [q1, q3, hq]
              exact (if_neg h56).trans (if_neg h72)
            exact ts_zret dTS_flushTowardsEnd_81 rfl (by decide) (tc_e1 e9) (tc_e2 e9)
        · refine ts_iconst (v := 0) dTS_flushTowardsEnd_59 (by decide) ?_
          have q1 : tc_end1 (F, A, false) = tc_f (tc_f (tc_f (F, A, false) 5 (F 6)) 27 (F 6)) 11 1 := if_pos h4
          have q3 : tc_end3 (tc_f (tc_f (tc_f (F, A, false) 5 (F 6)) 27 (F 6)) 11 1) = if (tc_flushPage (tc_f (tc_f (tc_f (F, A, false) 5 (F 6)) 27 (F 6)) 11 1) (F 6)).1 = 0 then (0, (tc_flushPage (tc_f (tc_f (tc_f (F, A, false) 5 (F 6)) 27 (F 6)) 11 1) (F 6)).2) else tc_end2 (tc_flushPage (tc_f (tc_f (tc_f (F, A, false) 5 (F 6)) 27 (F 6)) 11 1) (F 6)).2 := if_neg h42
          have e9 : tc_flushEnd (F, A, false) = (0, (F1, A1, false)) := by
            unfold tc_flushEnd
            rw [q1, q3, hq]
            exact if_pos h56
          exact ts_zret dTS_flushTowardsEnd_60 rfl (by decide) (tc_e1 e9) (tc_e2 e9)
  | true =>
    refine ts_aload_n dTS_flushTowardsEnd_0 rfl rfl ?_
    refine ts_get pTS_F117 dTS_flushTowardsEnd_1 rfl rfl ?_
    refine ts_if_ne (tgt := 31) dTS_flushTowardsEnd_4 rfl (fun (h4 : ¬ (F 11) = 0) => ?_) (fun (h4 : (F 11) = 0) => ?_)
    · refine ts_aload_n dTS_flushTowardsEnd_31 rfl rfl ?_
      refine ts_get pTS_F160 dTS_flushTowardsEnd_32 rfl rfl ?_
      refine ts_aload_n dTS_flushTowardsEnd_35 rfl rfl ?_
      refine ts_get pTS_F41 dTS_flushTowardsEnd_36 rfl rfl ?_
      refine ts_get pTS_F157 dTS_flushTowardsEnd_39 rfl rfl ?_
      refine ts_icmp_ge (tgt := 61) dTS_flushTowardsEnd_42 rfl (fun (h42 : (F 27) ≤ (F 4)) => ?_) (fun (h42 : ¬ (F 27) ≤ (F 4)) => ?_)
      · refine ts_aload_n dTS_flushTowardsEnd_61 rfl rfl ?_
        refine ts_get pTS_F160 dTS_flushTowardsEnd_62 rfl rfl ?_
        refine ts_aload_n dTS_flushTowardsEnd_65 rfl rfl ?_
        refine ts_get pTS_F41 dTS_flushTowardsEnd_66 rfl rfl ?_
        refine ts_get pTS_F157 dTS_flushTowardsEnd_69 rfl rfl ?_
        refine ts_icmp_lt (tgt := 80) dTS_flushTowardsEnd_72 rfl (fun (h72 : (F 4) < (F 27)) => ?_) (fun (h72 : ¬ (F 4) < (F 27)) => ?_)
        · refine ts_iconst (v := 1) dTS_flushTowardsEnd_80 (by decide) ?_
          have q1 : tc_end1 (F, A, true) = (F, A, true) := if_neg h4
          have e9 : tc_flushEnd (F, A, true) = (1, (F, A, true)) := by
            unfold tc_flushEnd
            rw [q1]
            exact (if_pos h42).trans (if_pos h72)
          exact ts_zret dTS_flushTowardsEnd_81 rfl (by decide) (tc_e1 e9) (tc_e2 e9)
        · refine ts_aload_n dTS_flushTowardsEnd_75 rfl rfl ?_
          refine ts_iconst (v := 3) dTS_flushTowardsEnd_76 (by decide) ?_
          refine ts_put pTS_P44 dTS_flushTowardsEnd_77 rfl (Nat.le_of_ble_eq_true rfl) rfl rfl (h' := tc_h G (tc_f (F, A, true) 9 3) ++ T) (th_f9 _ _ _ _) ?_
          refine ts_iconst (v := 1) dTS_flushTowardsEnd_80 (by decide) ?_
          have q1 : tc_end1 (F, A, true) = (F, A, true) := if_neg h4
          have e9 : tc_flushEnd (F, A, true) = (1, tc_f (F, A, true) 9 3) := by
            unfold tc_flushEnd
            rw [q1]
            exact (if_pos h42).trans (if_neg h72)
          exact ts_zret dTS_flushTowardsEnd_81 rfl (by decide) (tc_e1 e9) (tc_e2 e9)
      · refine ts_aload_n dTS_flushTowardsEnd_45 rfl rfl ?_
        refine ts_aload_n dTS_flushTowardsEnd_46 rfl rfl ?_
        refine ts_get pTS_F41 dTS_flushTowardsEnd_47 rfl rfl ?_
        refine ts_get pTS_F157 dTS_flushTowardsEnd_50 rfl rfl ?_
        refine ts_callV (cTS_flushPage G T (F, A, true) (F 27)) pTS_C194.1 pTS_C194.2 rfl rfl rfl rfl ⟨Nat.le_of_ble_eq_true rfl, Nat.le_of_ble_eq_true rfl⟩ ⟨Nat.le_of_ble_eq_true rfl, Nat.le_of_ble_eq_true rfl⟩ rfl (Nat.le_of_ble_eq_true rfl) dTS_flushTowardsEnd_53 ?_
        obtain ⟨r1, F1, A1, w1, hq⟩ : ∃ (r1 : Int32) (F1 : Nat → Int32) (A1 : Nat → Nat → Int32) (w1 : Bool), tc_flushPage (F, A, true) (F 27) = (r1, F1, A1, w1) := ⟨_, _, _, _, rfl⟩
        have hw1 : w1 = true := by have h9 := tc_flushPage_sw (F, A, true) (F 27); rw [hq] at h9; exact h9
        subst hw1
        rw [hq]
        refine ts_conv (lo' := [.ref 1]) (st' := [.int r1]) (h' := tc_h G (F1, A1, true) ++ T) rfl rfl rfl ?_
        refine ts_if_ne (tgt := 61) dTS_flushTowardsEnd_56 rfl (fun (h56 : ¬ r1 = 0) => ?_) (fun (h56 : r1 = 0) => ?_)
        · refine ts_aload_n dTS_flushTowardsEnd_61 rfl rfl ?_
          refine ts_get pTS_F160 dTS_flushTowardsEnd_62 rfl rfl ?_
          refine ts_aload_n dTS_flushTowardsEnd_65 rfl rfl ?_
          refine ts_get pTS_F41 dTS_flushTowardsEnd_66 rfl rfl ?_
          refine ts_get pTS_F157 dTS_flushTowardsEnd_69 rfl rfl ?_
          refine ts_icmp_lt (tgt := 80) dTS_flushTowardsEnd_72 rfl (fun (h72 : (F1 4) < (F1 27)) => ?_) (fun (h72 : ¬ (F1 4) < (F1 27)) => ?_)
          · refine ts_iconst (v := 1) dTS_flushTowardsEnd_80 (by decide) ?_
            have q1 : tc_end1 (F, A, true) = (F, A, true) := if_neg h4
            have q3 : tc_end3 (F, A, true) = if (tc_flushPage (F, A, true) (F 27)).1 = 0 then (0, (tc_flushPage (F, A, true) (F 27)).2) else tc_end2 (tc_flushPage (F, A, true) (F 27)).2 := if_neg h42
            have e9 : tc_flushEnd (F, A, true) = (1, (F1, A1, true)) := by
              unfold tc_flushEnd
              rw [q1, q3, hq]
              exact (if_neg h56).trans (if_pos h72)
            exact ts_zret dTS_flushTowardsEnd_81 rfl (by decide) (tc_e1 e9) (tc_e2 e9)
          · refine ts_aload_n dTS_flushTowardsEnd_75 rfl rfl ?_
            refine ts_iconst (v := 3) dTS_flushTowardsEnd_76 (by decide) ?_
            refine ts_put pTS_P44 dTS_flushTowardsEnd_77 rfl (Nat.le_of_ble_eq_true rfl) rfl rfl (h' := tc_h G (tc_f (F1, A1, true) 9 3) ++ T) (th_f9 _ _ _ _) ?_
            refine ts_iconst (v := 1) dTS_flushTowardsEnd_80 (by decide) ?_
            have q1 : tc_end1 (F, A, true) = (F, A, true) := if_neg h4
            have q3 : tc_end3 (F, A, true) = if (tc_flushPage (F, A, true) (F 27)).1 = 0 then (0, (tc_flushPage (F, A, true) (F 27)).2) else tc_end2 (tc_flushPage (F, A, true) (F 27)).2 := if_neg h42
            have e9 : tc_flushEnd (F, A, true) = (1, tc_f (F1, A1, true) 9 3) := by
              unfold tc_flushEnd
              rw [q1, q3, hq]
              exact (if_neg h56).trans (if_neg h72)
            exact ts_zret dTS_flushTowardsEnd_81 rfl (by decide) (tc_e1 e9) (tc_e2 e9)
        · refine ts_iconst (v := 0) dTS_flushTowardsEnd_59 (by decide) ?_
          have q1 : tc_end1 (F, A, true) = (F, A, true) := if_neg h4
          have q3 : tc_end3 (F, A, true) = if (tc_flushPage (F, A, true) (F 27)).1 = 0 then (0, (tc_flushPage (F, A, true) (F 27)).2) else tc_end2 (tc_flushPage (F, A, true) (F 27)).2 := if_neg h42
          have e9 : tc_flushEnd (F, A, true) = (0, (F1, A1, true)) := by
            unfold tc_flushEnd
            rw [q1, q3, hq]
            exact if_pos h56
          exact ts_zret dTS_flushTowardsEnd_60 rfl (by decide) (tc_e1 e9) (tc_e2 e9)
    · refine ts_aload_n dTS_flushTowardsEnd_7 rfl rfl ?_
      refine ts_aload_n dTS_flushTowardsEnd_8 rfl rfl ?_
      refine ts_get pTS_F99 dTS_flushTowardsEnd_9 rfl rfl ?_
      refine ts_put pTS_P88 dTS_flushTowardsEnd_12 rfl (Nat.le_of_ble_eq_true rfl) rfl rfl (h' := tc_h G (tc_f (F, A, true) 5 (F 6)) ++ T) (th_f5 _ _ _ _) ?_
      refine ts_aload_n dTS_flushTowardsEnd_15 rfl rfl ?_
      refine ts_get pTS_F41 dTS_flushTowardsEnd_16 rfl rfl ?_
      refine ts_aload_n dTS_flushTowardsEnd_19 rfl rfl ?_
      refine ts_get pTS_F99 dTS_flushTowardsEnd_20 rfl rfl ?_
      refine ts_put pTS_P157 dTS_flushTowardsEnd_23 rfl (Nat.le_of_ble_eq_true rfl) rfl rfl (h' := tc_h G (tc_f (tc_f (F, A, true) 5 (F 6)) 27 (F 6)) ++ T) (th_f27_1 _ _ _ _ rfl) ?_
      refine ts_aload_n dTS_flushTowardsEnd_26 rfl rfl ?_
      refine ts_iconst (v := 1) dTS_flushTowardsEnd_27 (by decide) ?_
      refine ts_put pTS_P117 dTS_flushTowardsEnd_28 rfl (Nat.le_of_ble_eq_true rfl) rfl rfl (h' := tc_h G (tc_f (tc_f (tc_f (F, A, true) 5 (F 6)) 27 (F 6)) 11 1) ++ T) (th_f11 _ _ _ _) ?_
      refine ts_aload_n dTS_flushTowardsEnd_31 rfl rfl ?_
      refine ts_get pTS_F160 dTS_flushTowardsEnd_32 rfl rfl ?_
      refine ts_aload_n dTS_flushTowardsEnd_35 rfl rfl ?_
      refine ts_get pTS_F41 dTS_flushTowardsEnd_36 rfl rfl ?_
      refine ts_get pTS_F157 dTS_flushTowardsEnd_39 rfl rfl ?_
      refine ts_icmp_ge (tgt := 61) dTS_flushTowardsEnd_42 rfl (fun (h42 : (F 6) ≤ (F 4)) => ?_) (fun (h42 : ¬ (F 6) ≤ (F 4)) => ?_)
      · refine ts_aload_n dTS_flushTowardsEnd_61 rfl rfl ?_
        refine ts_get pTS_F160 dTS_flushTowardsEnd_62 rfl rfl ?_
        refine ts_aload_n dTS_flushTowardsEnd_65 rfl rfl ?_
        refine ts_get pTS_F41 dTS_flushTowardsEnd_66 rfl rfl ?_
        refine ts_get pTS_F157 dTS_flushTowardsEnd_69 rfl rfl ?_
        refine ts_icmp_lt (tgt := 80) dTS_flushTowardsEnd_72 rfl (fun (h72 : (F 4) < (F 6)) => ?_) (fun (h72 : ¬ (F 4) < (F 6)) => ?_)
        · refine ts_iconst (v := 1) dTS_flushTowardsEnd_80 (by decide) ?_
          have q1 : tc_end1 (F, A, true) = tc_f (tc_f (tc_f (F, A, true) 5 (F 6)) 27 (F 6)) 11 1 := if_pos h4
          have e9 : tc_flushEnd (F, A, true) = (1, tc_f (tc_f (tc_f (F, A, true) 5 (F 6)) 27 (F 6)) 11 1) := by
            unfold tc_flushEnd
            rw [q1]
            exact (if_pos h42).trans (if_pos h72)
          exact ts_zret dTS_flushTowardsEnd_81 rfl (by decide) (tc_e1 e9) (tc_e2 e9)
        · refine ts_aload_n dTS_flushTowardsEnd_75 rfl rfl ?_
          refine ts_iconst (v := 3) dTS_flushTowardsEnd_76 (by decide) ?_
          refine ts_put pTS_P44 dTS_flushTowardsEnd_77 rfl (Nat.le_of_ble_eq_true rfl) rfl rfl (h' := tc_h G (tc_f (tc_f (tc_f (tc_f (F, A, true) 5 (F 6)) 27 (F 6)) 11 1) 9 3) ++ T) (th_f9 _ _ _ _) ?_
          refine ts_iconst (v := 1) dTS_flushTowardsEnd_80 (by decide) ?_
          have q1 : tc_end1 (F, A, true) = tc_f (tc_f (tc_f (F, A, true) 5 (F 6)) 27 (F 6)) 11 1 := if_pos h4
          have e9 : tc_flushEnd (F, A, true) = (1, tc_f (tc_f (tc_f (tc_f (F, A, true) 5 (F 6)) 27 (F 6)) 11 1) 9 3) := by
            unfold tc_flushEnd
            rw [q1]
            exact (if_pos h42).trans (if_neg h72)
          exact ts_zret dTS_flushTowardsEnd_81 rfl (by decide) (tc_e1 e9) (tc_e2 e9)
      · refine ts_aload_n dTS_flushTowardsEnd_45 rfl rfl ?_
        refine ts_aload_n dTS_flushTowardsEnd_46 rfl rfl ?_
        refine ts_get pTS_F41 dTS_flushTowardsEnd_47 rfl rfl ?_
        refine ts_get pTS_F157 dTS_flushTowardsEnd_50 rfl rfl ?_
        refine ts_callV (cTS_flushPage G T (tc_f (tc_f (tc_f (F, A, true) 5 (F 6)) 27 (F 6)) 11 1) (F 6)) pTS_C194.1 pTS_C194.2 rfl rfl rfl rfl ⟨Nat.le_of_ble_eq_true rfl, Nat.le_of_ble_eq_true rfl⟩ ⟨Nat.le_of_ble_eq_true rfl, Nat.le_of_ble_eq_true rfl⟩ rfl (Nat.le_of_ble_eq_true rfl) dTS_flushTowardsEnd_53 ?_
        obtain ⟨r1, F1, A1, w1, hq⟩ : ∃ (r1 : Int32) (F1 : Nat → Int32) (A1 : Nat → Nat → Int32) (w1 : Bool), tc_flushPage (tc_f (tc_f (tc_f (F, A, true) 5 (F 6)) 27 (F 6)) 11 1) (F 6) = (r1, F1, A1, w1) := ⟨_, _, _, _, rfl⟩
        have hw1 : w1 = true := by have h9 := tc_flushPage_sw (tc_f (tc_f (tc_f (F, A, true) 5 (F 6)) 27 (F 6)) 11 1) (F 6); rw [hq] at h9; exact h9
        subst hw1
        rw [hq]
        refine ts_conv (lo' := [.ref 1]) (st' := [.int r1]) (h' := tc_h G (F1, A1, true) ++ T) rfl rfl rfl ?_
        refine ts_if_ne (tgt := 61) dTS_flushTowardsEnd_56 rfl (fun (h56 : ¬ r1 = 0) => ?_) (fun (h56 : r1 = 0) => ?_)
        · refine ts_aload_n dTS_flushTowardsEnd_61 rfl rfl ?_
          refine ts_get pTS_F160 dTS_flushTowardsEnd_62 rfl rfl ?_
          refine ts_aload_n dTS_flushTowardsEnd_65 rfl rfl ?_
          refine ts_get pTS_F41 dTS_flushTowardsEnd_66 rfl rfl ?_
          refine ts_get pTS_F157 dTS_flushTowardsEnd_69 rfl rfl ?_
          refine ts_icmp_lt (tgt := 80) dTS_flushTowardsEnd_72 rfl (fun (h72 : (F1 4) < (F1 27)) => ?_) (fun (h72 : ¬ (F1 4) < (F1 27)) => ?_)
          · refine ts_iconst (v := 1) dTS_flushTowardsEnd_80 (by decide) ?_
            have q1 : tc_end1 (F, A, true) = tc_f (tc_f (tc_f (F, A, true) 5 (F 6)) 27 (F 6)) 11 1 := if_pos h4
            have q3 : tc_end3 (tc_f (tc_f (tc_f (F, A, true) 5 (F 6)) 27 (F 6)) 11 1) = if (tc_flushPage (tc_f (tc_f (tc_f (F, A, true) 5 (F 6)) 27 (F 6)) 11 1) (F 6)).1 = 0 then (0, (tc_flushPage (tc_f (tc_f (tc_f (F, A, true) 5 (F 6)) 27 (F 6)) 11 1) (F 6)).2) else tc_end2 (tc_flushPage (tc_f (tc_f (tc_f (F, A, true) 5 (F 6)) 27 (F 6)) 11 1) (F 6)).2 := if_neg h42
            have e9 : tc_flushEnd (F, A, true) = (1, (F1, A1, true)) := by
              unfold tc_flushEnd
              rw [q1, q3, hq]
              exact (if_neg h56).trans (if_pos h72)
            exact ts_zret dTS_flushTowardsEnd_81 rfl (by decide) (tc_e1 e9) (tc_e2 e9)
          · refine ts_aload_n dTS_flushTowardsEnd_75 rfl rfl ?_
            refine ts_iconst (v := 3) dTS_flushTowardsEnd_76 (by decide) ?_
            refine ts_put pTS_P44 dTS_flushTowardsEnd_77 rfl (Nat.le_of_ble_eq_true rfl) rfl rfl (h' := tc_h G (tc_f (F1, A1, true) 9 3) ++ T) (th_f9 _ _ _ _) ?_
            refine ts_iconst (v := 1) dTS_flushTowardsEnd_80 (by decide) ?_
            have q1 : tc_end1 (F, A, true) = tc_f (tc_f (tc_f (F, A, true) 5 (F 6)) 27 (F 6)) 11 1 := if_pos h4
            have q3 : tc_end3 (tc_f (tc_f (tc_f (F, A, true) 5 (F 6)) 27 (F 6)) 11 1) = if (tc_flushPage (tc_f (tc_f (tc_f (F, A, true) 5 (F 6)) 27 (F 6)) 11 1) (F 6)).1 = 0 then (0, (tc_flushPage (tc_f (tc_f (tc_f (F, A, true) 5 (F 6)) 27 (F 6)) 11 1) (F 6)).2) else tc_end2 (tc_flushPage (tc_f (tc_f (tc_f (F, A, true) 5 (F 6)) 27 (F 6)) 11 1) (F 6)).2 := if_neg h42
            have e9 : tc_flushEnd (F, A, true) = (1, tc_f (F1, A1, true) 9 3) := by
              unfold tc_flushEnd
              rw [q1, q3, hq]
              exact (if_neg h56).trans (if_neg h72)
            exact ts_zret dTS_flushTowardsEnd_81 rfl (by decide) (tc_e1 e9) (tc_e2 e9)
        · refine ts_iconst (v := 0) dTS_flushTowardsEnd_59 (by decide) ?_
          have q1 : tc_end1 (F, A, true) = tc_f (tc_f (tc_f (F, A, true) 5 (F 6)) 27 (F 6)) 11 1 := if_pos h4
          have q3 : tc_end3 (tc_f (tc_f (tc_f (F, A, true) 5 (F 6)) 27 (F 6)) 11 1) = if (tc_flushPage (tc_f (tc_f (tc_f (F, A, true) 5 (F 6)) 27 (F 6)) 11 1) (F 6)).1 = 0 then (0, (tc_flushPage (tc_f (tc_f (tc_f (F, A, true) 5 (F 6)) 27 (F 6)) 11 1) (F 6)).2) else tc_end2 (tc_flushPage (tc_f (tc_f (tc_f (F, A, true) 5 (F 6)) 27 (F 6)) 11 1) (F 6)).2 := if_neg h42
          have e9 : tc_flushEnd (F, A, true) = (0, (F1, A1, true)) := by
            unfold tc_flushEnd
            rw [q1, q3, hq]
            exact if_pos h56
          exact ts_zret dTS_flushTowardsEnd_60 rfl (by decide) (tc_e1 e9) (tc_e2 e9)
