/-! The script's places. -/
theorem tl_in1 {G : ts_GX} {c : Nat} (hc : c + 3 ≤ ts_gL G) (hL : ts_gL G ≤ 1538) : vp_in (nI c + 1) (ts_gL G) := by
  rw [nI_1]
  exact vp_in_nI (by omega) (by omega)
theorem tl_in2 {G : ts_GX} {c : Nat} (hc : c + 3 ≤ ts_gL G) (hL : ts_gL G ≤ 1538) : vp_in (nI c + 2) (ts_gL G) := by
  show vp_in (nI c + nI 2) (ts_gL G)
  rw [nI_add]
  exact vp_in_nI (by omega) (by omega)
theorem tl_L3 {L : Nat} (hL : L ≤ 1538) : (nI L - 3).toInt = (L : Int) - 3 := by
  have e : (nI L).toInt = L := nI_toInt (by omega)
  rw [tz_sub (by rw [e, tz_3]; omega) (by rw [e, tz_3]; omega), e, tz_3]
theorem tl_gt {L c : Nat} (h : L < c + 3) (hL : L ≤ 1538) (hc : c < 2 ^ 31) : nI L - 3 < nI c := by
  rw [tz_lt, tl_L3 hL, nI_toInt hc]
  omega
theorem tl_le {L c : Nat} (hL : L ≤ 1538) (h : ¬ nI L - 3 < nI c) (hc : c < 2 ^ 31) : c + 3 ≤ L := by
  rw [tz_lt, tl_L3 hL, nI_toInt hc] at h
  omega
