/-! Small numbers' arithmetic; what holds of the numbers 0 to 17 and the rows 0 to 5 wherever a call begins (tj: the same of the class's state and of the reference's); the bounds that the walks need. -/
theorem tz_0 : (0 : Int32).toInt = 0 := by decide
theorem tz_1 : (1 : Int32).toInt = 1 := by decide
theorem tz_2 : (2 : Int32).toInt = 2 := by decide
theorem tz_3 : (3 : Int32).toInt = 3 := by decide
theorem tz_4 : (4 : Int32).toInt = 4 := by decide
theorem tz_5 : (5 : Int32).toInt = 5 := by decide
theorem tz_13 : (13 : Int32).toInt = 13 := by decide
theorem tz_16 : (16 : Int32).toInt = 16 := by decide
theorem tz_32 : (32 : Int32).toInt = 32 := by decide
theorem tz_50 : (50 : Int32).toInt = 50 := by decide
theorem tz_396 : (396 : Int32).toInt = 396 := by decide
theorem tz_400 : (400 : Int32).toInt = 400 := by decide
theorem tz_m1 : (-1 : Int32).toInt = -1 := by decide
theorem tz_bm {x : Int} (h1 : -2147483648 ≤ x) (h2 : x < 2147483648) : Int.bmod x (2 ^ 32) = x := Int.bmod_eq_of_le_mul_two (by omega) (by omega)
theorem tz_add {x y : Int32} (h1 : -2147483648 ≤ x.toInt + y.toInt) (h2 : x.toInt + y.toInt < 2147483648) : (x + y).toInt = x.toInt + y.toInt := by
  rw [Int32.toInt_add]
  exact tz_bm h1 h2
theorem tz_sub {x y : Int32} (h1 : -2147483648 ≤ x.toInt - y.toInt) (h2 : x.toInt - y.toInt < 2147483648) : (x - y).toInt = x.toInt - y.toInt := by
  rw [Int32.toInt_sub]
  exact tz_bm h1 h2
theorem tz_mul {x y : Int32} (h1 : -2147483648 ≤ x.toInt * y.toInt) (h2 : x.toInt * y.toInt < 2147483648) : (x * y).toInt = x.toInt * y.toInt := by
  rw [Int32.toInt_mul]
  exact tz_bm h1 h2
theorem tz_lt {x y : Int32} : x < y ↔ x.toInt < y.toInt := Int32.lt_iff_toInt_lt
theorem tz_le {x y : Int32} : x ≤ y ↔ x.toInt ≤ y.toInt := Int32.le_iff_toInt_le
theorem tz_eq {x y : Int32} (h : x.toInt = y.toInt) : x = y := Int32.toInt_inj.mp h
theorem tz_up (x : Int32) : x.toInt < 2147483648 := Int32.toInt_lt x
theorem tz_lo (x : Int32) : -2147483648 ≤ x.toInt := Int32.le_toInt x
theorem tz_add1 {x : Int32} (h : x.toInt < 2147483647) : (x + 1).toInt = x.toInt + 1 := by
  have := tz_lo x
  rw [tz_add (by rw [tz_1]; omega) (by rw [tz_1]; omega), tz_1]
theorem tz_sub1 {x : Int32} (h : -2147483648 < x.toInt) : (x - 1).toInt = x.toInt - 1 := by
  have := tz_up x
  rw [tz_sub (by rw [tz_1]; omega) (by rw [tz_1]; omega), tz_1]
theorem tz_in {x : Int32} {n : Nat} (h1 : 0 ≤ x.toInt) (h2 : x.toInt < n) : vp_in x n := vp_in_iff.mpr ⟨h1, h2⟩
theorem tz_clamp {a : Int32} (h : 0 ≤ a.toInt) : (a.toNatClampNeg : Int) = a.toInt := Int.toNat_of_nonneg h
/-- the remainder of a number that isn't below 0 -/
theorem tz_rem {x y : Int32} (hx : 0 ≤ x.toInt) : (tc_rem x y).toInt = x.toInt % y.toInt := by
  rw [tc_rem, rem_toInt]
  exact Int.tmod_eq_emod_of_nonneg hx
theorem tz_pe {a : Int32} (h0 : 0 ≤ a.toInt) (h1 : a.toInt ≤ 400) : (tc_pageEnd a).toInt = a.toInt - a.toInt % 4 + 4 := by
  have hr : (tc_rem a 4).toInt = a.toInt % 4 := by rw [tz_rem h0, tz_4]
  have e1 : (a - tc_rem a 4).toInt = a.toInt - a.toInt % 4 := by
    rw [tz_sub (by rw [hr]; omega) (by rw [hr]; omega), hr]
  unfold tc_pageEnd
  rw [tz_add (by rw [e1, tz_4]; omega) (by rw [e1, tz_4]; omega), e1, tz_4]
theorem tz_min {x y : Int32} : (tc_min x y).toInt = if y.toInt < x.toInt then y.toInt else x.toInt := by
  unfold tc_min
  by_cases h : y < x
  · rw [if_pos h, if_pos (tz_lt.mp h)]
  · rw [if_neg h, if_neg (fun q => h (tz_lt.mpr q))]
theorem tz_max {x y : Int32} : (tc_max x y).toInt = if x.toInt < y.toInt then y.toInt else x.toInt := by
  unfold tc_max
  by_cases h : x < y
  · rw [if_pos h, if_pos (tz_lt.mp h)]
  · rw [if_neg h, if_neg (fun q => h (tz_lt.mpr q))]
theorem tc_nle {x : Int32} (h : x < 400) : ¬ 400 ≤ x := by
  rw [tz_lt, tz_400] at h
  rw [tz_le, tz_400]
  omega
def tc_key (k : Int32) : Prop := 0 ≤ k.toInt ∧ k.toInt < 32
def tc_lv (l s : Int32) : Prop := (l = 1 ∧ 0 ≤ s.toInt ∧ s.toInt < 2) ∨ (l = 2 ∧ 0 ≤ s.toInt ∧ s.toInt < 4) ∨ (l = 3 ∧ 0 ≤ s.toInt ∧ s.toInt < 8) ∨ (l = 4 ∧ s = 0)
theorem tc_lv.two {l s : Int32} (h : tc_lv l s) : ∃ p : Int, (tc_two l).toInt = p ∧ (tc_two (l + 1)).toInt = 2 * p ∧ (p = 2 ∨ p = 4 ∨ p = 8 ∨ p = 16) ∧ 0 ≤ s.toInt ∧ s.toInt < p ∧ (p = 16 → s.toInt = 0) := by
  rcases h with ⟨rfl, h1, h2⟩ | ⟨rfl, h1, h2⟩ | ⟨rfl, h1, h2⟩ | ⟨rfl, rfl⟩
  · exact ⟨2, by decide, by decide, by omega, h1, h2, by omega⟩
  · exact ⟨4, by decide, by decide, by omega, h1, h2, by omega⟩
  · exact ⟨8, by decide, by decide, by omega, h1, h2, by omega⟩
  · exact ⟨16, by decide, by decide, by omega, by decide, by decide, fun _ => by decide⟩
theorem tc_cnt {S : tc_S} (h : tc_lv (S.1 16) (S.1 17)) : ∃ p : Int, (tc_two (S.1 16)).toInt = p ∧ (tc_two (S.1 16 + 1)).toInt = 2 * p ∧ (p = 2 ∨ p = 4 ∨ p = 8 ∨ p = 16) ∧ 0 ≤ (S.1 17).toInt ∧ (S.1 17).toInt < p ∧ (p = 16 → (S.1 17).toInt = 0) ∧ (tc_count S).toInt = p + (S.1 17).toInt := by
  obtain ⟨p, h1, h2, h3, h4, h5, h6⟩ := h.two
  refine ⟨p, h1, h2, h3, h4, h5, h6, ?_⟩
  unfold tc_count
  rw [tz_add (by rw [h1]; omega) (by rw [h1]; omega), h1]
def tj (S : tc_S) : Prop :=
  tc_lv (S.1 16) (S.1 17) ∧
  (3 ≤ (S.1 0).toInt ∧ (S.1 0).toInt ≤ 8 ∧ 1 ≤ (S.1 1).toInt ∧ (S.1 1).toInt ≤ 6) ∧
  ((0 ≤ (S.1 2).toInt ∧ (S.1 2).toInt ≤ 400) ∧ (S.1 3).toInt ≤ 400 ∧ 0 ≤ (S.1 4).toInt ∧ (S.1 5).toInt ≤ 400 ∧ 0 ≤ (S.1 6).toInt ∧ (S.1 6).toInt ≤ 400) ∧
  (0 ≤ (S.1 10).toInt ∧ (S.1 10).toInt ≤ 16 ∧ 0 ≤ (S.1 13).toInt) ∧
  (S.1 9 = 0 ∨ S.1 9 = 1 ∨ S.1 9 = 2 ∨ S.1 9 = 3) ∧
  (∀ i, tc_key (S.2.1 1 i)) ∧
  (∀ i : Nat, (i : Int) < (tc_count S).toInt → (S.2.1 0 i).toInt < (S.1 6).toInt) ∧
  (∀ a : Nat, (a : Int) < (S.1 6).toInt → (S.2.1 3 a).toInt < (a : Int)) ∧
  ∀ a : Nat, (a : Int) < (S.1 6).toInt → ¬ S.2.1 5 a = 0 → S.2.1 2 a = 0
section TJA
variable {S : tc_S}
theorem tj.lv (h : tj S) : tc_lv (S.1 16) (S.1 17) := h.1
theorem tj.mm (h : tj S) : 3 ≤ (S.1 0).toInt ∧ (S.1 0).toInt ≤ 8 ∧ 1 ≤ (S.1 1).toInt ∧ (S.1 1).toInt ≤ 6 := h.2.1
theorem tj.ad (h : tj S) : (0 ≤ (S.1 2).toInt ∧ (S.1 2).toInt ≤ 400) ∧ (S.1 3).toInt ≤ 400 ∧ 0 ≤ (S.1 4).toInt ∧ (S.1 5).toInt ≤ 400 ∧ 0 ≤ (S.1 6).toInt ∧ (S.1 6).toInt ≤ 400 := h.2.2.1
theorem tj.im (h : tj S) : 0 ≤ (S.1 10).toInt ∧ (S.1 10).toInt ≤ 16 ∧ 0 ≤ (S.1 13).toInt := h.2.2.2.1
theorem tj.sg (h : tj S) : S.1 9 = 0 ∨ S.1 9 = 1 ∨ S.1 9 = 2 ∨ S.1 9 = 3 := h.2.2.2.2.1
theorem tj.ky (h : tj S) : ∀ i, tc_key (S.2.1 1 i) := h.2.2.2.2.2.1
theorem tj.bk (h : tj S) : ∀ i : Nat, (i : Int) < (tc_count S).toInt → (S.2.1 0 i).toInt < (S.1 6).toInt := h.2.2.2.2.2.2.1
theorem tj.ch (h : tj S) : ∀ a : Nat, (a : Int) < (S.1 6).toInt → (S.2.1 3 a).toInt < (a : Int) := h.2.2.2.2.2.2.2.1
theorem tj.sv (h : tj S) : ∀ a : Nat, (a : Int) < (S.1 6).toInt → ¬ S.2.1 5 a = 0 → S.2.1 2 a = 0 := h.2.2.2.2.2.2.2.2
end TJA
/-- a loop's counter -/
theorem tc_nge {n k : Nat} {m : Int32} (h : n < k) (hk : k < 2 ^ 31) (hm : m = nI k := by decide) : ¬ m ≤ nI n := by
  rw [hm]; exact nI_ge h hk
theorem tc_up {k n : Nat} (h : n + 1 ≤ k) : nI (k - (n + 1)) + Int32.ofInt 1 = nI (k - n) := by
  rw [show k - n = (k - (n + 1)) + 1 by omega, nI_succ]
  rfl
theorem tc_up32 {n : Nat} (h : n + 1 ≤ 32) : nI (32 - (n + 1)) + 1 = nI (32 - n) := tc_up h
theorem tc_kz {e k : Int32} (hn : e.toInt ≤ k.toInt + (0 : Nat)) : e ≤ k := tz_le.mpr (by omega)
theorem tc_kb {e k : Int32} (hk : 0 ≤ k.toInt) (h : ¬ e ≤ k) : 0 ≤ (k + 1).toInt := by
  rw [tz_le] at h
  have h1 := tz_up e
  rw [tz_add1 (by omega)]
  omega
theorem tc_kn {e k : Int32} {n : Nat} {m : Int} (_he : e.toInt ≤ m) (hn : e.toInt ≤ k.toInt + (n + 1 : Nat)) (h : ¬ e ≤ k) : e.toInt ≤ (k + 1).toInt + n := by
  rw [tz_le] at h
  have h1 := tz_up e
  rw [tz_add1 (by omega)]
  omega
theorem tc_ka {e k : Int32} (h : ¬ e ≤ k) : (k + 1).toInt ≤ e.toInt := by
  rw [tz_le] at h
  have h1 := tz_up e
  rw [tz_add1 (by omega)]
  omega
theorem tc_in16 {e k : Int32} (hk : 0 ≤ k.toInt) (he : e.toInt ≤ 16) (h : ¬ e ≤ k) : vp_in k 16 := by
  rw [tz_le] at h
  exact tz_in hk (by omega)
theorem tc_nar {x : Int32} (h : x = 0 ∨ x = 1) : vp_nar .boolean x = x := by
  rcases h with rfl | rfl <;> decide
theorem tc_nz {S : tc_S} (hI : tj S) : ¬ tc_two (S.1 16) = 0 := by
  obtain ⟨p, h1, h2, h3, -⟩ := hI.lv.two
  intro h
  rw [h, tz_0] at h1
  omega
theorem tc_nz1 {S : tc_S} (hI : tj S) : ¬ tc_two (S.1 16 + 1) = 0 := by
  obtain ⟨p, h1, h2, h3, -⟩ := hI.lv.two
  intro h
  rw [h, tz_0] at h2
  omega
theorem tc_inSplit {S : tc_S} (hI : tj S) : vp_in (S.1 17) 16 := by
  obtain ⟨p, h1, h2, h3, h4, h5, h6⟩ := hI.lv.two
  exact tz_in h4 (by omega)
theorem tc_count_16 {S : tc_S} (h : tc_lv (S.1 16) (S.1 17)) : 2 ≤ (tc_count S).toInt ∧ (tc_count S).toInt ≤ 16 := by
  obtain ⟨p, h1, h2, h3, h4, h5, h6, h7⟩ := tc_cnt h
  omega
theorem tc_inCount {S : tc_S} (hI : tj S) (hc : tc_count S < 16) : vp_in (tc_count S) 16 := by
  have h1 := tc_count_16 hI.lv
  rw [tz_lt, tz_16] at hc
  exact tz_in (by omega) (by omega)
theorem tc_hash_in {key : Int32} (hk : tc_key key) : 0 ≤ (tc_hash key).toInt ∧ (tc_hash key).toInt < 32 := by
  have h0 := hk.1
  have h9 := hk.2
  have h1 : (13 * key).toInt = 13 * key.toInt := by
    rw [tz_mul (by rw [tz_13]; omega) (by rw [tz_13]; omega), tz_13]
  have h2 : (13 * key + 5).toInt = 13 * key.toInt + 5 := by
    rw [tz_add (by rw [h1, tz_5]; omega) (by rw [h1, tz_5]; omega), h1, tz_5]
  rw [tc_hash, tz_rem (by rw [h2]; omega), h2, tz_32]
  omega
theorem tc_bucket_lt {S : tc_S} {key : Int32} (hl : tc_lv (S.1 16) (S.1 17)) (hk : tc_key key) : 0 ≤ (tc_bucketOf S key).toInt ∧ (tc_bucketOf S key).toInt < (tc_count S).toInt := by
  have hh := tc_hash_in hk
  obtain ⟨p, h1, h2, h3, h4, h5, h6, h7⟩ := tc_cnt hl
  have e1 : (tc_low S key).toInt = (tc_hash key).toInt % p := by rw [tc_low, tz_rem hh.1, h1]
  have e2 : (tc_rem (tc_hash key) (tc_two (S.1 16 + 1))).toInt = (tc_hash key).toInt % (2 * p) := by rw [tz_rem hh.1, h2]
  rw [h7]
  unfold tc_bucketOf
  by_cases h : S.1 17 ≤ tc_low S key
  · rw [if_pos h, e1]
    rcases h3 with rfl | rfl | rfl | rfl <;> omega
  · rw [if_neg h, e2]
    rw [tz_le, e1] at h
    rcases h3 with rfl | rfl | rfl | rfl <;> omega
theorem tc_inBucket {S : tc_S} {key : Int32} (hI : tj S) (hk : tc_key key) : vp_in (tc_bucketOf S key) 16 := by
  have h1 := tc_bucket_lt hI.lv hk
  have h2 := tc_count_16 hI.lv
  exact tz_in h1.1 (by omega)
theorem tc_bk {S : tc_S} {key : Int32} (hI : tj S) (hk : tc_key key) : (tc_r S 0 (tc_bucketOf S key)).toInt < (S.1 6).toInt := by
  have h1 := tc_bucket_lt hI.lv hk
  exact hI.bk _ (by rw [tz_clamp h1.1]; exact h1.2)
theorem tc_keyOf {key : Int32} (h : ¬ tc_isKey key = 0) : tc_key key := by
  unfold tc_isKey at h
  by_cases h1 : key < 0
  · rw [if_pos h1] at h; exact absurd rfl h
  · rw [if_neg h1] at h
    by_cases h2 : (32 : Int32) ≤ key
    · rw [if_pos h2] at h; exact absurd rfl h
    · rw [tz_lt, tz_0] at h1
      rw [tz_le, tz_32] at h2
      exact ⟨by omega, by omega⟩
theorem tc_keyN {n : Nat} (h : n < 32) : tc_key (nI n) := ⟨by rw [nI_toInt (by omega)]; omega, by rw [nI_toInt (by omega)]; omega⟩
/-- a record on a chain -/
theorem tc_a0 {S : tc_S} {a : Int32} (hI : tj S) (h : ¬ a < S.1 2) : 0 ≤ a.toInt := by
  rw [tz_lt] at h
  have h1 := hI.ad.1.1
  omega
theorem tc_inB {S : tc_S} {a : Int32} (hI : tj S) (ha : a.toInt < (S.1 6).toInt) (h : ¬ a < S.1 2) : vp_in a 400 := by
  have h1 := hI.ad.2.2.2.2.2
  exact tz_in (tc_a0 hI h) (by omega)
theorem tc_prev {S : tc_S} {a : Int32} (hI : tj S) (ha : a.toInt < (S.1 6).toInt) (h : ¬ a < S.1 2) : (tc_r S 3 a).toInt < a.toInt := by
  have h0 := tz_clamp (tc_a0 hI h)
  have h1 := hI.ch a.toNatClampNeg (by omega)
  show (S.2.1 3 a.toNatClampNeg).toInt < _
  omega
theorem tc_prevT {S : tc_S} {a : Int32} (hI : tj S) (ha : a.toInt < (S.1 6).toInt) (h : ¬ a < S.1 2) : (tc_r S 3 a).toInt < (S.1 6).toInt := by
  have h1 := tc_prev hI ha h
  omega
theorem tc_f_self (S : tc_S) (k : Nat) : tc_f S k (S.1 k) = S := by
  have h : upd S.1 k (S.1 k) = S.1 := by
    funext j
    unfold upd
    split
    · next h => rw [h]
    · rfl
  unfold tc_f
  rw [h]
theorem tc_findGo_0 (S : tc_S) (key : Int32) : ∀ (n : Nat) (a r : Int32), (tc_findGo S key 0 n a r).2 = r
  | 0, _, _ => rfl
  | n + 1, a, r => by
    unfold tc_findGo
    split
    · rfl
    · split
      · rfl
      · rw [if_pos rfl]; exact tc_findGo_0 S key n _ _
theorem tc_find_same {S : tc_S} {key : Int32} : (tc_find S key 0).2 = S := by
  show tc_f S 15 (tc_find0 S key 0).2 = S
  rw [tc_find0, tc_findGo_0]
  exact tc_f_self S 15
/-- what is found lies below the tail, and not below the begin -/
theorem tc_findGo_in {S : tc_S} (hI : tj S) (key cnt : Int32) : ∀ (n : Nat) (a r : Int32), a.toInt < (S.1 6).toInt → (tc_findGo S key cnt n a r).1 = -1 ∨ (¬ (tc_findGo S key cnt n a r).1 < S.1 2 ∧ (tc_findGo S key cnt n a r).1.toInt < (S.1 6).toInt)
  | 0, _, _, _ => Or.inl rfl
  | n + 1, a, r, ha => by
    unfold tc_findGo
    by_cases h1 : a < S.1 2
    · rw [if_pos h1]; exact Or.inl rfl
    · rw [if_neg h1]
      by_cases h2 : tc_r S 1 a = key
      · rw [if_pos h2]; exact Or.inr ⟨h1, ha⟩
      · rw [if_neg h2]
        exact tc_findGo_in hI key cnt n _ _ (tc_prevT hI ha h1)
theorem tc_find_T {S : tc_S} {key cnt : Int32} (hI : tj S) (hk : tc_key key) : (tc_find S key cnt).1 = -1 ∨ (0 ≤ (tc_find S key cnt).1.toInt ∧ (tc_find S key cnt).1.toInt < (S.1 6).toInt) := by
  rcases tc_findGo_in hI key cnt 400 _ (S.1 15) (tc_bk hI hk) with h | h
  · exact Or.inl h
  · exact Or.inr ⟨tc_a0 hI h.1, h.2⟩
theorem tc_find_in {S : tc_S} {key cnt : Int32} (hI : tj S) (hk : tc_key key) : ¬ (tc_find S key cnt).1 = -1 → vp_in (tc_find S key cnt).1 400 := by
  intro h
  have h1 := hI.ad.2.2.2.2.2
  rcases tc_find_T (cnt := cnt) hI hk with h2 | h2
  · exact absurd h2 h
  · exact tz_in h2.1 (by omega)
theorem tc_hv {S : tc_S} {a : Int32} (h : ¬ tc_hasValue S a = 0) : ¬ a = -1 := by
  intro h1
  apply h
  unfold tc_hasValue
  rw [if_pos h1]
theorem tc_inTail {S : tc_S} (hI : tj S) (ht : ¬ 400 ≤ S.1 6) : vp_in (S.1 6) 400 := by
  rw [tz_le, tz_400] at ht
  exact tz_in hI.ad.2.2.2.2.1 (by omega)
theorem tc_inEntry {S : tc_S} {a : Int32} (hI : tj S) (h1 : ¬ a < S.1 2) (h2 : a < S.1 6) : vp_in a 400 := tc_inB hI (tz_lt.mp h2) h1
theorem tc_inIx {S : tc_S} {k : Int32} (hI : tj S) (h1 : ¬ k < 0) (h2 : k < tc_count S) : vp_in k 16 := by
  rw [tz_lt, tz_0] at h1
  rw [tz_lt] at h2
  have h3 := tc_count_16 hI.lv
  exact tz_in (by omega) (by omega)
theorem tc_min16 {S : tc_S} (hI : tj S) : (tc_min (tc_count S) (S.1 10 + 4)).toInt ≤ 16 := by
  have h3 := tc_count_16 hI.lv
  rw [tz_min]
  split <;> omega
theorem tc_bi0 {S : tc_S} (hI : tj S) : 0 ≤ (S.1 10).toInt := hI.im.1
theorem tc_bi16 {S : tc_S} (hI : tj S) : (tc_min (tc_count S) (S.1 10 + 4)).toInt ≤ (S.1 10).toInt + (16 : Nat) := by
  have h1 := tc_min16 hI
  have h2 := hI.im.1
  omega
theorem tz_d10 : ¬ ((1 : Int32) = 0) := by decide
theorem tz_d20 : ¬ ((2 : Int32) = 0) := by decide
theorem tz_d21 : ¬ ((2 : Int32) = 1) := by decide
theorem tz_d30 : ¬ ((3 : Int32) = 0) := by decide
theorem tz_d31 : ¬ ((3 : Int32) = 1) := by decide
theorem tz_d32 : ¬ ((3 : Int32) = 2) := by decide
theorem tz_d40 : ¬ ((4 : Int32) = 0) := by decide
theorem tz_d41 : ¬ ((4 : Int32) = 1) := by decide
theorem tz_d42 : ¬ ((4 : Int32) = 2) := by decide
theorem tz_d43 : ¬ ((4 : Int32) = 3) := by decide
theorem tz_d50 : ¬ ((5 : Int32) = 0) := by decide
theorem tz_d51 : ¬ ((5 : Int32) = 1) := by decide
theorem tz_d52 : ¬ ((5 : Int32) = 2) := by decide
theorem tz_d53 : ¬ ((5 : Int32) = 3) := by decide
theorem tz_d54 : ¬ ((5 : Int32) = 4) := by decide
theorem tz_d60 : ¬ ((6 : Int32) = 0) := by decide
theorem tz_d61 : ¬ ((6 : Int32) = 1) := by decide
theorem tz_d62 : ¬ ((6 : Int32) = 2) := by decide
theorem tz_d63 : ¬ ((6 : Int32) = 3) := by decide
theorem tz_d64 : ¬ ((6 : Int32) = 4) := by decide
theorem tz_d65 : ¬ ((6 : Int32) = 5) := by decide
theorem tz_b0 : (0 : Int32) &&& 1 = 0 := by decide
theorem tz_b1 : (1 : Int32) &&& 1 = 1 := by decide
theorem tc_wb_bit (S : tc_S) : (tc_writeBlock S).1 &&& 1 = (tc_writeBlock S).1 := by
  unfold tc_writeBlock
  split
  · split
    · exact tz_b1
    · exact tz_b0
  · split
    · exact tz_b0
    · exact tz_b1
theorem tc_wb_sw (S : tc_S) : (tc_writeBlock S).2.2.2 = S.2.2 := by
  unfold tc_writeBlock
  split
  · rfl
  · split <;> rfl
theorem tc_flushPage_sw (S : tc_S) (t : Int32) : (tc_flushPage S t).2.2.2 = S.2.2 := tc_wb_sw _
theorem tc_restGo_sw : ∀ (n : Nat) (S : tc_S) (i e : Int32), (tc_restGo n S i e).2.2 = S.2.2
  | 0, _, _, _ => rfl
  | n + 1, S, i, e => by
    unfold tc_restGo
    split
    · rfl
    · rw [tc_restGo_sw n]; rfl
theorem tc_restore_sw (S : tc_S) : (tc_restore S).2.2 = S.2.2 := tc_restGo_sw 17 _ _ _
/-- what the way back to the cut needs: the cut, the tail, the chains -/
def tc_Rc (S : tc_S) : Prop := 0 ≤ (S.1 20).toInt ∧ (S.1 6).toInt ≤ 400 ∧ ∀ a : Nat, (a : Int) < (S.1 6).toInt → (S.2.1 3 a).toInt < (a : Int)
def tc_Ri (S : tc_S) (e : Int32) : Prop := ∀ k : Int32, 0 ≤ k.toInt → k.toInt < e.toInt → (tc_r S 6 k).toInt < (S.1 6).toInt
theorem tc_inC {S : tc_S} {a : Int32} (hR : tc_Rc S) (ha : a.toInt < (S.1 6).toInt) (h : ¬ a < S.1 20) : vp_in a 400 := by
  rw [tz_lt] at h
  have h1 := hR.1
  have h2 := hR.2.1
  exact tz_in (by omega) (by omega)
theorem tc_prevC {S : tc_S} {a : Int32} (hR : tc_Rc S) (ha : a.toInt < (S.1 6).toInt) (h : ¬ a < S.1 20) : (tc_r S 3 a).toInt < (S.1 6).toInt := by
  rw [tz_lt] at h
  have h1 := hR.1
  have h0 := tz_clamp (a := a) (by omega)
  have h3 := hR.2.2 a.toNatClampNeg (by omega)
  show (S.2.1 3 a.toNatClampNeg).toInt < _
  omega
theorem tc_imC {S : tc_S} {e k : Int32} (him : tc_Ri S e) (hk : 0 ≤ k.toInt) (h : ¬ e ≤ k) : (tc_r S 6 k).toInt < (S.1 6).toInt := by
  rw [tz_le] at h
  exact him k hk (by omega)
theorem tc_cn17 {e : Int32} (he : e.toInt ≤ 16) : e.toInt ≤ (0 : Int32).toInt + (17 : Nat) := by
  rw [tz_0]
  omega
def tc_Rv (S : tc_S) : Prop := tc_lv (S.1 22) (S.1 23) ∧ tc_Rc (tc_rest1 (tc_rec1 S)) ∧ tc_Ri (tc_rest1 (tc_rec1 S)) (tc_count (tc_rest1 (tc_rec1 S)))
/-- blocks, pages, records keep tj -/
theorem tj_wb {S : tc_S} (h : tj S) : tj (tc_writeBlock S).2 := by
  unfold tc_writeBlock
  by_cases h1 : S.1 13 ≤ 0
  · rw [if_pos h1]; exact h
  · rw [if_neg h1]
    have h2 : 0 ≤ (S.1 13 - 1).toInt := by
      rw [tz_le, tz_0] at h1
      rw [tz_sub1 (by omega)]
      omega
    by_cases h3 : S.1 13 - 1 = 0
    · rw [if_pos h3]; exact ⟨h.1, h.2.1, h.2.2.1, ⟨h.im.1, h.im.2.1, h2⟩, h.2.2.2.2⟩
    · rw [if_neg h3]; exact ⟨h.1, h.2.1, h.2.2.1, ⟨h.im.1, h.im.2.1, h2⟩, h.2.2.2.2⟩
theorem tj_fp {S : tc_S} {t : Int32} (h : tj S) (h1 : ¬ t ≤ S.1 4) (ht : t.toInt ≤ 400) : tj (tc_flushPage S t).2 := by
  rw [tz_le] at h1
  have h2 := h.ad.2.2.1
  have h3 := tz_pe (a := S.1 4) h2 (by omega)
  have h4 : 0 ≤ (tc_min t (tc_pageEnd (S.1 4))).toInt := by
    rw [tz_min]
    split <;> omega
  have h5 : tj (tc_f S 4 (tc_min t (tc_pageEnd (S.1 4)))) := ⟨h.1, h.2.1, ⟨h.ad.1, h.ad.2.1, h4, h.ad.2.2.2⟩, h.2.2.2⟩
  exact tj_wb h5
theorem tj_flush {t : Int32} (ht : t.toInt ≤ 400) : ∀ (n : Nat) (S : tc_S), tj S → tj (tc_flushGo n S t).2
  | 0, _, h => h
  | n + 1, S, h => by
    unfold tc_flushGo
    by_cases h1 : t ≤ S.1 4
    · rw [if_pos h1]; exact h
    · rw [if_neg h1]
      by_cases h2 : (tc_flushPage S t).1 = 0
      · rw [if_pos h2]; exact tj_fp h h1 ht
      · rw [if_neg h2]; exact tj_flush ht n _ (tj_fp h h1 ht)
/-- all but the numbers of L are as they were -/
def tc_fr (L : List Nat) (S S' : tc_S) : Prop := S'.2 = S.2 ∧ ∀ k, k ∉ L → S'.1 k = S.1 k
theorem tc_fr.rf {L : List Nat} {S : tc_S} : tc_fr L S S := ⟨rfl, fun _ _ => rfl⟩
theorem tc_fr.tr {L : List Nat} {S S1 S2 : tc_S} (h1 : tc_fr L S S1) (h2 : tc_fr L S1 S2) : tc_fr L S S2 := ⟨h2.1.trans h1.1, fun k hk => (h2.2 k hk).trans (h1.2 k hk)⟩
theorem tc_fr.f {L : List Nat} {S S1 : tc_S} {k : Nat} {x : Int32} (h : tc_fr L S S1) (hk : k ∈ L) : tc_fr L S (tc_f S1 k x) := by
  refine ⟨h.1, fun j hj => ?_⟩
  have hne : ¬ j = k := fun e => hj (e ▸ hk)
  show (if j = k then x else S1.1 j) = _
  rw [if_neg hne]
  exact h.2 j hj
abbrev tc_L : List Nat := [3, 4, 5, 12, 13, 14]
theorem tc_wb_fr (S : tc_S) : tc_fr tc_L S (tc_writeBlock S).2 := by
  unfold tc_writeBlock
  split
  · exact tc_fr.rf.f (by decide)
  · split
    · exact ((tc_fr.rf.f (by decide)).f (by decide)).f (by decide)
    · exact ((tc_fr.rf.f (by decide)).f (by decide)).f (by decide)
theorem tc_fp_fr (S : tc_S) (t : Int32) : tc_fr tc_L S (tc_flushPage S t).2 := (tc_fr.rf.f (by decide)).tr (tc_wb_fr _)
theorem tc_flush_fr (t : Int32) : ∀ (n : Nat) (S : tc_S), tc_fr tc_L S (tc_flushGo n S t).2
  | 0, _ => tc_fr.rf
  | n + 1, S => by
    unfold tc_flushGo
    split
    · exact tc_fr.rf
    · split
      · exact tc_fp_fr S t
      · exact (tc_fp_fr S t).tr (tc_flush_fr t n _)
theorem tc_open_fr (S : tc_S) : tc_fr tc_L S (tc_openPage S).2 := by
  have h1 : tc_fr tc_L S (tc_open1 S) := tc_fr.rf.f (by decide)
  unfold tc_openPage
  split
  · exact h1.f (by decide)
  · split
    · exact h1.f (by decide)
    · split
      · exact h1.tr (tc_flush_fr _ _ _)
      · exact (h1.tr (tc_flush_fr _ _ _)).f (by decide)
theorem tc_fixed_le {S : tc_S} (h : tj S) : (tc_max (S.1 5) (S.1 6 - (S.1 1 - 1) * 4)).toInt ≤ 400 := by
  have h1 := h.ad
  have h2 := h.mm
  have e1 : (S.1 1 - 1).toInt = (S.1 1).toInt - 1 := tz_sub1 (by omega)
  have e2 : ((S.1 1 - 1) * 4).toInt = ((S.1 1).toInt - 1) * 4 := by rw [tz_mul (by rw [e1, tz_4]; omega) (by rw [e1, tz_4]; omega), e1, tz_4]
  have e3 : (S.1 6 - (S.1 1 - 1) * 4).toInt = (S.1 6).toInt - ((S.1 1).toInt - 1) * 4 := by rw [tz_sub (by rw [e2]; omega) (by rw [e2]; omega), e2]
  rw [tz_max, e3]
  split <;> omega
theorem tc_nh_le {S : tc_S} (h : tj S) : (tc_newHead S).toInt ≤ 400 := by
  have h1 := h.ad
  have h2 := h.mm
  have e1 : (S.1 0 - 1).toInt = (S.1 0).toInt - 1 := tz_sub1 (by omega)
  have e2 : ((S.1 0 - 1) * 4).toInt = ((S.1 0).toInt - 1) * 4 := by rw [tz_mul (by rw [e1, tz_4]; omega) (by rw [e1, tz_4]; omega), e1, tz_4]
  unfold tc_newHead
  rw [tz_sub (by rw [e2]; omega) (by rw [e2]; omega), e2]
  omega
theorem tj_open1 {S : tc_S} (h : tj S) : tj (tc_open1 S) := ⟨h.1, h.2.1, ⟨h.ad.1, h.ad.2.1, h.ad.2.2.1, tc_fixed_le h, h.ad.2.2.2.2⟩, h.2.2.2⟩
theorem tj_open2 {S : tc_S} {n : Int32} (h : tj S) (hn : n.toInt ≤ 400) : tj (tc_open2 S n) := by
  have h1 : (tc_max (S.1 3) n).toInt ≤ 400 := by
    have := h.ad.2.1
    rw [tz_max]
    split <;> omega
  exact ⟨h.1, h.2.1, ⟨h.ad.1, h1, h.ad.2.2⟩, h.2.2.2⟩
theorem tc_open_I {S : tc_S} (h : tj S) : tj (tc_openPage S).2 := by
  have h1 := tj_open1 h
  have h2 := tc_nh_le h
  have h3 := tj_flush (t := (tc_open1 S).1 5) h1.ad.2.2.2.1 100 _ h1
  unfold tc_openPage
  split
  · exact tj_open2 h1 h2
  · split
    · exact tj_open2 h1 h2
    · split
      · exact h3
      · exact tj_open2 h3 h2
theorem tc_open_t {S : tc_S} (ht : ¬ 400 ≤ S.1 6) : ¬ 400 ≤ (tc_openPage S).2.1 6 := by
  rw [(tc_open_fr S).2 6 (by decide)]
  exact ht
theorem upd_at {f : Nat → Int32} {k j : Nat} {x : Int32} : upd f k x j = if j = k then x else f j := rfl
theorem tj_record {S : tc_S} {key value stone : Int32} (h : tj S) (hk : tc_key key) (ht : ¬ 400 ≤ S.1 6) (hs : ¬ stone = 0 → value = 0) : tj (tc_record S key value stone) := by
  have hb := tc_bk h hk
  have hb0 := tc_bucket_lt h.lv hk
  have a5 := h.ad.2.2.2.2.1
  rw [tz_le, tz_400] at ht
  have e1 : (S.1 6 + 1).toInt = (S.1 6).toInt + 1 := tz_add1 (by omega)
  have ec := tz_clamp a5
  refine ⟨h.1, h.2.1, ⟨h.ad.1, h.ad.2.1, h.ad.2.2.1, h.ad.2.2.2.1, ?_, ?_⟩, h.2.2.2.1, h.2.2.2.2.1, ?_, ?_, ?_, ?_⟩
  · show 0 ≤ (S.1 6 + 1).toInt
    omega
  · show (S.1 6 + 1).toInt ≤ 400
    omega
  · intro i
    show tc_key (upd (S.2.1 1) (S.1 6).toNatClampNeg key i)
    rw [upd_at]
    split
    · exact hk
    · exact h.ky i
  · intro i hi
    show (upd (S.2.1 0) (tc_bucketOf S key).toNatClampNeg (S.1 6) i).toInt < (S.1 6 + 1).toInt
    rw [upd_at, e1]
    split
    · omega
    · have := h.bk i hi
      omega
  · intro a ha
    have ha1 : (a : Int) < (S.1 6 + 1).toInt := ha
    show (upd (S.2.1 3) (S.1 6).toNatClampNeg (tc_r S 0 (tc_bucketOf S key)) a).toInt < (a : Int)
    rw [upd_at]
    split
    · next e => rw [e, ec]; exact hb
    · next e => exact h.ch a (by omega)
  · intro a ha
    have ha1 : (a : Int) < (S.1 6 + 1).toInt := ha
    show ¬ upd (S.2.1 5) (S.1 6).toNatClampNeg stone a = 0 → upd (S.2.1 2) (S.1 6).toNatClampNeg value a = 0
    rw [upd_at, upd_at]
    split
    · exact hs
    · next e => exact h.sv a (by omega)
theorem tj_append {S : tc_S} {key value stone : Int32} (h : tj S) (hk : tc_key key) (ht : ¬ 400 ≤ S.1 6) (hs : ¬ stone = 0 → value = 0) : tj (tc_append S key value stone).2 := by
  unfold tc_append
  split
  · split
    · exact tc_open_I h
    · exact tj_record (tc_open_I h) hk (tc_open_t ht) hs
  · exact tj_record h hk ht hs
/-- how far the tail goes -/
theorem tc_app_t {S : tc_S} {key value stone : Int32} (ht : ¬ 400 ≤ S.1 6) : ((tc_append S key value stone).2.1 6).toInt ≤ (S.1 6).toInt + 1 := by
  have e : ∀ S1 : tc_S, S1.1 6 = S.1 6 → ((tc_record S1 key value stone).1 6).toInt ≤ (S.1 6).toInt + 1 := by
    intro S1 h1
    show (S1.1 6 + 1).toInt ≤ _
    rw [tz_le, tz_400] at ht
    rw [h1, tz_add1 (by omega)]
    omega
  have h6 := (tc_open_fr S).2 6 (by decide)
  unfold tc_append
  split
  · split
    · show ((tc_openPage S).2.1 6).toInt ≤ _
      rw [h6]; omega
    · exact e _ h6
  · exact e _ rfl
/-- a compaction's loop -/
theorem tc_rd_I {S : tc_S} {x : Int32} (hI : tj S) : tj (tc_f S 15 x) := hI
theorem tc_find_I {S : tc_S} {key cnt : Int32} (hI : tj S) : tj (tc_find S key cnt).2 := hI
theorem tc_inP {a e : Int32} (ha : 0 ≤ a.toInt) (he : e.toInt ≤ 400) (h : ¬ e ≤ a) : vp_in a 400 := by
  rw [tz_le] at h
  exact tz_in ha (by omega)
theorem tc_ct {S : tc_S} {a e : Int32} (ht : (S.1 6).toInt + (e.toInt - a.toInt) ≤ 400) (h : ¬ e ≤ a) : ¬ 400 ≤ S.1 6 := by
  rw [tz_le] at h
  rw [tz_le, tz_400]
  omega
theorem tc_cn {e a : Int32} {n : Nat} (hn : e.toInt < a.toInt + (n + 1 : Nat)) (h : ¬ e ≤ a) : e.toInt < (a + 1).toInt + n := by
  rw [tz_le] at h
  have h1 := tz_up e
  rw [tz_add1 (by omega)]
  omega
theorem tc_ct1 {S : tc_S} {a e x : Int32} (ht : (S.1 6).toInt + (e.toInt - a.toInt) ≤ 400) (h : ¬ e ≤ a) : ((tc_f S 15 x).1 6).toInt + (e.toInt - (a + 1).toInt) ≤ 400 := by
  rw [tz_le] at h
  have h1 := tz_up e
  rw [tz_add1 (by omega)]
  show (S.1 6).toInt + _ ≤ _
  omega
theorem tc_ct2 {S : tc_S} {a e x key value stone : Int32} (ht : (S.1 6).toInt + (e.toInt - a.toInt) ≤ 400) (h : ¬ e ≤ a) : ((tc_append (tc_f S 15 x) key value stone).2.1 6).toInt + (e.toInt - (a + 1).toInt) ≤ 400 := by
  have h2 := tc_app_t (S := tc_f S 15 x) (key := key) (value := value) (stone := stone) (tc_ct (S := tc_f S 15 x) (a := a) (e := e) ht h)
  have h3 : ((tc_f S 15 x).1 6).toInt = (S.1 6).toInt := rfl
  rw [tz_le] at h
  have h1 := tz_up e
  rw [tz_add1 (by omega)]
  omega
theorem tc_pe400 {S : tc_S} (hI : tj S) (h : tc_pageEnd (S.1 2) ≤ S.1 3) : (tc_pageEnd (S.1 2)).toInt ≤ 400 := by
  rw [tz_le] at h
  have h1 := hI.ad.2.1
  omega
theorem tc_begin0 {S : tc_S} (hI : tj S) : 0 ≤ (S.1 2).toInt := hI.ad.1.1
theorem tc_pe5 {S : tc_S} (hI : tj S) : (tc_pageEnd (S.1 2)).toInt < (S.1 2).toInt + (5 : Nat) := by
  rw [tz_pe hI.ad.1.1 hI.ad.1.2]
  have h1 := hI.ad.1.1
  omega
theorem tc_pe396 {S : tc_S} (hI : tj S) (h : S.1 6 ≤ 396) : (S.1 6).toInt + ((tc_pageEnd (S.1 2)).toInt - (S.1 2).toInt) ≤ 400 := by
  have h1 := hI.ad.1.1
  rw [tz_le, tz_396] at h
  rw [tz_pe hI.ad.1.1 hI.ad.1.2]
  omega
theorem tc_pe0 {S : tc_S} (hI : tj S) : (S.1 2).toInt ≤ (tc_pageEnd (S.1 2)).toInt := by
  rw [tz_pe hI.ad.1.1 hI.ad.1.2]
  have h1 := hI.ad.1.1
  omega
