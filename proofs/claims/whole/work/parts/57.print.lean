/-! a number written: the class's writeNumber and the model's number -/
theorem l10 : ((10 : Int64)) = lN 10 := rfl
theorem dig_char {d : Nat} (h : d < 10) : (((48 + lN d).toInt32).toUInt32 % 65536).toInt32 = nI (d + 48) ∧ (lN d).toInt32 + 48 = nI (d + 48) ∧ vp_nar .char (nI (d + 48)) = nI (d + 48) := by
  rcases (show d = 0 ∨ d = 1 ∨ d = 2 ∨ d = 3 ∨ d = 4 ∨ d = 5 ∨ d = 6 ∨ d = 7 ∨ d = 8 ∨ d = 9 by omega) with rfl | rfl | rfl | rfl | rfl | rfl | rfl | rfl | rfl | rfl <;> decide +kernel
theorem ll_pos {u : Nat} (h : 1 ≤ u) (hu : u < 2 ^ 40) : ¬ (lg_cmp (lN u) 0 ≤ 0) := fun q => by
  have := (lg_cmp_le _ _).mp q
  have h2 : lN u ≤ lN 0 := this
  rw [pk_lLE (by omega) (by omega)] at h2
  omega
theorem lN_ne0 {u : Nat} (h : 1 ≤ u) (hu : u < 2 ^ 40) : ¬ lN u = 0 := fun q => by
  have h2 : lN u = lN 0 := q
  rw [pk_lEQ (by omega) (by omega)] at h2
  omega
/-- the digits: both write the same -/
theorem lp_dig {a : Nat} (ha : a < 2 ^ 40) : ∀ (n u k : Nat) (f : Nat → Int32), u < 10 ^ n → u < 2 ^ 40 → k ≤ 300 → ∃ (k' : Nat) (f' : Nat → Int32), k' ≤ 300 ∧ b_X7_writeNumber_58 (n + 1) (lN a) (lN u) (nI k, f) = some (nI k', f') ∧ b_X12_number_65 (n + 1) (lN a) (lN u) (nI k, f) = some (nI k', f') := by
  intro n
  induction n with
  | zero =>
    intro u k f h _ hk
    obtain rfl : u = 0 := by simp at h; omega
    exact ⟨k, f, hk, by unfold b_X7_writeNumber_58; rw [if_pos (show lg_cmp (lN 0) 0 ≤ 0 by decide)], by unfold b_X12_number_65; rw [if_pos (show lg_cmp (lN 0) 0 ≤ 0 by decide)]⟩
  | succ n ih =>
    intro u k f hu hu2 hk
    unfold b_X7_writeNumber_58 b_X12_number_65
    by_cases q : u = 0
    · subst q
      exact ⟨k, f, hk, by rw [if_pos (show lg_cmp (lN 0) 0 ≤ 0 by decide)], by rw [if_pos (show lg_cmp (lN 0) 0 ≤ 0 by decide)]⟩
    · have hd : a / u % 10 < 10 := Nat.mod_lt _ (by omega)
      have hau : a / u < 2 ^ 40 := Nat.lt_of_le_of_lt (Nat.div_le_self _ _) ha
      obtain ⟨c1, c2, c3⟩ := dig_char hd
      have hq : lN a / lN u = lN (a / u) := pk_lDiv (by omega) (by omega) (by omega)
      have hm : lN (a / u) - lN (a / u) / 10 * 10 = lN (a / u % 10) := by rw [l10]; exact pk_lRem (by omega) (by omega) (by omega)
      have hu10 : lN u / 10 = lN (u / 10) := by rw [l10]; exact pk_lDiv (by omega) (by omega) (by omega)
      have hlt : u / 10 < 10 ^ n := by rw [Nat.pow_succ] at hu; omega
      obtain ⟨k1, f1, g1, g2, g3⟩ := ih (u / 10) (if k = 300 then k else k + 1) (if k = 300 then f else upd f k (nI (a / u % 10 + 48))) hlt (by omega) (by split <;> omega)
      have e : (if k = 300 then (nI k, f) else (nI (k + 1), upd f k (nI (a / u % 10 + 48)))) = (nI (if k = 300 then k else k + 1), (if k = 300 then f else upd f k (nI (a / u % 10 + 48)))) := by split <;> rfl
      refine ⟨k1, f1, g1, ?_, ?_⟩
      · rw [if_neg (ll_pos (by omega) hu2), ck_t (lN_ne0 (by omega) hu2), ck_t (show ¬ (10 : Int64) = 0 by decide), hq, hm, c1, v_write hk c3]
        show ck (¬ (10 : Int64) = 0) (b_X7_writeNumber_58 (n + 1) (lN a) (lN u / 10) _) = _
        rw [ck_t (by decide), hu10, e]; exact g2
      · rw [if_neg (ll_pos (by omega) hu2), ck_t (lN_ne0 (by omega) hu2), ck_t (show ¬ (10 : Int64) = 0 by decide), hq, hm, c2, w_write hk]
        show ck (¬ (10 : Int64) = 0) (b_X12_number_65 (n + 1) (lN a) (lN u / 10) _) = _
        rw [ck_t (by decide), hu10, e]; exact g3
theorem p10 {k : Nat} (h : k ≤ 9) : 10 ^ k ≤ 10 ^ 9 ∧ 1 ≤ 10 ^ k := ⟨Nat.pow_le_pow_right (by omega) h, Nat.one_le_pow _ _ (by omega)⟩
theorem lp_unit {a : Nat} (ha : a < 2 ^ 33) (x : Int32) : ∀ (r k n n' : Nat), k + r = 9 → r < n → r < n' → ∃ j, j ≤ 9 ∧ (∀ o : tO, b_X7_writeNumber_22 n (lN a) (lN (10 ^ k)) (nI (k + 1)) o = b_X7_writeNumber_54 (lN a) (lN (10 ^ j)) o) ∧ ∀ o : mO, b_X12_number_19 n' x (lN a) (lN (10 ^ k)) (nI k) o = b_X12_number_51 x (lN a) (lN (10 ^ j)) o := by
  intro r
  induction r with
  | zero =>
    intro k n n' hk hn hn'
    obtain rfl : k = 9 := by omega
    obtain ⟨n, rfl⟩ : ∃ z, n = z + 1 := ⟨n - 1, by omega⟩
    obtain ⟨n', rfl⟩ : ∃ z, n' = z + 1 := ⟨n' - 1, by omega⟩
    refine ⟨9, by omega, fun o => ?_, fun o => ?_⟩
    · unfold b_X7_writeNumber_22
      rw [if_pos (gle_10 (by omega) (by omega))]
    · unfold b_X12_number_19
      rw [if_neg (nle_10 (by omega)), ck_t (lN_ne0 (by omega) (by omega)), pk_lDiv (by omega) (by omega) (by omega), if_pos (show lg_cmp (lN (a / 10 ^ 9)) 10 < 0 from (lg_cmp_lt _ _).mpr (show lN (a / 10 ^ 9) < lN 10 from (pk_lLT (by omega) (by omega)).mpr (by omega)))]
  | succ r ih =>
    intro k n n' hk hn hn'
    obtain ⟨n, rfl⟩ : ∃ z, n = z + 1 := ⟨n - 1, by omega⟩
    obtain ⟨n', rfl⟩ : ∃ z, n' = z + 1 := ⟨n' - 1, by omega⟩
    obtain ⟨p1, p2⟩ := p10 (k := k) (by omega)
    have hdiv : a / 10 ^ k < 10 ↔ a < 10 ^ k * 10 := by rw [Nat.div_lt_iff_lt_mul (by omega), Nat.mul_comm]
    have hle : a / 10 ^ k ≤ a := Nat.div_le_self _ _
    have hmul : lN (10 ^ k) * 10 = lN (10 ^ k * 10) := lN_mul _ 10
    by_cases q : a < 10 ^ k * 10
    · refine ⟨k, by omega, fun o => ?_, fun o => ?_⟩
      · unfold b_X7_writeNumber_22
        rw [if_neg (nle_10 (by omega)), hmul, if_pos ((lg_cmp_gt _ _).mpr ((pk_lLT (by omega) (by omega)).mpr q))]
      · unfold b_X12_number_19
        rw [if_neg (nle_10 (by omega)), ck_t (lN_ne0 (by omega) (by omega)), pk_lDiv (by omega) (by omega) (by omega), if_pos (show lg_cmp (lN (a / 10 ^ k)) 10 < 0 from (lg_cmp_lt _ _).mpr (show lN (a / 10 ^ k) < lN 10 from (pk_lLT (by omega) (by omega)).mpr (hdiv.mpr q)))]
    · obtain ⟨j, hj, h1, h2⟩ := ih (k + 1) n n' (by omega) (by omega) (by omega)
      rw [Nat.pow_succ] at h1 h2
      refine ⟨j, hj, fun o => ?_, fun o => ?_⟩
      · unfold b_X7_writeNumber_22
        rw [if_neg (nle_10 (by omega)), hmul, if_neg (fun z => q ((pk_lLT (by omega) (by omega)).mp ((lg_cmp_gt _ _).mp z))), nI_1]
        exact h1 o
      · unfold b_X12_number_19
        rw [if_neg (nle_10 (by omega)), ck_t (lN_ne0 (by omega) (by omega)), pk_lDiv (by omega) (by omega) (by omega), if_neg (show ¬ lg_cmp (lN (a / 10 ^ k)) 10 < 0 from fun z => q (hdiv.mp ((pk_lLT (by omega) (by omega)).mp (show lN (a / 10 ^ k) < lN 10 from (lg_cmp_lt _ _).mp z)))), hmul, nI_1]
        exact h2 o
theorem print_mag {a : Nat} (ha : a < 2 ^ 33) (x : Int32) : ∃ u, u < 2 ^ 40 ∧ u < 10 ^ 1000009 ∧ (∀ o : tO, b_X7_writeNumber_16 (lN a) o = b_X7_writeNumber_58 FU (lN a) (lN u) o) ∧ ∀ o : mO, b_X12_number_12 x (lN a) o = b_X12_number_51 x (lN a) (lN u) o := by
  obtain ⟨j, hj, h1, h2⟩ := lp_unit ha x 9 0 FU FU (by omega) (by rw [FU_s]; omega) (by rw [FU_s]; omega)
  obtain ⟨p1, p2⟩ := p10 hj
  refine ⟨10 ^ j, by omega, Nat.pow_lt_pow_right (by omega) (by omega), fun o => ?_, fun o => ?_⟩
  · unfold b_X7_writeNumber_16
    exact h1 o
  · unfold b_X12_number_12
    exact h2 o
/-- a number is written: the same characters, on both sides -/
theorem print_eq (x : Int32) (k : Nat) (f : Nat → Int32) (hk : k ≤ 300) : ∃ (k' : Nat) (f' : Nat → Int32), k' ≤ 300 ∧ f_X7_writeNumber x (nI k, f) = some (nI k', f') ∧ f_X12_number x (nI k, f) = some (nI k', f') := by
  unfold f_X7_writeNumber f_X12_number
  by_cases q : (0 : Int32) ≤ x
  · obtain ⟨a, ha, rfl⟩ := nI_of (x := x) (Int32.not_lt.mpr q)
    obtain ⟨u, u1, u2, h1, h2⟩ := print_mag (a := a) (by omega) (nI a)
    obtain ⟨k', f', g1, g2, g3⟩ := lp_dig (a := a) (by omega) 1000009 u k f u2 u1 hk
    refine ⟨k', f', g1, ?_, ?_⟩
    · rw [if_pos q, nI_l ha, h1]; exact g2
    · rw [if_pos q, nI_l ha, h2]; unfold b_X12_number_51 b_X12_number_61
      rw [if_pos q]; exact g3
  · have hneg : x.toInt < 0 := by
      have := Int32.not_le.mp q
      exact Int32.lt_iff_toInt_lt.mp this
    have hlo : -2147483648 ≤ x.toInt := Int32.le_toInt x
    obtain ⟨a, ha, hxa⟩ : ∃ a : Nat, a < 2 ^ 33 ∧ -x.toInt64 = lN a := by
      refine ⟨(-x.toInt).toNat, by omega, Int64.toInt_inj.mp ?_⟩
      rw [Int64.toInt_neg, Int32.toInt_toInt64, pk_lT (by omega)]
      rw [Int.bmod_eq_of_le (by omega) (by omega)]
      omega
    obtain ⟨u, u1, u2, h1, h2⟩ := print_mag (a := a) (by omega) x
    have hw : vp_nar .char 45 = 45 := by decide +kernel
    have e : (if k = 300 then (nI k, f) else (nI (k + 1), upd f k 45)) = (nI (if k = 300 then k else k + 1), (if k = 300 then f else upd f k 45)) := by split <;> rfl
    obtain ⟨k', f', g1, g2, g3⟩ := lp_dig (a := a) (by omega) 1000009 u (if k = 300 then k else k + 1) (if k = 300 then f else upd f k 45) u2 u1 (by split <;> omega)
    refine ⟨k', f', g1, ?_, ?_⟩
    · rw [if_neg q, v_write hk hw, sb, hxa, h1, e]; exact g2
    · rw [if_neg q, hxa, h2]; unfold b_X12_number_51 b_X12_number_61
      rw [if_neg q, w_write hk, sb, e]; exact g3
