/-! a number written: the class's writeNumber and the model's number -/
theorem l10 : ((10 : Int64)) = lN 10 := rfl
theorem dig_char {d : Nat} (h : d < 10) : (((48 + lN d).toInt32).toUInt32 % 65536).toInt32 = nI (d + 48) ∧ (lN d).toInt32 + 48 = nI (d + 48) ∧ vp_nar .char (nI (d + 48)) = nI (d + 48) := by
  rcases (show d = 0 ∨ d = 1 ∨ d = 2 ∨ d = 3 ∨ d = 4 ∨ d = 5 ∨ d = 6 ∨ d = 7 ∨ d = 8 ∨ d = 9 by omega) with rfl | rfl | rfl | rfl | rfl | rfl | rfl | rfl | rfl | rfl <;> decide +kernel
theorem ll_pos {u : Nat} (h : 1 ≤ u) (hu : u < 2 ^ 40) : ¬ (lg_cmp (lN u) 0 ≤ 0) := fun q => by
  have := (lg_cmp_le _ _).mp q
  have h2 : lN u ≤ lN 0 := this
  rw [pk_lLE (by omega) (by omega)] at h2
  omega
theorem lN_ne0 {u : Nat} (h : 1 ≤ u) (hu : u < 2 ^ 40) : ¬ lN u = 0 := fun q => by
  have h2 : lN u = lN 0 := q
  rw [pk_lEQ (by omega) (by omega)] at h2
  omega
/-- the digits: both write the same -/
theorem lp_dig {a : Nat} (ha : a < 2 ^ 40) : ∀ (n u k : Nat) (f : Nat → Int32), u < 10 ^ n → u < 2 ^ 40 → k ≤ 300 → ∃ (k' : Nat) (f' : Nat → Int32), k' ≤ 300 ∧ b_X7_writeNumber_58 (n + 1) (lN a) (lN u) (nI k, f) = some (nI k', f') ∧ b_X12_number_65 (n + 1) (lN a) (lN u) (nI k, f) = some (nI k', f') := by
  intro n
  induction n with
  | zero =>
    intro u k f h _ hk
    obtain rfl : u = 0 := by simp at h; omega
    exact ⟨k, f, hk, by unfold b_X7_writeNumber_58; rw [if_pos (show lg_cmp (lN 0) 0 ≤ 0 by decide)], by unfold b_X12_number_65; rw [if_pos (show lg_cmp (lN 0) 0 ≤ 0 by decide)]⟩
  | succ n ih =>
    intro u k f hu hu2 hk
    unfold b_X7_writeNumber_58 b_X12_number_65
    by_cases q : u = 0
    · subst q
      exact ⟨k, f, hk, by rw [if_pos (show lg_cmp (lN 0) 0 ≤ 0 by decide)], by rw [if_pos (show lg_cmp (lN 0) 0 ≤ 0 by decide)]⟩
    · have hd : a / u % 10 < 10 := Nat.mod_lt _ (by omega)
      have hau : a / u < 2 ^ 40 := Nat.lt_of_le_of_lt (Nat.div_le_self _ _) ha
      obtain ⟨c1, c2, c3⟩ := dig_char hd
      have hq : lN a / lN u = lN (a / u) := pk_lDiv (by omega) (by omega) (by omega)
      have hm : lN (a / u) - lN (a / u) / 10 * 10 = lN (a / u % 10) := by rw [l10]; exact pk_lRem (by omega) (by omega) (by omega)
      have hu10 : lN u / 10 = lN (u / 10) := by rw [l10]; exact pk_lDiv (by omega) (by omega) (by omega)
      have hlt : u / 10 < 10 ^ n := by rw [Nat.pow_succ] at hu; omega
      obtain ⟨k1, f1, g1, g2, g3⟩ := ih (u / 10) (if k = 300 then k else k + 1) (if k = 300 then f else upd f k (nI (a / u % 10 + 48))) hlt (by omega) (by split <;> omega)
      have e : (if k = 300 then (nI k, f) else (nI (k + 1), upd f k (nI (a / u % 10 + 48)))) = (nI (if k = 300 then k else k + 1), (if k = 300 then f else upd f k (nI (a / u % 10 + 48)))) := by split <;> rfl
      refine ⟨k1, f1, g1, ?_, ?_⟩
      · rw [if_neg (ll_pos (by omega) hu2), ck_t (lN_ne0 (by omega) hu2), ck_t (show ¬ (10 : Int64) = 0 by decide), hq, hm, c1, v_write hk c3]
        show ck (¬ (10 : Int64) = 0) (b_X7_writeNumber_58 (n + 1) (lN a) (lN u / 10) _) = _
        rw [ck_t (by decide), hu10, e]; exact g2
      · rw [if_neg (ll_pos (by omega) hu2), ck_t (lN_ne0 (by omega) hu2), ck_t (show ¬ (10 : Int64) = 0 by decide), hq, hm, c2, w_write hk]
        show ck (¬ (10 : Int64) = 0) (b_X12_number_65 (n + 1) (lN a) (lN u / 10) _) = _
        rw [ck_t (by decide), hu10, e]; exact g3
