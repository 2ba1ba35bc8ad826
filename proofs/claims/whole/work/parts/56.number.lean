/-! a name as a number: the class's nameAsNumber (2147483648: none) and the model's isNumber -/
def okc (x : Int32) : Prop := (x.toUInt32 % 65536).toInt32 = x
def numM (m : mM) (v : Int64) : mM := (m.1, m.2.1, m.2.2.1, m.2.2.2.1, m.2.2.2.2.1, v.toInt32, m.2.2.2.2.2.2)
def NR (m : mM) (x : Option Int64) (z : Option (Int32 × mM)) : Prop := (x = some 2147483648 ∧ z = some (0, m)) ∨ ∃ v : Int64, v ≠ 2147483648 ∧ x = some v ∧ z = some (1, numM m v)
theorem nr_end (m : mM) (v : Int64) (t : tT) : NR m (b_X9_nameAsNumber_129 v t) (b_X12_isNumber_139 v t m) := by
  unfold b_X9_nameAsNumber_129 b_X12_isNumber_139 b_X9_nameAsNumber_153 b_X9_nameAsNumber_154
  by_cases h1 : lg_cmp v (-2147483648) < 0
  · rw [if_pos h1, if_pos h1]; exact Or.inl ⟨rfl, rfl⟩
  · rw [if_neg h1, if_neg h1]
    by_cases h2 : v ≤ 2147483647
    · rw [if_neg (fun q => absurd ((lg_cmp_gt _ _).mp q) (Int64.not_lt.mpr h2)), if_pos ((lg_cmp_le _ _).mpr h2)]
      refine Or.inr ⟨v, fun e => ?_, rfl, rfl⟩
      rw [e] at h2
      exact absurd h2 (by decide)
    · rw [if_pos ((lg_cmp_gt _ _).mpr (Int64.not_le.mp h2)), if_neg (fun q => h2 ((lg_cmp_le _ _).mp q))]
      exact Or.inl ⟨rfl, rfl⟩
theorem at_name {a l k : Nat} (h : a + l ≤ 200) (hk : k < l) {f : Nat → Int32} (hc : ∀ i, okc (f i)) (x z : Int32) : f_X9_nameAt (nI k) (x, z, nI a, nI l, f) = some (f (a + k)) := by
  unfold f_X9_nameAt
  show ck (¬ (nI a + nI k < 0 ∨ 200 ≤ (nI a + nI k).toNatClampNeg)) (ck (((f (nI a + nI k).toNatClampNeg).toUInt32 % 65536).toInt32 = f (nI a + nI k).toNatClampNeg) (some (f (nI a + nI k).toNatClampNeg))) = _
  rw [nI_add, ck_t (in_ok (by omega) (by omega)), nI_clamp (by omega), ck_t (show ((f (a + k)).toUInt32 % 65536).toInt32 = f (a + k) from hc _)]
theorem dig_eq (v : Int64) {c : Int32} (h1 : ¬ c < 48) (h2 : c ≤ 57) : v * 10 + (c - 48).toInt64 = 10 * v + c.toInt64 - 48 := by
  have e : (c - 48).toInt64 = c.toInt64 - 48 := by
    apply Int64.toInt_inj.mp
    have hc1 : 48 ≤ c.toInt := by
      have := Int32.not_lt.mp h1
      exact Int32.le_iff_toInt_le.mp this
    have hc2 : c.toInt ≤ 57 := Int32.le_iff_toInt_le.mp h2
    rw [Int32.toInt_toInt64, Int32.toInt_sub, Int64.toInt_sub, Int32.toInt_toInt64]
    show (c.toInt - 48).bmod _ = (c.toInt - 48).bmod _
    rw [Int.bmod_eq_of_le (by omega) (by omega), Int.bmod_eq_of_le (by omega) (by omega)]
  rw [e, Int64.mul_comm v 10, Int64.sub_eq_add_neg, Int64.sub_eq_add_neg, Int64.add_assoc]
theorem lp_num {a l : Nat} (h : a + l ≤ 200) {f : Nat → Int32} (hc : ∀ i, okc (f i)) (x z sg : Int32) (m : mM) : ∀ (n k : Nat) (v : Int64), k ≤ l → l - k < n → NR m (b_X9_nameAsNumber_61 n sg v (nI k) (x, z, nI a, nI l, f)) (b_X12_isNumber_60 n sg v (nI (a + k)) (x, z, nI a, nI l, f) m) := by
  intro n
  induction n with
  | zero => intro k v _ q; exact absurd q (by omega)
  | succ n ih =>
    intro k v hk hn
    unfold b_X9_nameAsNumber_61 b_X12_isNumber_60
    show NR m (if nI l ≤ nI k then _ else (f_X9_nameAt (nI k) (x, z, nI a, nI l, f)).bind _) (if nI a + nI l ≤ nI (a + k) then _ else _)
    rw [nI_add]
    rcases Nat.lt_or_ge k l with q | q
    · rw [if_neg (nI_ge q (by omega)), if_neg (nI_ge (by omega) (by omega)), at_name h q hc]
      show NR m (if f (a + k) < 48 then _ else if f (a + k) ≤ 57 then b_X9_nameAsNumber_61 n sg (v * 10 + (f (a + k) - 48).toInt64) (nI k + 1) _ else _) (ck (¬ (nI (a + k) < 0 ∨ 200 ≤ (nI (a + k)).toNatClampNeg)) (if f (nI (a + k)).toNatClampNeg < 48 then _ else ck (¬ (nI (a + k) < 0 ∨ 200 ≤ (nI (a + k)).toNatClampNeg)) (if f (nI (a + k)).toNatClampNeg ≤ 57 then ck (¬ (nI (a + k) < 0 ∨ 200 ≤ (nI (a + k)).toNatClampNeg)) (b_X12_isNumber_60 n sg (10 * v + (f (nI (a + k)).toNatClampNeg).toInt64 - 48) (nI (a + k) + 1) _ m) else _)))
      rw [ck_t (in_ok (n := a + k) (N := 200) (by omega) (by omega)), ck_t (in_ok (n := a + k) (N := 200) (by omega) (by omega)), ck_t (in_ok (n := a + k) (N := 200) (by omega) (by omega)), nI_clamp (by omega)]
      by_cases c1 : f (a + k) < 48
      · rw [if_pos c1, if_pos c1]; exact Or.inl ⟨rfl, rfl⟩
      · rw [if_neg c1, if_neg c1]
        by_cases c2 : f (a + k) ≤ 57
        · rw [if_pos c2, if_pos c2, dig_eq v c1 c2, nI_1, nI_1]
          exact ih (k + 1) _ (by omega) (by omega)
        · rw [if_neg c2, if_neg c2]; exact Or.inl ⟨rfl, rfl⟩
    · rw [if_pos (nI_le q (by omega)), if_pos (nI_le (by omega) (by omega))]
      by_cases s0 : sg = 0
      · rw [if_pos s0, if_pos s0]; exact nr_end m _ _
      · rw [if_neg s0, if_neg s0]; exact nr_end m _ _
theorem number_eq {a l : Nat} (h : a + l ≤ 200) (h1 : 1 ≤ l) {f : Nat → Int32} (hc : ∀ i, okc (f i)) (x z : Int32) (m : mM) : NR m (f_X9_nameAsNumber (x, z, nI a, nI l, f)) (f_X12_isNumber (x, z, nI a, nI l, f) m) := by
  have key : ∀ (sg : Int32) (k : Nat), k ≤ 1 → NR m (b_X9_nameAsNumber_32 sg (nI k) (x, z, nI a, nI l, f)) (b_X12_isNumber_29 (nI (a + k)) sg (x, z, nI a, nI l, f) m) := by
    intro sg k hk
    unfold b_X9_nameAsNumber_32 b_X12_isNumber_29
    show NR m (if nI l - nI k < 1 then _ else if nI l - nI k ≤ 10 then b_X9_nameAsNumber_61 FU sg 0 (nI k) _ else _) (if nI a + nI l - nI (a + k) < 1 then _ else if nI a + nI l - nI (a + k) ≤ 10 then b_X12_isNumber_60 FU sg 0 (nI (a + k)) _ m else _)
    rw [nI_add, nI_subN (by omega), nI_subN (by omega), show a + l - (a + k) = l - k by omega]
    by_cases q : l - k < 1
    · rw [if_pos (lt'_1 q), if_pos (lt'_1 q)]; exact Or.inl ⟨rfl, rfl⟩
    · rw [if_neg (nlt'_1 (by omega) (by omega)), if_neg (nlt'_1 (by omega) (by omega))]
      by_cases q2 : l - k ≤ 10
      · rw [if_pos (le'_10 q2), if_pos (le'_10 q2)]
        exact lp_num h hc x z sg m FU k 0 (by omega) (by rw [FU_s]; omega)
      · rw [if_neg (nle'_10 (by omega) (by omega)), if_neg (nle'_10 (by omega) (by omega))]; exact Or.inl ⟨rfl, rfl⟩
  unfold f_X9_nameAsNumber f_X12_isNumber
  show NR m (if nI l ≤ 0 then _ else (f_X9_nameAt 0 (x, z, nI a, nI l, f)).bind _) (ck (¬ (nI a < 0 ∨ 200 ≤ (nI a).toNatClampNeg)) (if f (nI a).toNatClampNeg = 45 then b_X12_isNumber_21 (nI a) 1 _ m else b_X12_isNumber_21 (nI a) 0 _ m))
  rw [if_neg (nI_nle (by omega) (by omega)), ck_t (in_ok (by omega) (by omega)), nI_clamp (by omega), show ((0 : Int32)) = nI 0 from rfl, at_name h (by omega) hc]
  show NR m (if f (a + 0) = 45 then b_X9_nameAsNumber_22 1 _ else b_X9_nameAsNumber_21 _) _
  rw [Nat.add_zero]
  by_cases q : f a = 45
  · rw [if_pos q, if_pos q]
    unfold b_X9_nameAsNumber_22 b_X12_isNumber_21
    rw [if_neg (by decide), if_neg (by decide), nI_1]
    exact key 1 1 (by omega)
  · rw [if_neg q, if_neg q]
    unfold b_X9_nameAsNumber_21 b_X9_nameAsNumber_22 b_X12_isNumber_21
    exact key 0 0 (by omega)
