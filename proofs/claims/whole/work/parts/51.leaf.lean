/-! the class's small parts over natural sizes, continued: memory, calls, open things, output -/
theorem v_at {a : Nat} (ha : a < 400) (y : tY) : f_X5_at (nI a) y = some (y.2 a) := by
  unfold f_X5_at
  rw [v_isCell, if_neg (nI_pos (by omega)), if_neg (nle_400 ha)]
  rw [sb, if_neg (by decide), ck_t (in_ok ha (by omega)), nI_clamp (by omega)]
theorem v_set {a : Nat} (ha : a < 400) (x : Int32) (n : Int32) (f : Nat → Int32) : f_X5_set (nI a) x (n, f) = some (n, upd f a x) := by
  unfold f_X5_set
  rw [v_isCell, if_neg (nI_pos (by omega)), if_neg (nle_400 ha)]
  rw [sb, if_neg (by decide), ck_t (in_ok ha (by omega)), nI_clamp (by omega)]
theorem v_mroom {n : Nat} (hn : n ≤ 400) (k : Nat) (hk : k < 2 ^ 30) (f : Nat → Int32) : f_X5_hasRoom (nI k) (nI n, f) = some (if n + k ≤ 400 then 1 else 0) := by
  unfold f_X5_hasRoom
  show (if (400 : Int32) < nI n + nI k then _ else _) = _
  rw [nI_add, show ((400 : Int32)) = nI 400 from rfl]
  by_cases h : n + k ≤ 400
  · rw [if_neg (nI_nlt h (by omega)), if_pos h]
  · rw [if_pos (nI_lt (by omega) (by omega)), if_neg h]
theorem v_both {n : Nat} (hn : n ≤ 400) (x z : Int32) (f : Nat → Int32) : f_X5_appendBoth x z (nI n, f) = if n + 2 ≤ 400 then some (0, (nI (n + 2), upd (upd f n x) (n + 1) z)) else some (-8, (nI n, f)) := by
  unfold f_X5_appendBoth
  show (if nI n + 2 ≤ 400 then ck (¬ (nI n < 0 ∨ 400 ≤ (nI n).toNatClampNeg)) (ck (¬ (nI n + 1 < 0 ∨ 400 ≤ (nI n + 1).toNatClampNeg)) (some (0, (nI n + 2, upd (upd f (nI n).toNatClampNeg x) (nI n + 1).toNatClampNeg z)))) else _) = _
  rw [show nI n + 2 = nI (n + 2) from nI_add n 2, nI_1]
  by_cases h : n + 2 ≤ 400
  · rw [if_pos (le'_400 h), if_pos h, ck_t (in_ok (by omega) (by omega)), ck_t (in_ok (by omega) (by omega)), nI_clamp (by omega), nI_clamp (by omega)]
  · rw [if_neg (nle'_400 (by omega) (by omega)), if_neg h]
-- calls
theorem v_cFull {n : Nat} (hn : n ≤ 30) (a b d e : Nat → Int32) : f_X1_isFull (nI n, a, b, d, e) = some (if n = 30 then 1 else 0) := by
  unfold f_X1_isFull
  show (if nI n = 30 then _ else _) = _
  by_cases h : n = 30
  · subst h; rw [if_pos eq_30, if_pos rfl]
  · rw [if_neg h, if_neg (ne_30 h (by omega))]
theorem v_cAdd {n : Nat} (hn : n ≤ 30) (x : Int32) (a b d e : Nat → Int32) : f_X1_add x (nI n, a, b, d, e) = if n = 30 then some (-5, (nI n, a, b, d, e)) else some (0, (nI (n + 1), upd a n x, upd b n 0, d, e)) := by
  unfold f_X1_add
  rw [v_cFull hn]
  by_cases h : n = 30
  · rw [if_pos h, if_pos h]; rfl
  · rw [if_neg h, if_neg h]
    rw [sb, if_pos rfl, ck_t (in_ok (by omega) (by omega)), ck_t (in_ok (by omega) (by omega)), nI_clamp (by omega), nI_1, show vp_nar .boolean 0 = 0 by decide +kernel]
theorem v_cCatch {n : Nat} (hn : n < 30) (x z : Int32) (a b d e : Nat → Int32) : f_X1_addCatch x z (nI n, a, b, d, e) = some (nI (n + 1), a, upd b n 1, upd d n x, upd e n z) := by
  unfold f_X1_addCatch
  rw [v_cFull (by omega), if_neg (by omega)]
  rw [sb, if_pos rfl, ck_t (in_ok (by omega) (by omega)), ck_t (in_ok (by omega) (by omega)), ck_t (in_ok (by omega) (by omega)), nI_clamp (by omega), nI_1, show vp_nar .boolean 1 = 1 by decide +kernel]
theorem v_cCall {n : Nat} (hn : n ≤ 30) (a b d e : Nat → Int32) : f_X1_latestIsCall (nI n, a, b, d, e) = some (if n = 0 then 0 else if b (n - 1) = 0 then 1 else 0) := by
  unfold f_X1_latestIsCall
  show (if nI n ≤ 0 then _ else ck (¬ (nI n - 1 < 0 ∨ 30 ≤ (nI n - 1).toNatClampNeg)) (if b (nI n - 1).toNatClampNeg = 0 then _ else _)) = _
  by_cases h : n = 0
  · subst h; rw [if_pos (show nI 0 ≤ 0 by decide), if_pos rfl]
  · rw [if_neg (nI_nle (by omega) (by omega)), if_neg h, nI_m1 (by omega), ck_t (in_ok (by omega) (by omega)), nI_clamp (by omega)]
    by_cases q : b (n - 1) = 0
    · rw [if_pos q, if_pos q]
    · rw [if_neg q, if_neg q]
theorem v_cIsCatch {n : Nat} (hn : n ≤ 30) (a b d e : Nat → Int32) : f_X1_latestIsCatch (nI n, a, b, d, e) = some (if n = 0 then 0 else if b (n - 1) = 0 then 0 else 1) := by
  unfold f_X1_latestIsCatch
  show (if nI n ≤ 0 then _ else ck (¬ (nI n - 1 < 0 ∨ 30 ≤ (nI n - 1).toNatClampNeg)) (if b (nI n - 1).toNatClampNeg = 0 then _ else _)) = _
  by_cases h : n = 0
  · subst h; rw [if_pos (show nI 0 ≤ 0 by decide), if_pos rfl]
  · rw [if_neg (nI_nle (by omega) (by omega)), if_neg h, nI_m1 (by omega), ck_t (in_ok (by omega) (by omega)), nI_clamp (by omega)]
    by_cases q : b (n - 1) = 0
    · rw [if_pos q, if_pos q]
    · rw [if_neg q, if_neg q]
theorem v_cPlace {n : Nat} (hn : n ≤ 30) (h1 : 1 ≤ n) (a b d e : Nat → Int32) : f_X1_place (nI n, a, b, d, e) = some (a (n - 1)) := by
  unfold f_X1_place
  show (if nI n ≤ 0 then _ else ck (¬ (nI n - 1 < 0 ∨ 30 ≤ (nI n - 1).toNatClampNeg)) (some (a (nI n - 1).toNatClampNeg))) = _
  rw [if_neg (nI_nle (by omega) (by omega)), nI_m1 (by omega), ck_t (in_ok (by omega) (by omega)), nI_clamp (by omega)]
theorem v_cGo {n : Nat} (hn : n ≤ 30) (h1 : 1 ≤ n) (x : Int32) (a b d e : Nat → Int32) : f_X1_goOnAt x (nI n, a, b, d, e) = some (nI n, upd a (n - 1) x, b, d, e) := by
  unfold f_X1_goOnAt
  show (if nI n ≤ 0 then _ else ck (¬ (nI n - 1 < 0 ∨ 30 ≤ (nI n - 1).toNatClampNeg)) (some (nI n, upd a (nI n - 1).toNatClampNeg x, b, d, e))) = _
  rw [if_neg (nI_nle (by omega) (by omega)), nI_m1 (by omega), ck_t (in_ok (by omega) (by omega)), nI_clamp (by omega)]
theorem v_cBack {n : Nat} (hn : n ≤ 30) (h1 : 1 ≤ n) (a b d e : Nat → Int32) : f_X1_comeBack (nI n, a, b, d, e) = some (nI (n - 1), a, b, d, e) := by
  unfold f_X1_comeBack
  show (if nI n ≤ 0 then _ else some (nI n - 1, a, b, d, e)) = _
  rw [if_neg (nI_nle (by omega) (by omega)), nI_m1 (by omega)]
-- open things
theorem v_oFull {n : Nat} (hn : n ≤ 12) (a b : Nat → Int32) : f_X6_isFull (nI n, a, b) = some (if n = 12 then 1 else 0) := by
  unfold f_X6_isFull
  show (if nI n = 12 then _ else _) = _
  by_cases h : n = 12
  · subst h; rw [if_pos eq_12, if_pos rfl]
  · rw [if_neg h, if_neg (ne_12 h (by omega))]
theorem v_oSort {n : Nat} (hn : n ≤ 12) (a b : Nat → Int32) : f_X6_latestSort (nI n, a, b) = some (if n = 0 then 0 else a (n - 1)) := by
  unfold f_X6_latestSort
  show (if nI n ≤ 0 then _ else ck (¬ (nI n - 1 < 0 ∨ 12 ≤ (nI n - 1).toNatClampNeg)) (some (a (nI n - 1).toNatClampNeg))) = _
  by_cases h : n = 0
  · subst h; rw [if_pos (show nI 0 ≤ 0 by decide), if_pos rfl]
  · rw [if_neg (nI_nle (by omega) (by omega)), if_neg h, nI_m1 (by omega), ck_t (in_ok (by omega) (by omega)), nI_clamp (by omega)]
theorem v_oAdd {n : Nat} (hn : n < 12) (x z : Int32) (a b : Nat → Int32) : f_X6_add x z (nI n, a, b) = some (nI (n + 1), upd a n x, upd b n z) := by
  unfold f_X6_add
  show (if 12 ≤ nI n then _ else ck (¬ (nI n < 0 ∨ 12 ≤ (nI n).toNatClampNeg)) (ck (¬ (nI n < 0 ∨ 12 ≤ (nI n).toNatClampNeg)) (some (nI n + 1, upd a (nI n).toNatClampNeg x, upd b (nI n).toNatClampNeg z)))) = _
  rw [if_neg (nle_12 hn), ck_t (in_ok (by omega) (by omega)), ck_t (in_ok (by omega) (by omega)), nI_clamp (by omega), nI_1]
theorem v_oClose {n : Nat} (hn : n ≤ 12) (h1 : 1 ≤ n) (a b : Nat → Int32) : f_X6_close (nI n, a, b) = some (b (n - 1), (nI (n - 1), a, b)) := by
  unfold f_X6_close
  show (if nI n = 0 then _ else ck (¬ (nI n - 1 < 0 ∨ 12 ≤ (nI n - 1).toNatClampNeg)) (some (b (nI n - 1).toNatClampNeg, (nI n - 1, a, b)))) = _
  rw [if_neg (nI_ne0 (by omega) (by omega)), nI_m1 (by omega), ck_t (in_ok (by omega) (by omega)), nI_clamp (by omega)]
-- output
theorem v_write {n : Nat} (hn : n ≤ 300) {x : Int32} (hx : vp_nar .char x = x) (f : Nat → Int32) : f_X7_write x (nI n, f) = some (if n = 300 then (nI n, f) else (nI (n + 1), upd f n x)) := by
  unfold f_X7_write
  show (if 300 ≤ nI n then _ else ck (¬ (nI n < 0 ∨ 300 ≤ (nI n).toNatClampNeg)) (some (nI n + 1, upd f (nI n).toNatClampNeg (vp_nar .char x)))) = _
  by_cases h : n = 300
  · subst h; rw [if_pos (show (300 : Int32) ≤ nI 300 by decide), if_pos rfl]
  · rw [if_neg (nle_300 (by omega)), if_neg h, ck_t (in_ok (by omega) (by omega)), nI_clamp (by omega), nI_1, hx]
theorem w_write {n : Nat} (hn : n ≤ 300) (x : Int32) (f : Nat → Int32) : f_X12_write x (nI n, f) = some (if n = 300 then (nI n, f) else (nI (n + 1), upd f n x)) := by
  unfold f_X12_write
  show (if nI n = 300 then _ else ck (¬ (nI n < 0 ∨ 300 ≤ (nI n).toNatClampNeg)) (some (nI n + 1, upd f (nI n).toNatClampNeg x))) = _
  by_cases h : n = 300
  · subst h; rw [if_pos eq_300, if_pos rfl]
  · rw [if_neg (ne_300 h (by omega)), if_neg h, ck_t (in_ok (by omega) (by omega)), nI_clamp (by omega), nI_1]
