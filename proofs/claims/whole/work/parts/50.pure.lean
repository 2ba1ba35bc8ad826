/-! pure rows: the functions of the class's small parts and of the model's, over natural sizes -/
theorem sb {α β : Type} (a : α) (k : α → Option β) : (some a).bind k = k a := rfl
theorem FU_s : FU = 1000009 + 1 := rfl
theorem nI_ne {a b : Nat} (ha : a < 2 ^ 31) (hb : b < 2 ^ 31) (h : a ≠ b) : ¬ nI a = nI b := fun e => h ((nI_eq ha hb).mp e)
theorem in_ok {n N : Nat} (h : n < N) (hN : N < 2 ^ 31) : ¬ (nI n < 0 ∨ N ≤ (nI n).toNatClampNeg) := nI_in h hN
theorem nI_m1 {n : Nat} (h : 0 < n) : nI n - 1 = nI (n - 1) := by
  obtain ⟨k, rfl⟩ : ∃ k, n = k + 1 := ⟨n - 1, by omega⟩
  exact nI_pred k
theorem nI_subN {a b : Nat} (h : b ≤ a) : nI a - nI b = nI (a - b) := pk_sub h
-- Row
theorem v_put {n : Nat} (hn : n ≤ 30) (x er : Int32) (f : Nat → Int32) : f_X8_put x er (nI n, f) = if n = 30 then some (er, (nI n, f)) else some (0, (nI (n + 1), upd f n x)) := by
  unfold f_X8_put
  by_cases h : n = 30
  · subst h; rw [if_pos rfl, if_pos (show (nI 30, f).1 = 30 from rfl)]
  · rw [if_neg h, if_neg (show ¬ (nI n, f).1 = 30 from nI_ne (b := 30) (by omega) (by omega) h)]
    show ck (¬ (nI n < 0 ∨ 30 ≤ (nI n).toNatClampNeg)) (some (0, (nI n + 1, upd f (nI n).toNatClampNeg x))) = _
    rw [ck_t (in_ok (by omega) (by omega)), nI_clamp (by omega), nI_1]
theorem v_fromTop {n : Nat} (hn : n ≤ 30) (k : Nat) (hk : k < 2 ^ 30) (er : Int32) (f : Nat → Int32) : f_X8_fromTop (nI k) er (nI n, f) = some (if k < n then f (n - 1 - k) else 0) := by
  unfold f_X8_fromTop
  rw [if_neg (nI_pos (by omega))]
  show (if nI n ≤ nI k then _ else _) = _
  by_cases h : k < n
  · rw [if_neg (nI_ge h (by omega)), if_pos h]
    show ck (¬ (nI n - 1 - nI k < 0 ∨ 30 ≤ (nI n - 1 - nI k).toNatClampNeg)) (some (f (nI n - 1 - nI k).toNatClampNeg)) = _
    rw [nI_m1 (by omega), nI_subN (by omega), ck_t (in_ok (by omega) (by omega)), nI_clamp (by omega)]
  · rw [if_pos (nI_le (by omega) (by omega)), if_neg h]
theorem v_drop {n : Nat} (hn : n ≤ 30) (k : Nat) (hk : k < 2 ^ 30) (f : Nat → Int32) (er : Int32) : f_X8_drop (nI k) er (nI n, f) = some (nI (n - k), f) := by
  unfold f_X8_drop
  show (if nI n ≤ nI k then _ else _) = _
  by_cases h : n ≤ k
  · rw [if_pos (nI_le h (by omega))]
    show some ((0 : Int32), f) = _
    rw [Nat.sub_eq_zero_of_le h]; rfl
  · rw [if_neg (nI_ge (by omega) (by omega))]
    show some (nI n - nI k, f) = _
    rw [nI_subN (by omega)]
theorem v_take {n : Nat} (hn : n ≤ 30) (h1 : 1 ≤ n) (f : Nat → Int32) (er : Int32) : f_X8_take er (nI n, f) = some (f (n - 1), (nI (n - 1), f)) := by
  unfold f_X8_take
  rw [show ((0 : Int32)) = nI 0 from rfl, v_fromTop hn 0 (by omega), if_pos (by omega)]
  show (f_X8_drop 1 er (nI n, f)).bind _ = _
  rw [show ((1 : Int32)) = nI 1 from rfl, v_drop hn 1 (by omega)]
  rfl
theorem v_hasRoom {n : Nat} (hn : n ≤ 30) (k : Nat) (hk : k < 2 ^ 30) (er : Int32) (f : Nat → Int32) : f_X8_hasRoom (nI k) er (nI n, f) = some (if n + k ≤ 30 then 1 else 0) := by
  unfold f_X8_hasRoom
  show (if (30 : Int32) < nI n + nI k then _ else _) = _
  rw [nI_add, show ((30 : Int32)) = nI 30 from rfl]
  by_cases h : n + k ≤ 30
  · rw [if_neg (nI_nlt h (by omega)), if_pos h]
  · rw [if_pos (nI_lt (by omega) (by omega)), if_neg h]
theorem v_replaceTop {n : Nat} (hn : n ≤ 30) (h1 : 1 ≤ n) (x er : Int32) (f : Nat → Int32) : f_X8_replaceTop x er (nI n, f) = some (nI n, upd f (n - 1) x) := by
  unfold f_X8_replaceTop
  show (if nI n ≤ 0 then _ else _) = _
  rw [if_neg (nI_nle (by omega) (by omega))]
  show ck (¬ (nI n - 1 < 0 ∨ 30 ≤ (nI n - 1).toNatClampNeg)) (some (nI n, upd f (nI n - 1).toNatClampNeg x)) = _
  rw [nI_m1 (by omega), ck_t (in_ok (by omega) (by omega)), nI_clamp (by omega)]
theorem v_dropOneUnless {n : Nat} (hn : n ≤ 30) (x er : Int32) (f : Nat → Int32) : f_X8_dropOneUnless x er (nI n, f) = some (x, if x = 0 then (nI (n - 1), f) else (nI n, f)) := by
  unfold f_X8_dropOneUnless
  by_cases h : x = 0
  · rw [if_pos h, if_pos h, show ((1 : Int32)) = nI 1 from rfl, v_drop hn 1 (by omega)]; rfl
  · rw [if_neg h, if_neg h]
-- Memory
theorem v_isCell (x : Int32) : f_X5_isCell x = some (if x < 0 then 0 else if 400 ≤ x then 0 else 1) := by
  unfold f_X5_isCell
  by_cases h : x < 0
  · rw [if_pos h, if_pos h]
  · rw [if_neg h, if_neg h]
    by_cases h2 : (400 : Int32) ≤ x
    · rw [if_pos h2, if_pos h2]
    · rw [if_neg h2, if_neg h2]
theorem v_append {n : Nat} (hn : n ≤ 400) (x : Int32) (f : Nat → Int32) : f_X5_append x (nI n, f) = if n = 400 then some (-8, (nI n, f)) else some (0, (nI (n + 1), upd f n x)) := by
  unfold f_X5_append f_X5_hasRoom
  show (Option.bind (if (400 : Int32) < nI n + 1 then _ else _) _) = _
  rw [nI_1, show ((400 : Int32)) = nI 400 from rfl]
  by_cases h : n = 400
  · subst h; rw [if_pos (nI_lt (by omega) (by omega)), if_pos rfl]; rfl
  · rw [if_neg (nI_nlt (by omega) (by omega)), if_neg h]
    rw [sb, if_neg (by decide), ck_t (in_ok (by omega) (by omega)), nI_clamp (by omega)]
-- the model's stack and memory
theorem w_push {n : Nat} (hn : n < 30) (x : Int32) (f : Nat → Int32) : f_X12_push x (nI n, f) = some (0, (nI (n + 1), upd f n x)) := by
  unfold f_X12_push
  show ck (¬ (nI n < 0 ∨ 30 ≤ (nI n).toNatClampNeg)) (some (0, (nI n + 1, upd f (nI n).toNatClampNeg x))) = _
  rw [ck_t (in_ok (by omega) (by omega)), nI_clamp (by omega), nI_1]
theorem w_pop {n : Nat} (hn : n ≤ 30) (h1 : 1 ≤ n) (f : Nat → Int32) : f_X12_pop (nI n, f) = some (f (n - 1), (nI (n - 1), f)) := by
  unfold f_X12_pop
  show ck (¬ (nI n - 1 < 0 ∨ 30 ≤ (nI n - 1).toNatClampNeg)) (some (f (nI n - 1).toNatClampNeg, (nI n - 1, f))) = _
  rw [nI_m1 (by omega), ck_t (in_ok (by omega) (by omega)), nI_clamp (by omega)]
theorem w_append {n : Nat} (hn : n < 400) (x : Int32) (f : Nat → Int32) : f_X12_append x (nI n, f) = some (0, (nI (n + 1), upd f n x)) := by
  unfold f_X12_append
  show ck (¬ (nI n < 0 ∨ 400 ≤ (nI n).toNatClampNeg)) (some (0, (nI n + 1, upd f (nI n).toNatClampNeg x))) = _
  rw [ck_t (in_ok (by omega) (by omega)), nI_clamp (by omega), nI_1]
-- small facts that simp uses for sizes
theorem cl_nI {n : Nat} (h : n < 2 ^ 31) : (nI n).toNatClampNeg = n := nI_clamp h
theorem nI_lt0 {n : Nat} (h : n < 2 ^ 31) : (nI n < 0) = False := eq_false (nI_pos h)
theorem nI_sub1 {n : Nat} (h : 1 ≤ n) : nI n - 1 = nI (n - 1) := nI_m1 (by omega)
theorem nI_sub2 {n : Nat} (h : 2 ≤ n) : nI n - 2 = nI (n - 2) := nI_subN (b := 2) h
theorem nI_sub3 {n : Nat} (h : 3 ≤ n) : nI n - 3 = nI (n - 3) := nI_subN (b := 3) h
theorem nI_add1 (n : Nat) : nI n + 1 = nI (n + 1) := nI_1 n
theorem nI_add2 (n : Nat) : nI n + 2 = nI (n + 2) := nI_add n 2
theorem ck_in {α : Type} {n N : Nat} (h : n < N) (hN : N < 2 ^ 31) (K : Option α) : ck (¬ (nI n < 0 ∨ N ≤ (nI n).toNatClampNeg)) K = K := ck_t (in_ok h hN)
theorem ck_T {α : Type} (K : Option α) : ck True K = K := if_pos trivial
-- two numbers: the class
theorem v_two {n : Nat} (hn : n ≤ 30) (h2 : 2 ≤ n) (w : Nat) (f : Nat → Int32) (v : Int32) (hv : f_X3_ofTwo w (f (n - 2)) (f (n - 1)) = some v) : b_X3_reckonWithTwo_38 w 0 (nI n, f) = some (0, (nI (n - 1), upd f (n - 2) v)) := by
  unfold b_X3_reckonWithTwo_38
  rw [v_take hn (by omega), sb, v_take (n := n - 1) (by omega) (by omega), sb, if_pos rfl, show n - 1 - 1 = n - 2 by omega, hv, sb]
  unfold b_X3_reckonWithTwo_82
  rw [v_put (n := n - 2) (by omega), if_neg (by omega), sb, show n - 2 + 1 = n - 1 by omega]
-- forms for simp: side conditions by omega
theorem s_from0 {n : Nat} {er : Int32} {f : Nat → Int32} (hn : n ≤ 30) (h : 1 ≤ n) : f_X8_fromTop 0 er (nI n, f) = some (f (n - 1)) := by
  rw [show ((0 : Int32)) = nI 0 from rfl, v_fromTop hn 0 (by omega), if_pos (by omega)]; rfl
theorem s_from1 {n : Nat} {er : Int32} {f : Nat → Int32} (hn : n ≤ 30) (h : 2 ≤ n) : f_X8_fromTop 1 er (nI n, f) = some (f (n - 2)) := by
  rw [show ((1 : Int32)) = nI 1 from rfl, v_fromTop hn 1 (by omega), if_pos (by omega), show n - 1 - 1 = n - 2 by omega]
theorem s_from2 {n : Nat} {er : Int32} {f : Nat → Int32} (hn : n ≤ 30) (h : 3 ≤ n) : f_X8_fromTop 2 er (nI n, f) = some (f (n - 3)) := by
  rw [show ((2 : Int32)) = nI 2 from rfl, v_fromTop hn 2 (by omega), if_pos (by omega), show n - 1 - 2 = n - 3 by omega]
theorem s_drop1 {n : Nat} {er : Int32} {f : Nat → Int32} (hn : n ≤ 30) : f_X8_drop 1 er (nI n, f) = some (nI (n - 1), f) := v_drop hn 1 (by omega) f er
theorem s_drop2 {n : Nat} {er : Int32} {f : Nat → Int32} (hn : n ≤ 30) : f_X8_drop 2 er (nI n, f) = some (nI (n - 2), f) := v_drop hn 2 (by omega) f er
theorem s_put {n : Nat} {x er : Int32} {f : Nat → Int32} (hn : n < 30) : f_X8_put x er (nI n, f) = some (0, (nI (n + 1), upd f n x)) := by
  rw [v_put (by omega), if_neg (by omega)]
theorem s_putF {x er : Int32} {f : Nat → Int32} : f_X8_put x er (nI 30, f) = some (er, (nI 30, f)) := by
  rw [v_put (by omega), if_pos rfl]
theorem s_room1 {n : Nat} {er : Int32} {f : Nat → Int32} (hn : n < 30) : f_X8_hasRoom 1 er (nI n, f) = some 1 := by
  rw [show ((1 : Int32)) = nI 1 from rfl, v_hasRoom (by omega) 1 (by omega), if_pos (by omega)]; rfl
theorem s_room1F {er : Int32} {f : Nat → Int32} : f_X8_hasRoom 1 er (nI 30, f) = some 0 := by
  rw [show ((1 : Int32)) = nI 1 from rfl, v_hasRoom (by omega) 1 (by omega), if_neg (by omega)]
theorem s_take {n : Nat} {er : Int32} {f : Nat → Int32} (hn : n ≤ 30) (h : 1 ≤ n) : f_X8_take er (nI n, f) = some (f (n - 1), (nI (n - 1), f)) := v_take hn h f er
theorem s_rep {n : Nat} {x er : Int32} {f : Nat → Int32} (hn : n ≤ 30) (h : 1 ≤ n) : f_X8_replaceTop x er (nI n, f) = some (nI n, upd f (n - 1) x) := v_replaceTop hn h x er f
theorem s_raise1 {n : Nat} {er : Int32} {f : Nat → Int32} (hn : n ≤ 30) (h : 2 ≤ n) : f_X8_raise 1 er (nI n, f) = some (nI n, upd (upd f (n - 2) (f (n - 1))) (n - 1) (f (n - 2))) := by
  unfold f_X8_raise
  rw [s_from1 hn h]
  show b_X8_raise_8 er FU (f (n - 2)) 1 (nI n, f) = _
  rw [FU_s]
  unfold b_X8_raise_8
  show (if (1 : Int32) ≤ 0 then _ else if nI n ≤ 1 then _ else ck (¬ (nI n - 1 < 0 ∨ 30 ≤ (nI n - 1).toNatClampNeg)) (ck (¬ (nI n - 1 - 1 < 0 ∨ 30 ≤ (nI n - 1 - 1).toNatClampNeg)) (b_X8_raise_8 er 1000009 (f (n - 2)) (1 + -1) (nI n, upd f (nI n - 1 - 1).toNatClampNeg (f (nI n - 1).toNatClampNeg))))) = _
  rw [if_neg (by decide), if_neg (show ¬ nI n ≤ 1 from nI_ge (a := 1) (by omega) (by omega)), nI_m1 (by omega), nI_m1 (n := n - 1) (by omega), ck_t (in_ok (by omega) (by omega)), ck_t (in_ok (by omega) (by omega)), nI_clamp (by omega), nI_clamp (by omega), show n - 1 - 1 = n - 2 by omega, show (1000009 : Nat) = 1000008 + 1 from rfl]
  unfold b_X8_raise_8
  rw [if_pos (show (1 : Int32) + -1 ≤ 0 by decide)]
  unfold b_X8_raise_50
  rw [s_rep hn (by omega)]
  rfl
theorem s_raise2 {n : Nat} {er : Int32} {f : Nat → Int32} (hn : n ≤ 30) (h : 3 ≤ n) : f_X8_raise 2 er (nI n, f) = some (nI n, upd (upd (upd f (n - 3) (f (n - 2))) (n - 2) (upd f (n - 3) (f (n - 2)) (n - 1))) (n - 1) (f (n - 3))) := by
  unfold f_X8_raise
  rw [s_from2 hn h]
  show b_X8_raise_8 er FU (f (n - 3)) 2 (nI n, f) = _
  rw [FU_s]
  unfold b_X8_raise_8
  show (if (2 : Int32) ≤ 0 then _ else if nI n ≤ 2 then _ else ck (¬ (nI n - 2 < 0 ∨ 30 ≤ (nI n - 2).toNatClampNeg)) (ck (¬ (nI n - 1 - 2 < 0 ∨ 30 ≤ (nI n - 1 - 2).toNatClampNeg)) (b_X8_raise_8 er 1000009 (f (n - 3)) (2 + -1) (nI n, upd f (nI n - 1 - 2).toNatClampNeg (f (nI n - 2).toNatClampNeg))))) = _
  rw [if_neg (by decide), if_neg (show ¬ nI n ≤ 2 from nI_ge (a := 2) (by omega) (by omega)), nI_m1 (by omega), show nI n - 2 = nI (n - 2) from nI_subN (b := 2) (by omega), show nI (n - 1) - 2 = nI (n - 1 - 2) from nI_subN (b := 2) (by omega), ck_t (in_ok (by omega) (by omega)), ck_t (in_ok (by omega) (by omega)), nI_clamp (by omega), nI_clamp (by omega), show n - 1 - 2 = n - 3 by omega, show (1000009 : Nat) = 1000008 + 1 from rfl]
  unfold b_X8_raise_8
  show (if (2 : Int32) + -1 ≤ 0 then _ else if nI n ≤ 2 + -1 then _ else ck (¬ (nI n - (2 + -1) < 0 ∨ 30 ≤ (nI n - (2 + -1)).toNatClampNeg)) (ck (¬ (nI n - 1 - (2 + -1) < 0 ∨ 30 ≤ (nI n - 1 - (2 + -1)).toNatClampNeg)) (b_X8_raise_8 er 1000008 (f (n - 3)) (2 + -1 + -1) (nI n, upd (upd f (n - 3) (f (n - 2))) (nI n - 1 - (2 + -1)).toNatClampNeg ((upd f (n - 3) (f (n - 2))) (nI n - (2 + -1)).toNatClampNeg))))) = _
  rw [show ((2 : Int32) + -1) = 1 by decide, if_neg (by decide), if_neg (show ¬ nI n ≤ 1 from nI_ge (a := 1) (by omega) (by omega)), nI_m1 (by omega), nI_m1 (n := n - 1) (by omega), ck_t (in_ok (by omega) (by omega)), ck_t (in_ok (by omega) (by omega)), nI_clamp (by omega), nI_clamp (by omega), show n - 1 - 1 = n - 2 by omega, show (1000008 : Nat) = 1000007 + 1 from rfl]
  unfold b_X8_raise_8
  rw [if_pos (show (1 : Int32) + -1 ≤ 0 by decide)]
  unfold b_X8_raise_50
  rw [s_rep hn (by omega)]
  rfl
