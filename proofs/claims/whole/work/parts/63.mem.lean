/-! memory and writing: facts -/
theorem nz {n : Nat} (h : ¬ n = 0) : (n = 0) = False := eq_false h
theorem U400 {n : Nat} (h : n ≤ 400) : (nI n ≤ (400 : Int32)) = True := eq_true (le'_400 h)
theorem rO.ite {n : Nat} {f : Nat → Int32} {x : Int32} (h : n ≤ 300) : rO (if n = 300 then (nI n, f) else (nI (n + 1), upd f n x)) (if n = 300 then (nI n, f) else (nI (n + 1), upd f n x)) := by
  split
  · exact rO.mk h
  · exact rO.mk (by omega)
theorem v_w32 {n : Nat} (h : n ≤ 300) {f : Nat → Int32} : f_X7_write 32 (nI n, f) = some (if n = 300 then (nI n, f) else (nI (n + 1), upd f n 32)) := v_write h (by decide +kernel) f
theorem v_w10 {n : Nat} (h : n ≤ 300) {f : Nat → Int32} : f_X7_write 10 (nI n, f) = some (if n = 300 then (nI n, f) else (nI (n + 1), upd f n 10)) := v_write h (by decide +kernel) f
theorem em128 : ∀ m : Nat, m < 128 → (((nI m).toUInt32 % 65536).toInt32 = nI m ∧ vp_nar .char (nI m) = nI m) := by decide +kernel
theorem and127 (x : Int32) : ∃ m, m < 128 ∧ x &&& 127 = nI m := ⟨x.toBitVec.toNat % 2 ^ 7, Nat.mod_lt _ (by decide), Int32.toBitVec_inj.mp (BitVec.eq_of_toNat_eq (by
  show (x.toBitVec &&& 127#32).toNat = (BitVec.ofNat 32 (x.toBitVec.toNat % 2 ^ 7)).toNat
  rw [BitVec.toNat_and, show (127#32).toNat = 2 ^ 7 - 1 from by decide, Nat.and_two_pow_sub_one_eq_mod, BitVec.toNat_ofNat]
  omega))⟩
theorem v_em {n : Nat} (h : n ≤ 300) {x : Int32} {f : Nat → Int32} : f_X7_write (((x &&& 127).toUInt32 % 65536).toInt32) (nI n, f) = some (if n = 300 then (nI n, f) else (nI (n + 1), upd f n (x &&& 127))) := by
  obtain ⟨m, hm, e⟩ := and127 x
  obtain ⟨e1, e2⟩ := em128 m hm
  rw [e, e1]
  exact v_write h e2 f
theorem al3 {a : Nat} (ha : a ≤ 400) (x : Int32) : (x < -nI a ∧ (nI a + x < 0 ∨ (¬ nI a + x < 0 ∧ ¬ nI a + x ≤ 400))) ∨ (¬ x < -nI a ∧ ¬ x ≤ 400 - nI a ∧ (nI a + x < 0 ∨ (¬ nI a + x < 0 ∧ ¬ nI a + x ≤ 400))) ∨ (¬ x < -nI a ∧ x ≤ 400 - nI a ∧ ∃ b : Nat, b ≤ 400 ∧ nI a + x = nI b) := by
  have h1 : (nI a).toInt = (a : Int) := nI_toInt (by omega)
  have h2 : (-nI a).toInt = -(a : Int) := by rw [Int32.toInt_neg, h1, Int.bmod_eq_of_le (by omega) (by omega)]
  have h3 : ((400 : Int32) - nI a).toInt = 400 - (a : Int) := by rw [Int32.toInt_sub, h1, show (400 : Int32).toInt = 400 by decide, Int.bmod_eq_of_le (by omega) (by omega)]
  have h4 : (nI a + x).toInt = ((a : Int) + x.toInt).bmod (2 ^ 32) := by rw [Int32.toInt_add, h1]
  have l1 : -2147483648 ≤ x.toInt := Int32.le_toInt x
  have l2 : x.toInt ≤ 2147483647 := by have := Int32.toInt_lt x; omega
  have c0 : (0 : Int32).toInt = 0 := by decide
  have c4 : (400 : Int32).toInt = 400 := by decide
  rw [Int32.lt_iff_toInt_lt, Int32.lt_iff_toInt_lt, Int32.le_iff_toInt_le, Int32.le_iff_toInt_le, h2, h3, h4, c0, c4]
  have hb : ((a : Int) + x.toInt).bmod (2 ^ 32) = (a : Int) + x.toInt ∨ ((a : Int) + x.toInt).bmod (2 ^ 32) = (a : Int) + x.toInt - 4294967296 := by
    by_cases q : (a : Int) + x.toInt ≤ 2147483647
    · left; exact Int.bmod_eq_of_le (by omega) (by omega)
    · right
      rw [show (a : Int) + x.toInt = ((a : Int) + x.toInt - 4294967296) + ((2 ^ 32 : Nat) : Int) by omega, Int.add_bmod_right, Int.bmod_eq_of_le (by omega) (by omega)]
      omega
  by_cases q1 : x.toInt < -(a : Int)
  · left; refine ⟨q1, ?_⟩; omega
  · by_cases q2 : x.toInt ≤ 400 - (a : Int)
    · right; right
      refine ⟨q1, q2, ((a : Int) + x.toInt).toNat, by omega, ?_⟩
      apply Int32.toInt_inj.mp
      rw [h4, nI_toInt (by omega), Int.bmod_eq_of_le (by omega) (by omega)]
      omega
    · right; left; refine ⟨q1, q2, ?_⟩; omega
/-! words 44 to 52 -/
section MEMORY
variable {t : tT} {s : tR} {y : tY} {d : tD} {q : tP} {k : tK} {r : tR} {c : tC} {o : tO} {T : mT} {S : mS} {R : mR} {C : mC} {Y : mY} {D : mD} {K : mK} {Q : mP} {O : mO}

theorem wd_44 (hR : REL t s y d q k r c o T S R C Y D K Q O) (al st ca ov an th lf st' ca' re en : Int32) : ST (f_X3_carryOutNext t s y d q k r c o (al, st, ca, 44, ov, an)) (f_X12_done 44 T S R C Y D K Q O (th, lf, st', ca', -1, re, en)) al (st + 1) ca ov an th lf st' ca' re en := by
  obtain ⟨hT, ⟨n, f, F, hn, rfl, rfl, hf⟩, hY, hD, hQ, hK, ⟨p, h, G, hp, rfl, rfl, hh⟩, hC, hO⟩ := hR
  rw [dn_ge (by decide) (by decide) hC]
  obtain ⟨rfl, a, z, ha, rfl⟩ := hY
  by_cases h1 : 1 ≤ n
  · rcases pk_ix (f (n - 1)) (n := 400) (by omega) with hx | hx | ⟨j, hj, hx⟩
    · simp (maxSteps := 500000) (decide := true) (disch := omega) only [f_X3_carryOutNext, f_X3_askFirst, b_X3_askFirst_20, b_X3_askFirst_40, Int32.reduceToNatClampNeg, gp_44, fc_44, tk_44, wi_44, od_44, sw_44, b_X12_done_52, b_X12_done_69, f_X12_isStarred, b_X12_isStarred_42, f_X12_wants, f_X12_wantsStore, b_X12_wantsStore_27, L_0, L_1, L_2, L_3, nlt30, cl_nI, nI_lt0, nI_sub1, nI_sub2, nI_sub3, nI_add1, nI_add2, e_30, Nat.sub_sub, Nat.reduceAdd, hf, hh, sb, ck_T, ckn, not_false_eq_true, false_or, Nat.not_le, ite_self, ↓reduceIte, s_from0, s_from1, s_from2, s_drop1, s_drop2, s_put, s_putF, s_room1, s_room1F, s_take, s_rep, s_raise1, s_raise2, w_push, w_pop, f_X3_useMemory, f_X3_useCell, b_X3_useCell_57, f_X5_isCell, v_at, v_set, v_append, w_append, f_X8_dropOneUnless, f_X12_keeps, b_X12_keeps_22, b_X12_keeps_43, b_X12_keeps_154, U_0, nz, e_400, LE400, LT400, Int32.zero_add, h1, hx]
      refine ST.m1 ⟨hT, rS.mk2 (by omega) (by omega) ?_, rY.mk2 (by omega) rfl (by omega), hD, hQ, hK, rS.mk2 (by omega) (by omega) ?_, hC, hO⟩
      all_goals (intro i hi; try simp only [upd_at])
      all_goals repeat' split
      all_goals first | rfl | exact hf _ (by omega) | exact hh _ (by omega) | (exfalso; omega) | exact absurd trivial (by assumption) | (simp (disch := omega) only [hf, hh]; done)
    · have hx1 : (400 : Int32) ≤ f (n - 1) := hx
      have hx0 := ge0 hx1
      have hx2 := lt_of_nle hx1
      simp (maxSteps := 500000) (decide := true) (disch := omega) only [f_X3_carryOutNext, f_X3_askFirst, b_X3_askFirst_20, b_X3_askFirst_40, Int32.reduceToNatClampNeg, gp_44, fc_44, tk_44, wi_44, od_44, sw_44, b_X12_done_52, b_X12_done_69, f_X12_isStarred, b_X12_isStarred_42, f_X12_wants, f_X12_wantsStore, b_X12_wantsStore_27, L_0, L_1, L_2, L_3, nlt30, cl_nI, nI_lt0, nI_sub1, nI_sub2, nI_sub3, nI_add1, nI_add2, e_30, Nat.sub_sub, Nat.reduceAdd, hf, hh, sb, ck_T, ckn, not_false_eq_true, false_or, Nat.not_le, ite_self, ↓reduceIte, s_from0, s_from1, s_from2, s_drop1, s_drop2, s_put, s_putF, s_room1, s_room1F, s_take, s_rep, s_raise1, s_raise2, w_push, w_pop, f_X3_useMemory, f_X3_useCell, b_X3_useCell_57, f_X5_isCell, v_at, v_set, v_append, w_append, f_X8_dropOneUnless, f_X12_keeps, b_X12_keeps_22, b_X12_keeps_43, b_X12_keeps_154, U_0, nz, e_400, LE400, LT400, Int32.zero_add, h1, hx0, hx1, hx2]
      refine ST.m1 ⟨hT, rS.mk2 (by omega) (by omega) ?_, rY.mk2 (by omega) rfl (by omega), hD, hQ, hK, rS.mk2 (by omega) (by omega) ?_, hC, hO⟩
      all_goals (intro i hi; try simp only [upd_at])
      all_goals repeat' split
      all_goals first | rfl | exact hf _ (by omega) | exact hh _ (by omega) | (exfalso; omega) | exact absurd trivial (by assumption) | (simp (disch := omega) only [hf, hh]; done)
    · simp (maxSteps := 500000) (decide := true) (disch := omega) only [f_X3_carryOutNext, f_X3_askFirst, b_X3_askFirst_20, b_X3_askFirst_40, Int32.reduceToNatClampNeg, gp_44, fc_44, tk_44, wi_44, od_44, sw_44, b_X12_done_52, b_X12_done_69, f_X12_isStarred, b_X12_isStarred_42, f_X12_wants, f_X12_wantsStore, b_X12_wantsStore_27, L_0, L_1, L_2, L_3, nlt30, cl_nI, nI_lt0, nI_sub1, nI_sub2, nI_sub3, nI_add1, nI_add2, e_30, Nat.sub_sub, Nat.reduceAdd, hf, hh, sb, ck_T, ckn, not_false_eq_true, false_or, Nat.not_le, ite_self, ↓reduceIte, s_from0, s_from1, s_from2, s_drop1, s_drop2, s_put, s_putF, s_room1, s_room1F, s_take, s_rep, s_raise1, s_raise2, w_push, w_pop, f_X3_useMemory, f_X3_useCell, b_X3_useCell_57, f_X5_isCell, v_at, v_set, v_append, w_append, f_X8_dropOneUnless, f_X12_keeps, b_X12_keeps_22, b_X12_keeps_43, b_X12_keeps_154, U_0, nz, e_400, LE400, LT400, Int32.zero_add, h1, hx]
      refine ST.m1 ⟨hT, rS.mk2 (by omega) (by omega) ?_, rY.mk2 (by omega) rfl (by omega), hD, hQ, hK, rS.mk2 (by omega) (by omega) ?_, hC, hO⟩
      all_goals (intro i hi; try simp only [upd_at])
      all_goals repeat' split
      all_goals first | rfl | exact hf _ (by omega) | exact hh _ (by omega) | (exfalso; omega) | exact absurd trivial (by assumption) | (simp (disch := omega) only [hf, hh]; done)
  · simp (maxSteps := 500000) (decide := true) (disch := omega) only [f_X3_carryOutNext, f_X3_askFirst, b_X3_askFirst_20, b_X3_askFirst_40, Int32.reduceToNatClampNeg, gp_44, fc_44, tk_44, wi_44, od_44, sw_44, b_X12_done_52, b_X12_done_69, f_X12_isStarred, b_X12_isStarred_42, f_X12_wants, f_X12_wantsStore, b_X12_wantsStore_27, L_0, L_1, L_2, L_3, nlt30, cl_nI, nI_lt0, nI_sub1, nI_sub2, nI_sub3, nI_add1, nI_add2, e_30, Nat.sub_sub, Nat.reduceAdd, hf, hh, sb, ck_T, ckn, not_false_eq_true, false_or, Nat.not_le, ite_self, ↓reduceIte, s_from0, s_from1, s_from2, s_drop1, s_drop2, s_put, s_putF, s_room1, s_room1F, s_take, s_rep, s_raise1, s_raise2, w_push, w_pop, f_X3_useMemory, f_X3_useCell, b_X3_useCell_57, f_X5_isCell, v_at, v_set, v_append, w_append, f_X8_dropOneUnless, f_X12_keeps, b_X12_keeps_22, b_X12_keeps_43, b_X12_keeps_154, U_0, nz, e_400, LE400, LT400, Int32.zero_add, h1]
    refine ST.m1 ⟨hT, rS.mk2 (by omega) (by omega) ?_, rY.mk2 (by omega) rfl (by omega), hD, hQ, hK, rS.mk2 (by omega) (by omega) ?_, hC, hO⟩
    all_goals (intro i hi; try simp only [upd_at])
    all_goals repeat' split
    all_goals first | rfl | exact hf _ (by omega) | exact hh _ (by omega) | (exfalso; omega) | exact absurd trivial (by assumption) | (simp (disch := omega) only [hf, hh]; done)
theorem wd_45 (hR : REL t s y d q k r c o T S R C Y D K Q O) (al st ca ov an th lf st' ca' re en : Int32) : ST (f_X3_carryOutNext t s y d q k r c o (al, st, ca, 45, ov, an)) (f_X12_done 45 T S R C Y D K Q O (th, lf, st', ca', -1, re, en)) al (st + 1) ca ov an th lf st' ca' re en := by
  obtain ⟨hT, ⟨n, f, F, hn, rfl, rfl, hf⟩, hY, hD, hQ, hK, ⟨p, h, G, hp, rfl, rfl, hh⟩, hC, hO⟩ := hR
  rw [dn_ge (by decide) (by decide) hC]
  obtain ⟨rfl, a, z, ha, rfl⟩ := hY
  by_cases h1 : 2 ≤ n
  · rcases pk_ix (f (n - 1)) (n := 400) (by omega) with hx | hx | ⟨j, hj, hx⟩
    · simp (maxSteps := 500000) (decide := true) (disch := omega) only [f_X3_carryOutNext, f_X3_askFirst, b_X3_askFirst_20, b_X3_askFirst_40, Int32.reduceToNatClampNeg, gp_45, fc_45, tk_45, wi_45, od_45, sw_45, b_X12_done_52, b_X12_done_69, f_X12_isStarred, b_X12_isStarred_42, f_X12_wants, f_X12_wantsStore, b_X12_wantsStore_27, L_0, L_1, L_2, L_3, nlt30, cl_nI, nI_lt0, nI_sub1, nI_sub2, nI_sub3, nI_add1, nI_add2, e_30, Nat.sub_sub, Nat.reduceAdd, hf, hh, sb, ck_T, ckn, not_false_eq_true, false_or, Nat.not_le, ite_self, ↓reduceIte, s_from0, s_from1, s_from2, s_drop1, s_drop2, s_put, s_putF, s_room1, s_room1F, s_take, s_rep, s_raise1, s_raise2, w_push, w_pop, f_X3_useMemory, f_X3_useCell, b_X3_useCell_57, f_X5_isCell, v_at, v_set, v_append, w_append, f_X8_dropOneUnless, f_X12_keeps, b_X12_keeps_22, b_X12_keeps_43, b_X12_keeps_154, U_0, nz, e_400, LE400, LT400, Int32.zero_add, h1, hx]
      refine ST.m1 ⟨hT, rS.mk2 (by omega) (by omega) ?_, rY.mk2 (by omega) rfl (by omega), hD, hQ, hK, rS.mk2 (by omega) (by omega) ?_, hC, hO⟩
      all_goals (intro i hi; try simp only [upd_at])
      all_goals repeat' split
      all_goals first | rfl | exact hf _ (by omega) | exact hh _ (by omega) | (exfalso; omega) | exact absurd trivial (by assumption) | (simp (disch := omega) only [hf, hh]; done)
    · have hx1 : (400 : Int32) ≤ f (n - 1) := hx
      have hx0 := ge0 hx1
      have hx2 := lt_of_nle hx1
      simp (maxSteps := 500000) (decide := true) (disch := omega) only [f_X3_carryOutNext, f_X3_askFirst, b_X3_askFirst_20, b_X3_askFirst_40, Int32.reduceToNatClampNeg, gp_45, fc_45, tk_45, wi_45, od_45, sw_45, b_X12_done_52, b_X12_done_69, f_X12_isStarred, b_X12_isStarred_42, f_X12_wants, f_X12_wantsStore, b_X12_wantsStore_27, L_0, L_1, L_2, L_3, nlt30, cl_nI, nI_lt0, nI_sub1, nI_sub2, nI_sub3, nI_add1, nI_add2, e_30, Nat.sub_sub, Nat.reduceAdd, hf, hh, sb, ck_T, ckn, not_false_eq_true, false_or, Nat.not_le, ite_self, ↓reduceIte, s_from0, s_from1, s_from2, s_drop1, s_drop2, s_put, s_putF, s_room1, s_room1F, s_take, s_rep, s_raise1, s_raise2, w_push, w_pop, f_X3_useMemory, f_X3_useCell, b_X3_useCell_57, f_X5_isCell, v_at, v_set, v_append, w_append, f_X8_dropOneUnless, f_X12_keeps, b_X12_keeps_22, b_X12_keeps_43, b_X12_keeps_154, U_0, nz, e_400, LE400, LT400, Int32.zero_add, h1, hx0, hx1, hx2]
      refine ST.m1 ⟨hT, rS.mk2 (by omega) (by omega) ?_, rY.mk2 (by omega) rfl (by omega), hD, hQ, hK, rS.mk2 (by omega) (by omega) ?_, hC, hO⟩
      all_goals (intro i hi; try simp only [upd_at])
      all_goals repeat' split
      all_goals first | rfl | exact hf _ (by omega) | exact hh _ (by omega) | (exfalso; omega) | exact absurd trivial (by assumption) | (simp (disch := omega) only [hf, hh]; done)
    · simp (maxSteps := 500000) (decide := true) (disch := omega) only [f_X3_carryOutNext, f_X3_askFirst, b_X3_askFirst_20, b_X3_askFirst_40, Int32.reduceToNatClampNeg, gp_45, fc_45, tk_45, wi_45, od_45, sw_45, b_X12_done_52, b_X12_done_69, f_X12_isStarred, b_X12_isStarred_42, f_X12_wants, f_X12_wantsStore, b_X12_wantsStore_27, L_0, L_1, L_2, L_3, nlt30, cl_nI, nI_lt0, nI_sub1, nI_sub2, nI_sub3, nI_add1, nI_add2, e_30, Nat.sub_sub, Nat.reduceAdd, hf, hh, sb, ck_T, ckn, not_false_eq_true, false_or, Nat.not_le, ite_self, ↓reduceIte, s_from0, s_from1, s_from2, s_drop1, s_drop2, s_put, s_putF, s_room1, s_room1F, s_take, s_rep, s_raise1, s_raise2, w_push, w_pop, f_X3_useMemory, f_X3_useCell, b_X3_useCell_57, f_X5_isCell, v_at, v_set, v_append, w_append, f_X8_dropOneUnless, f_X12_keeps, b_X12_keeps_22, b_X12_keeps_43, b_X12_keeps_154, U_0, nz, e_400, LE400, LT400, Int32.zero_add, h1, hx]
      refine ST.m1 ⟨hT, rS.mk2 (by omega) (by omega) ?_, rY.mk2 (by omega) rfl (by omega), hD, hQ, hK, rS.mk2 (by omega) (by omega) ?_, hC, hO⟩
      all_goals (intro i hi; try simp only [upd_at])
      all_goals repeat' split
      all_goals first | rfl | exact hf _ (by omega) | exact hh _ (by omega) | (exfalso; omega) | exact absurd trivial (by assumption) | (simp (disch := omega) only [hf, hh]; done)
  · simp (maxSteps := 500000) (decide := true) (disch := omega) only [f_X3_carryOutNext, f_X3_askFirst, b_X3_askFirst_20, b_X3_askFirst_40, Int32.reduceToNatClampNeg, gp_45, fc_45, tk_45, wi_45, od_45, sw_45, b_X12_done_52, b_X12_done_69, f_X12_isStarred, b_X12_isStarred_42, f_X12_wants, f_X12_wantsStore, b_X12_wantsStore_27, L_0, L_1, L_2, L_3, nlt30, cl_nI, nI_lt0, nI_sub1, nI_sub2, nI_sub3, nI_add1, nI_add2, e_30, Nat.sub_sub, Nat.reduceAdd, hf, hh, sb, ck_T, ckn, not_false_eq_true, false_or, Nat.not_le, ite_self, ↓reduceIte, s_from0, s_from1, s_from2, s_drop1, s_drop2, s_put, s_putF, s_room1, s_room1F, s_take, s_rep, s_raise1, s_raise2, w_push, w_pop, f_X3_useMemory, f_X3_useCell, b_X3_useCell_57, f_X5_isCell, v_at, v_set, v_append, w_append, f_X8_dropOneUnless, f_X12_keeps, b_X12_keeps_22, b_X12_keeps_43, b_X12_keeps_154, U_0, nz, e_400, LE400, LT400, Int32.zero_add, h1]
    refine ST.m1 ⟨hT, rS.mk2 (by omega) (by omega) ?_, rY.mk2 (by omega) rfl (by omega), hD, hQ, hK, rS.mk2 (by omega) (by omega) ?_, hC, hO⟩
    all_goals (intro i hi; try simp only [upd_at])
    all_goals repeat' split
    all_goals first | rfl | exact hf _ (by omega) | exact hh _ (by omega) | (exfalso; omega) | exact absurd trivial (by assumption) | (simp (disch := omega) only [hf, hh]; done)
theorem wd_46 (hR : REL t s y d q k r c o T S R C Y D K Q O) (al st ca ov an th lf st' ca' re en : Int32) : ST (f_X3_carryOutNext t s y d q k r c o (al, st, ca, 46, ov, an)) (f_X12_done 46 T S R C Y D K Q O (th, lf, st', ca', -1, re, en)) al (st + 1) ca ov an th lf st' ca' re en := by
  obtain ⟨hT, ⟨n, f, F, hn, rfl, rfl, hf⟩, hY, hD, hQ, hK, ⟨p, h, G, hp, rfl, rfl, hh⟩, hC, hO⟩ := hR
  rw [dn_ge (by decide) (by decide) hC]
  obtain ⟨rfl, a, z, ha, rfl⟩ := hY
  by_cases h1 : 2 ≤ n
  · rcases pk_ix (f (n - 1)) (n := 400) (by omega) with hx | hx | ⟨j, hj, hx⟩
    · simp (maxSteps := 500000) (decide := true) (disch := omega) only [f_X3_carryOutNext, f_X3_askFirst, b_X3_askFirst_20, b_X3_askFirst_40, Int32.reduceToNatClampNeg, gp_46, fc_46, tk_46, wi_46, od_46, sw_46, b_X12_done_52, b_X12_done_69, f_X12_isStarred, b_X12_isStarred_42, f_X12_wants, f_X12_wantsStore, b_X12_wantsStore_27, L_0, L_1, L_2, L_3, nlt30, cl_nI, nI_lt0, nI_sub1, nI_sub2, nI_sub3, nI_add1, nI_add2, e_30, Nat.sub_sub, Nat.reduceAdd, hf, hh, sb, ck_T, ckn, not_false_eq_true, false_or, Nat.not_le, ite_self, ↓reduceIte, s_from0, s_from1, s_from2, s_drop1, s_drop2, s_put, s_putF, s_room1, s_room1F, s_take, s_rep, s_raise1, s_raise2, w_push, w_pop, f_X3_useMemory, f_X3_useCell, b_X3_useCell_57, f_X5_isCell, v_at, v_set, v_append, w_append, f_X8_dropOneUnless, f_X12_keeps, b_X12_keeps_22, b_X12_keeps_43, b_X12_keeps_154, U_0, nz, e_400, LE400, LT400, Int32.zero_add, h1, hx]
      refine ST.m1 ⟨hT, rS.mk2 (by omega) (by omega) ?_, rY.mk2 (by omega) rfl (by omega), hD, hQ, hK, rS.mk2 (by omega) (by omega) ?_, hC, hO⟩
      all_goals (intro i hi; try simp only [upd_at])
      all_goals repeat' split
      all_goals first | rfl | exact hf _ (by omega) | exact hh _ (by omega) | (exfalso; omega) | exact absurd trivial (by assumption) | (simp (disch := omega) only [hf, hh]; done)
    · have hx1 : (400 : Int32) ≤ f (n - 1) := hx
      have hx0 := ge0 hx1
      have hx2 := lt_of_nle hx1
      simp (maxSteps := 500000) (decide := true) (disch := omega) only [f_X3_carryOutNext, f_X3_askFirst, b_X3_askFirst_20, b_X3_askFirst_40, Int32.reduceToNatClampNeg, gp_46, fc_46, tk_46, wi_46, od_46, sw_46, b_X12_done_52, b_X12_done_69, f_X12_isStarred, b_X12_isStarred_42, f_X12_wants, f_X12_wantsStore, b_X12_wantsStore_27, L_0, L_1, L_2, L_3, nlt30, cl_nI, nI_lt0, nI_sub1, nI_sub2, nI_sub3, nI_add1, nI_add2, e_30, Nat.sub_sub, Nat.reduceAdd, hf, hh, sb, ck_T, ckn, not_false_eq_true, false_or, Nat.not_le, ite_self, ↓reduceIte, s_from0, s_from1, s_from2, s_drop1, s_drop2, s_put, s_putF, s_room1, s_room1F, s_take, s_rep, s_raise1, s_raise2, w_push, w_pop, f_X3_useMemory, f_X3_useCell, b_X3_useCell_57, f_X5_isCell, v_at, v_set, v_append, w_append, f_X8_dropOneUnless, f_X12_keeps, b_X12_keeps_22, b_X12_keeps_43, b_X12_keeps_154, U_0, nz, e_400, LE400, LT400, Int32.zero_add, h1, hx0, hx1, hx2]
      refine ST.m1 ⟨hT, rS.mk2 (by omega) (by omega) ?_, rY.mk2 (by omega) rfl (by omega), hD, hQ, hK, rS.mk2 (by omega) (by omega) ?_, hC, hO⟩
      all_goals (intro i hi; try simp only [upd_at])
      all_goals repeat' split
      all_goals first | rfl | exact hf _ (by omega) | exact hh _ (by omega) | (exfalso; omega) | exact absurd trivial (by assumption) | (simp (disch := omega) only [hf, hh]; done)
    · simp (maxSteps := 500000) (decide := true) (disch := omega) only [f_X3_carryOutNext, f_X3_askFirst, b_X3_askFirst_20, b_X3_askFirst_40, Int32.reduceToNatClampNeg, gp_46, fc_46, tk_46, wi_46, od_46, sw_46, b_X12_done_52, b_X12_done_69, f_X12_isStarred, b_X12_isStarred_42, f_X12_wants, f_X12_wantsStore, b_X12_wantsStore_27, L_0, L_1, L_2, L_3, nlt30, cl_nI, nI_lt0, nI_sub1, nI_sub2, nI_sub3, nI_add1, nI_add2, e_30, Nat.sub_sub, Nat.reduceAdd, hf, hh, sb, ck_T, ckn, not_false_eq_true, false_or, Nat.not_le, ite_self, ↓reduceIte, s_from0, s_from1, s_from2, s_drop1, s_drop2, s_put, s_putF, s_room1, s_room1F, s_take, s_rep, s_raise1, s_raise2, w_push, w_pop, f_X3_useMemory, f_X3_useCell, b_X3_useCell_57, f_X5_isCell, v_at, v_set, v_append, w_append, f_X8_dropOneUnless, f_X12_keeps, b_X12_keeps_22, b_X12_keeps_43, b_X12_keeps_154, U_0, nz, e_400, LE400, LT400, Int32.zero_add, h1, hx]
      refine ST.m1 ⟨hT, rS.mk2 (by omega) (by omega) ?_, rY.mk2 (by omega) rfl (by omega), hD, hQ, hK, rS.mk2 (by omega) (by omega) ?_, hC, hO⟩
      all_goals (intro i hi; try simp only [upd_at])
      all_goals repeat' split
      all_goals first | rfl | exact hf _ (by omega) | exact hh _ (by omega) | (exfalso; omega) | exact absurd trivial (by assumption) | (simp (disch := omega) only [hf, hh]; done)
  · simp (maxSteps := 500000) (decide := true) (disch := omega) only [f_X3_carryOutNext, f_X3_askFirst, b_X3_askFirst_20, b_X3_askFirst_40, Int32.reduceToNatClampNeg, gp_46, fc_46, tk_46, wi_46, od_46, sw_46, b_X12_done_52, b_X12_done_69, f_X12_isStarred, b_X12_isStarred_42, f_X12_wants, f_X12_wantsStore, b_X12_wantsStore_27, L_0, L_1, L_2, L_3, nlt30, cl_nI, nI_lt0, nI_sub1, nI_sub2, nI_sub3, nI_add1, nI_add2, e_30, Nat.sub_sub, Nat.reduceAdd, hf, hh, sb, ck_T, ckn, not_false_eq_true, false_or, Nat.not_le, ite_self, ↓reduceIte, s_from0, s_from1, s_from2, s_drop1, s_drop2, s_put, s_putF, s_room1, s_room1F, s_take, s_rep, s_raise1, s_raise2, w_push, w_pop, f_X3_useMemory, f_X3_useCell, b_X3_useCell_57, f_X5_isCell, v_at, v_set, v_append, w_append, f_X8_dropOneUnless, f_X12_keeps, b_X12_keeps_22, b_X12_keeps_43, b_X12_keeps_154, U_0, nz, e_400, LE400, LT400, Int32.zero_add, h1]
    refine ST.m1 ⟨hT, rS.mk2 (by omega) (by omega) ?_, rY.mk2 (by omega) rfl (by omega), hD, hQ, hK, rS.mk2 (by omega) (by omega) ?_, hC, hO⟩
    all_goals (intro i hi; try simp only [upd_at])
    all_goals repeat' split
    all_goals first | rfl | exact hf _ (by omega) | exact hh _ (by omega) | (exfalso; omega) | exact absurd trivial (by assumption) | (simp (disch := omega) only [hf, hh]; done)
theorem wd_47 (hR : REL t s y d q k r c o T S R C Y D K Q O) (al st ca ov an th lf st' ca' re en : Int32) : ST (f_X3_carryOutNext t s y d q k r c o (al, st, ca, 47, ov, an)) (f_X12_done 47 T S R C Y D K Q O (th, lf, st', ca', -1, re, en)) al (st + 1) ca ov an th lf st' ca' re en := by
  obtain ⟨hT, ⟨n, f, F, hn, rfl, rfl, hf⟩, hY, hD, hQ, hK, ⟨p, h, G, hp, rfl, rfl, hh⟩, hC, hO⟩ := hR
  rw [dn_ge (by decide) (by decide) hC]
  obtain ⟨rfl, a, z, ha, rfl⟩ := hY
  by_cases h1 : 1 ≤ n
  · by_cases h5 : a = 400
    · simp (maxSteps := 500000) (decide := true) (disch := omega) only [f_X3_carryOutNext, f_X3_askFirst, b_X3_askFirst_20, b_X3_askFirst_40, Int32.reduceToNatClampNeg, gp_47, fc_47, tk_47, wi_47, od_47, sw_47, b_X12_done_52, b_X12_done_69, f_X12_isStarred, b_X12_isStarred_42, f_X12_wants, f_X12_wantsStore, b_X12_wantsStore_27, L_0, L_1, L_2, L_3, nlt30, cl_nI, nI_lt0, nI_sub1, nI_sub2, nI_sub3, nI_add1, nI_add2, e_30, Nat.sub_sub, Nat.reduceAdd, hf, hh, sb, ck_T, ckn, not_false_eq_true, false_or, Nat.not_le, ite_self, ↓reduceIte, s_from0, s_from1, s_from2, s_drop1, s_drop2, s_put, s_putF, s_room1, s_room1F, s_take, s_rep, s_raise1, s_raise2, w_push, w_pop, f_X3_useMemory, f_X3_useCell, b_X3_useCell_57, f_X5_isCell, v_at, v_set, v_append, w_append, f_X8_dropOneUnless, f_X12_keeps, b_X12_keeps_22, b_X12_keeps_43, b_X12_keeps_154, U_0, nz, e_400, LE400, LT400, Int32.zero_add, h1, h5]
      refine ST.m1 ⟨hT, rS.mk2 (by omega) (by omega) ?_, rY.mk2 (by omega) rfl (by omega), hD, hQ, hK, rS.mk2 (by omega) (by omega) ?_, hC, hO⟩
      all_goals (intro i hi; try simp only [upd_at])
      all_goals repeat' split
      all_goals first | rfl | exact hf _ (by omega) | exact hh _ (by omega) | (exfalso; omega) | exact absurd trivial (by assumption) | (simp (disch := omega) only [hf, hh]; done)
    · simp (maxSteps := 500000) (decide := true) (disch := omega) only [f_X3_carryOutNext, f_X3_askFirst, b_X3_askFirst_20, b_X3_askFirst_40, Int32.reduceToNatClampNeg, gp_47, fc_47, tk_47, wi_47, od_47, sw_47, b_X12_done_52, b_X12_done_69, f_X12_isStarred, b_X12_isStarred_42, f_X12_wants, f_X12_wantsStore, b_X12_wantsStore_27, L_0, L_1, L_2, L_3, nlt30, cl_nI, nI_lt0, nI_sub1, nI_sub2, nI_sub3, nI_add1, nI_add2, e_30, Nat.sub_sub, Nat.reduceAdd, hf, hh, sb, ck_T, ckn, not_false_eq_true, false_or, Nat.not_le, ite_self, ↓reduceIte, s_from0, s_from1, s_from2, s_drop1, s_drop2, s_put, s_putF, s_room1, s_room1F, s_take, s_rep, s_raise1, s_raise2, w_push, w_pop, f_X3_useMemory, f_X3_useCell, b_X3_useCell_57, f_X5_isCell, v_at, v_set, v_append, w_append, f_X8_dropOneUnless, f_X12_keeps, b_X12_keeps_22, b_X12_keeps_43, b_X12_keeps_154, U_0, nz, e_400, LE400, LT400, Int32.zero_add, h1, h5]
      refine ST.m1 ⟨hT, rS.mk2 (by omega) (by omega) ?_, rY.mk2 (by omega) rfl (by omega), hD, hQ, hK, rS.mk2 (by omega) (by omega) ?_, hC, hO⟩
      all_goals (intro i hi; try simp only [upd_at])
      all_goals repeat' split
      all_goals first | rfl | exact hf _ (by omega) | exact hh _ (by omega) | (exfalso; omega) | exact absurd trivial (by assumption) | (simp (disch := omega) only [hf, hh]; done)
  · simp (maxSteps := 500000) (decide := true) (disch := omega) only [f_X3_carryOutNext, f_X3_askFirst, b_X3_askFirst_20, b_X3_askFirst_40, Int32.reduceToNatClampNeg, gp_47, fc_47, tk_47, wi_47, od_47, sw_47, b_X12_done_52, b_X12_done_69, f_X12_isStarred, b_X12_isStarred_42, f_X12_wants, f_X12_wantsStore, b_X12_wantsStore_27, L_0, L_1, L_2, L_3, nlt30, cl_nI, nI_lt0, nI_sub1, nI_sub2, nI_sub3, nI_add1, nI_add2, e_30, Nat.sub_sub, Nat.reduceAdd, hf, hh, sb, ck_T, ckn, not_false_eq_true, false_or, Nat.not_le, ite_self, ↓reduceIte, s_from0, s_from1, s_from2, s_drop1, s_drop2, s_put, s_putF, s_room1, s_room1F, s_take, s_rep, s_raise1, s_raise2, w_push, w_pop, f_X3_useMemory, f_X3_useCell, b_X3_useCell_57, f_X5_isCell, v_at, v_set, v_append, w_append, f_X8_dropOneUnless, f_X12_keeps, b_X12_keeps_22, b_X12_keeps_43, b_X12_keeps_154, U_0, nz, e_400, LE400, LT400, Int32.zero_add, h1]
    refine ST.m1 ⟨hT, rS.mk2 (by omega) (by omega) ?_, rY.mk2 (by omega) rfl (by omega), hD, hQ, hK, rS.mk2 (by omega) (by omega) ?_, hC, hO⟩
    all_goals (intro i hi; try simp only [upd_at])
    all_goals repeat' split
    all_goals first | rfl | exact hf _ (by omega) | exact hh _ (by omega) | (exfalso; omega) | exact absurd trivial (by assumption) | (simp (disch := omega) only [hf, hh]; done)
theorem wd_48 (hR : REL t s y d q k r c o T S R C Y D K Q O) (al st ca ov an th lf st' ca' re en : Int32) : ST (f_X3_carryOutNext t s y d q k r c o (al, st, ca, 48, ov, an)) (f_X12_done 48 T S R C Y D K Q O (th, lf, st', ca', -1, re, en)) al (st + 1) ca ov an th lf st' ca' re en := by
  obtain ⟨hT, ⟨n, f, F, hn, rfl, rfl, hf⟩, hY, hD, hQ, hK, ⟨p, h, G, hp, rfl, rfl, hh⟩, hC, hO⟩ := hR
  rw [dn_ge (by decide) (by decide) hC]
  obtain ⟨rfl, a, z, ha, rfl⟩ := hY
  by_cases hz : n = 0
  · by_cases h2 : n < 30
    · simp (maxSteps := 500000) (decide := true) (disch := omega) only [f_X3_carryOutNext, f_X3_askFirst, b_X3_askFirst_20, b_X3_askFirst_40, Int32.reduceToNatClampNeg, gp_48, fc_48, tk_48, wi_48, od_48, sw_48, b_X12_done_52, b_X12_done_69, f_X12_isStarred, b_X12_isStarred_42, f_X12_wants, f_X12_wantsStore, b_X12_wantsStore_27, L_0, L_1, L_2, L_3, nlt30, cl_nI, nI_lt0, nI_sub1, nI_sub2, nI_sub3, nI_add1, nI_add2, e_30, Nat.sub_sub, Nat.reduceAdd, hf, hh, sb, ck_T, ckn, not_false_eq_true, false_or, Nat.not_le, ite_self, ↓reduceIte, s_from0, s_from1, s_from2, s_drop1, s_drop2, s_put, s_putF, s_room1, s_room1F, s_take, s_rep, s_raise1, s_raise2, w_push, w_pop, f_X3_useMemory, f_X3_useCell, b_X3_useCell_57, f_X5_isCell, v_at, v_set, v_append, w_append, f_X8_dropOneUnless, f_X12_keeps, b_X12_keeps_22, b_X12_keeps_43, b_X12_keeps_154, U_0, nz, e_400, LE400, LT400, Int32.zero_add, hz, h2]
      refine ST.m1 ⟨hT, rS.mk2 (by omega) (by omega) ?_, rY.mk2 (by omega) rfl (by omega), hD, hQ, hK, rS.mk2 (by omega) (by omega) ?_, hC, hO⟩
      all_goals (intro i hi; try simp only [upd_at])
      all_goals repeat' split
      all_goals first | rfl | exact hf _ (by omega) | exact hh _ (by omega) | (exfalso; omega) | exact absurd trivial (by assumption) | (simp (disch := omega) only [hf, hh]; done)
    · obtain rfl : n = 30 := by omega
      simp (maxSteps := 500000) (decide := true) (disch := omega) only [f_X3_carryOutNext, f_X3_askFirst, b_X3_askFirst_20, b_X3_askFirst_40, Int32.reduceToNatClampNeg, gp_48, fc_48, tk_48, wi_48, od_48, sw_48, b_X12_done_52, b_X12_done_69, f_X12_isStarred, b_X12_isStarred_42, f_X12_wants, f_X12_wantsStore, b_X12_wantsStore_27, L_0, L_1, L_2, L_3, nlt30, cl_nI, nI_lt0, nI_sub1, nI_sub2, nI_sub3, nI_add1, nI_add2, e_30, Nat.sub_sub, Nat.reduceAdd, hf, hh, sb, ck_T, ckn, not_false_eq_true, false_or, Nat.not_le, ite_self, ↓reduceIte, s_from0, s_from1, s_from2, s_drop1, s_drop2, s_put, s_putF, s_room1, s_room1F, s_take, s_rep, s_raise1, s_raise2, w_push, w_pop, f_X3_useMemory, f_X3_useCell, b_X3_useCell_57, f_X5_isCell, v_at, v_set, v_append, w_append, f_X8_dropOneUnless, f_X12_keeps, b_X12_keeps_22, b_X12_keeps_43, b_X12_keeps_154, U_0, nz, e_400, LE400, LT400, Int32.zero_add, hz]
      refine ST.m1 ⟨hT, rS.mk2 (by omega) (by omega) ?_, rY.mk2 (by omega) rfl (by omega), hD, hQ, hK, rS.mk2 (by omega) (by omega) ?_, hC, hO⟩
      all_goals (intro i hi; try simp only [upd_at])
      all_goals repeat' split
      all_goals first | rfl | exact hf _ (by omega) | exact hh _ (by omega) | (exfalso; omega) | exact absurd trivial (by assumption) | (simp (disch := omega) only [hf, hh]; done)
  · by_cases h2 : n < 30
    · simp (maxSteps := 500000) (decide := true) (disch := omega) only [f_X3_carryOutNext, f_X3_askFirst, b_X3_askFirst_20, b_X3_askFirst_40, Int32.reduceToNatClampNeg, gp_48, fc_48, tk_48, wi_48, od_48, sw_48, b_X12_done_52, b_X12_done_69, f_X12_isStarred, b_X12_isStarred_42, f_X12_wants, f_X12_wantsStore, b_X12_wantsStore_27, L_0, L_1, L_2, L_3, nlt30, cl_nI, nI_lt0, nI_sub1, nI_sub2, nI_sub3, nI_add1, nI_add2, e_30, Nat.sub_sub, Nat.reduceAdd, hf, hh, sb, ck_T, ckn, not_false_eq_true, false_or, Nat.not_le, ite_self, ↓reduceIte, s_from0, s_from1, s_from2, s_drop1, s_drop2, s_put, s_putF, s_room1, s_room1F, s_take, s_rep, s_raise1, s_raise2, w_push, w_pop, f_X3_useMemory, f_X3_useCell, b_X3_useCell_57, f_X5_isCell, v_at, v_set, v_append, w_append, f_X8_dropOneUnless, f_X12_keeps, b_X12_keeps_22, b_X12_keeps_43, b_X12_keeps_154, U_0, nz, e_400, LE400, LT400, Int32.zero_add, hz, h2]
      refine ST.m1 ⟨hT, rS.mk2 (by omega) (by omega) ?_, rY.mk2 (by omega) rfl (by omega), hD, hQ, hK, rS.mk2 (by omega) (by omega) ?_, hC, hO⟩
      all_goals (intro i hi; try simp only [upd_at])
      all_goals repeat' split
      all_goals first | rfl | exact hf _ (by omega) | exact hh _ (by omega) | (exfalso; omega) | exact absurd trivial (by assumption) | (simp (disch := omega) only [hf, hh]; done)
    · obtain rfl : n = 30 := by omega
      simp (maxSteps := 500000) (decide := true) (disch := omega) only [f_X3_carryOutNext, f_X3_askFirst, b_X3_askFirst_20, b_X3_askFirst_40, Int32.reduceToNatClampNeg, gp_48, fc_48, tk_48, wi_48, od_48, sw_48, b_X12_done_52, b_X12_done_69, f_X12_isStarred, b_X12_isStarred_42, f_X12_wants, f_X12_wantsStore, b_X12_wantsStore_27, L_0, L_1, L_2, L_3, nlt30, cl_nI, nI_lt0, nI_sub1, nI_sub2, nI_sub3, nI_add1, nI_add2, e_30, Nat.sub_sub, Nat.reduceAdd, hf, hh, sb, ck_T, ckn, not_false_eq_true, false_or, Nat.not_le, ite_self, ↓reduceIte, s_from0, s_from1, s_from2, s_drop1, s_drop2, s_put, s_putF, s_room1, s_room1F, s_take, s_rep, s_raise1, s_raise2, w_push, w_pop, f_X3_useMemory, f_X3_useCell, b_X3_useCell_57, f_X5_isCell, v_at, v_set, v_append, w_append, f_X8_dropOneUnless, f_X12_keeps, b_X12_keeps_22, b_X12_keeps_43, b_X12_keeps_154, U_0, nz, e_400, LE400, LT400, Int32.zero_add, hz]
      refine ST.m1 ⟨hT, rS.mk2 (by omega) (by omega) ?_, rY.mk2 (by omega) rfl (by omega), hD, hQ, hK, rS.mk2 (by omega) (by omega) ?_, hC, hO⟩
      all_goals (intro i hi; try simp only [upd_at])
      all_goals repeat' split
      all_goals first | rfl | exact hf _ (by omega) | exact hh _ (by omega) | (exfalso; omega) | exact absurd trivial (by assumption) | (simp (disch := omega) only [hf, hh]; done)
theorem wd_49 (hR : REL t s y d q k r c o T S R C Y D K Q O) (al st ca ov an th lf st' ca' re en : Int32) : ST (f_X3_carryOutNext t s y d q k r c o (al, st, ca, 49, ov, an)) (f_X12_done 49 T S R C Y D K Q O (th, lf, st', ca', -1, re, en)) al (st + 1) ca ov an th lf st' ca' re en := by
  obtain ⟨hT, ⟨n, f, F, hn, rfl, rfl, hf⟩, hY, hD, hQ, hK, ⟨p, h, G, hp, rfl, rfl, hh⟩, hC, hO⟩ := hR
  rw [dn_ge (by decide) (by decide) hC]
  obtain ⟨rfl, a, z, ha, rfl⟩ := hY
  by_cases h1 : 1 ≤ n
  · rcases al3 ha (f (n - 1)) with ⟨x1, x2⟩ | ⟨x1, x3, x2⟩ | ⟨x1, x3, b, hb, x2⟩
    · rcases x2 with x2 | ⟨x2, x4⟩
      · simp (maxSteps := 500000) (decide := true) (disch := omega) only [f_X3_carryOutNext, f_X3_askFirst, b_X3_askFirst_20, b_X3_askFirst_40, Int32.reduceToNatClampNeg, gp_49, fc_49, tk_49, wi_49, od_49, sw_49, b_X12_done_52, b_X12_done_69, f_X12_isStarred, b_X12_isStarred_42, f_X12_wants, f_X12_wantsStore, b_X12_wantsStore_27, L_0, L_1, L_2, L_3, nlt30, cl_nI, nI_lt0, nI_sub1, nI_sub2, nI_sub3, nI_add1, nI_add2, e_30, Nat.sub_sub, Nat.reduceAdd, hf, hh, sb, ck_T, ckn, not_false_eq_true, false_or, Nat.not_le, ite_self, ↓reduceIte, s_from0, s_from1, s_from2, s_drop1, s_drop2, s_put, s_putF, s_room1, s_room1F, s_take, s_rep, s_raise1, s_raise2, w_push, w_pop, f_X3_useMemory, f_X3_useCell, b_X3_useCell_57, f_X5_isCell, v_at, v_set, v_append, w_append, f_X8_dropOneUnless, f_X12_keeps, b_X12_keeps_22, b_X12_keeps_43, b_X12_keeps_154, U_0, nz, e_400, LE400, LT400, Int32.zero_add, f_X5_allot, U400, h1, x1, x2]
        refine ST.m1 ⟨hT, rS.mk2 (by omega) (by omega) ?_, rY.mk2 (by omega) rfl (by omega), hD, hQ, hK, rS.mk2 (by omega) (by omega) ?_, hC, hO⟩
        all_goals (intro i hi; try simp only [upd_at])
        all_goals repeat' split
        all_goals first | rfl | exact hf _ (by omega) | exact hh _ (by omega) | (exfalso; omega) | exact absurd trivial (by assumption) | (simp (disch := omega) only [hf, hh]; done)
      · simp (maxSteps := 500000) (decide := true) (disch := omega) only [f_X3_carryOutNext, f_X3_askFirst, b_X3_askFirst_20, b_X3_askFirst_40, Int32.reduceToNatClampNeg, gp_49, fc_49, tk_49, wi_49, od_49, sw_49, b_X12_done_52, b_X12_done_69, f_X12_isStarred, b_X12_isStarred_42, f_X12_wants, f_X12_wantsStore, b_X12_wantsStore_27, L_0, L_1, L_2, L_3, nlt30, cl_nI, nI_lt0, nI_sub1, nI_sub2, nI_sub3, nI_add1, nI_add2, e_30, Nat.sub_sub, Nat.reduceAdd, hf, hh, sb, ck_T, ckn, not_false_eq_true, false_or, Nat.not_le, ite_self, ↓reduceIte, s_from0, s_from1, s_from2, s_drop1, s_drop2, s_put, s_putF, s_room1, s_room1F, s_take, s_rep, s_raise1, s_raise2, w_push, w_pop, f_X3_useMemory, f_X3_useCell, b_X3_useCell_57, f_X5_isCell, v_at, v_set, v_append, w_append, f_X8_dropOneUnless, f_X12_keeps, b_X12_keeps_22, b_X12_keeps_43, b_X12_keeps_154, U_0, nz, e_400, LE400, LT400, Int32.zero_add, f_X5_allot, U400, h1, x1, x2, x4]
        refine ST.m1 ⟨hT, rS.mk2 (by omega) (by omega) ?_, rY.mk2 (by omega) rfl (by omega), hD, hQ, hK, rS.mk2 (by omega) (by omega) ?_, hC, hO⟩
        all_goals (intro i hi; try simp only [upd_at])
        all_goals repeat' split
        all_goals first | rfl | exact hf _ (by omega) | exact hh _ (by omega) | (exfalso; omega) | exact absurd trivial (by assumption) | (simp (disch := omega) only [hf, hh]; done)
    · rcases x2 with x2 | ⟨x2, x4⟩
      · simp (maxSteps := 500000) (decide := true) (disch := omega) only [f_X3_carryOutNext, f_X3_askFirst, b_X3_askFirst_20, b_X3_askFirst_40, Int32.reduceToNatClampNeg, gp_49, fc_49, tk_49, wi_49, od_49, sw_49, b_X12_done_52, b_X12_done_69, f_X12_isStarred, b_X12_isStarred_42, f_X12_wants, f_X12_wantsStore, b_X12_wantsStore_27, L_0, L_1, L_2, L_3, nlt30, cl_nI, nI_lt0, nI_sub1, nI_sub2, nI_sub3, nI_add1, nI_add2, e_30, Nat.sub_sub, Nat.reduceAdd, hf, hh, sb, ck_T, ckn, not_false_eq_true, false_or, Nat.not_le, ite_self, ↓reduceIte, s_from0, s_from1, s_from2, s_drop1, s_drop2, s_put, s_putF, s_room1, s_room1F, s_take, s_rep, s_raise1, s_raise2, w_push, w_pop, f_X3_useMemory, f_X3_useCell, b_X3_useCell_57, f_X5_isCell, v_at, v_set, v_append, w_append, f_X8_dropOneUnless, f_X12_keeps, b_X12_keeps_22, b_X12_keeps_43, b_X12_keeps_154, U_0, nz, e_400, LE400, LT400, Int32.zero_add, f_X5_allot, U400, h1, x1, x3, x2]
        refine ST.m1 ⟨hT, rS.mk2 (by omega) (by omega) ?_, rY.mk2 (by omega) rfl (by omega), hD, hQ, hK, rS.mk2 (by omega) (by omega) ?_, hC, hO⟩
        all_goals (intro i hi; try simp only [upd_at])
        all_goals repeat' split
        all_goals first | rfl | exact hf _ (by omega) | exact hh _ (by omega) | (exfalso; omega) | exact absurd trivial (by assumption) | (simp (disch := omega) only [hf, hh]; done)
      · simp (maxSteps := 500000) (decide := true) (disch := omega) only [f_X3_carryOutNext, f_X3_askFirst, b_X3_askFirst_20, b_X3_askFirst_40, Int32.reduceToNatClampNeg, gp_49, fc_49, tk_49, wi_49, od_49, sw_49, b_X12_done_52, b_X12_done_69, f_X12_isStarred, b_X12_isStarred_42, f_X12_wants, f_X12_wantsStore, b_X12_wantsStore_27, L_0, L_1, L_2, L_3, nlt30, cl_nI, nI_lt0, nI_sub1, nI_sub2, nI_sub3, nI_add1, nI_add2, e_30, Nat.sub_sub, Nat.reduceAdd, hf, hh, sb, ck_T, ckn, not_false_eq_true, false_or, Nat.not_le, ite_self, ↓reduceIte, s_from0, s_from1, s_from2, s_drop1, s_drop2, s_put, s_putF, s_room1, s_room1F, s_take, s_rep, s_raise1, s_raise2, w_push, w_pop, f_X3_useMemory, f_X3_useCell, b_X3_useCell_57, f_X5_isCell, v_at, v_set, v_append, w_append, f_X8_dropOneUnless, f_X12_keeps, b_X12_keeps_22, b_X12_keeps_43, b_X12_keeps_154, U_0, nz, e_400, LE400, LT400, Int32.zero_add, f_X5_allot, U400, h1, x1, x3, x2, x4]
        refine ST.m1 ⟨hT, rS.mk2 (by omega) (by omega) ?_, rY.mk2 (by omega) rfl (by omega), hD, hQ, hK, rS.mk2 (by omega) (by omega) ?_, hC, hO⟩
        all_goals (intro i hi; try simp only [upd_at])
        all_goals repeat' split
        all_goals first | rfl | exact hf _ (by omega) | exact hh _ (by omega) | (exfalso; omega) | exact absurd trivial (by assumption) | (simp (disch := omega) only [hf, hh]; done)
    · simp (maxSteps := 500000) (decide := true) (disch := omega) only [f_X3_carryOutNext, f_X3_askFirst, b_X3_askFirst_20, b_X3_askFirst_40, Int32.reduceToNatClampNeg, gp_49, fc_49, tk_49, wi_49, od_49, sw_49, b_X12_done_52, b_X12_done_69, f_X12_isStarred, b_X12_isStarred_42, f_X12_wants, f_X12_wantsStore, b_X12_wantsStore_27, L_0, L_1, L_2, L_3, nlt30, cl_nI, nI_lt0, nI_sub1, nI_sub2, nI_sub3, nI_add1, nI_add2, e_30, Nat.sub_sub, Nat.reduceAdd, hf, hh, sb, ck_T, ckn, not_false_eq_true, false_or, Nat.not_le, ite_self, ↓reduceIte, s_from0, s_from1, s_from2, s_drop1, s_drop2, s_put, s_putF, s_room1, s_room1F, s_take, s_rep, s_raise1, s_raise2, w_push, w_pop, f_X3_useMemory, f_X3_useCell, b_X3_useCell_57, f_X5_isCell, v_at, v_set, v_append, w_append, f_X8_dropOneUnless, f_X12_keeps, b_X12_keeps_22, b_X12_keeps_43, b_X12_keeps_154, U_0, nz, e_400, LE400, LT400, Int32.zero_add, f_X5_allot, U400, h1, x1, x3, x2]
      refine ST.m1 ⟨hT, rS.mk2 (by omega) (by omega) ?_, rY.mk2 (by omega) rfl (by omega), hD, hQ, hK, rS.mk2 (by omega) (by omega) ?_, hC, hO⟩
      all_goals (intro i hi; try simp only [upd_at])
      all_goals repeat' split
      all_goals first | rfl | exact hf _ (by omega) | exact hh _ (by omega) | (exfalso; omega) | exact absurd trivial (by assumption) | (simp (disch := omega) only [hf, hh]; done)
  · simp (maxSteps := 500000) (decide := true) (disch := omega) only [f_X3_carryOutNext, f_X3_askFirst, b_X3_askFirst_20, b_X3_askFirst_40, Int32.reduceToNatClampNeg, gp_49, fc_49, tk_49, wi_49, od_49, sw_49, b_X12_done_52, b_X12_done_69, f_X12_isStarred, b_X12_isStarred_42, f_X12_wants, f_X12_wantsStore, b_X12_wantsStore_27, L_0, L_1, L_2, L_3, nlt30, cl_nI, nI_lt0, nI_sub1, nI_sub2, nI_sub3, nI_add1, nI_add2, e_30, Nat.sub_sub, Nat.reduceAdd, hf, hh, sb, ck_T, ckn, not_false_eq_true, false_or, Nat.not_le, ite_self, ↓reduceIte, s_from0, s_from1, s_from2, s_drop1, s_drop2, s_put, s_putF, s_room1, s_room1F, s_take, s_rep, s_raise1, s_raise2, w_push, w_pop, f_X3_useMemory, f_X3_useCell, b_X3_useCell_57, f_X5_isCell, v_at, v_set, v_append, w_append, f_X8_dropOneUnless, f_X12_keeps, b_X12_keeps_22, b_X12_keeps_43, b_X12_keeps_154, U_0, nz, e_400, LE400, LT400, Int32.zero_add, f_X5_allot, U400, h1]
    refine ST.m1 ⟨hT, rS.mk2 (by omega) (by omega) ?_, rY.mk2 (by omega) rfl (by omega), hD, hQ, hK, rS.mk2 (by omega) (by omega) ?_, hC, hO⟩
    all_goals (intro i hi; try simp only [upd_at])
    all_goals repeat' split
    all_goals first | rfl | exact hf _ (by omega) | exact hh _ (by omega) | (exfalso; omega) | exact absurd trivial (by assumption) | (simp (disch := omega) only [hf, hh]; done)
theorem wd_50 (hR : REL t s y d q k r c o T S R C Y D K Q O) (al st ca ov an th lf st' ca' re en : Int32) : ST (f_X3_carryOutNext t s y d q k r c o (al, st, ca, 50, ov, an)) (f_X12_done 50 T S R C Y D K Q O (th, lf, st', ca', -1, re, en)) al (st + 1) ca ov an th lf st' ca' re en := by
  obtain ⟨hT, ⟨n, f, F, hn, rfl, rfl, hf⟩, hY, hD, hQ, hK, ⟨p, h, G, hp, rfl, rfl, hh⟩, hC, hO⟩ := hR
  rw [dn_ge (by decide) (by decide) hC]
  obtain ⟨rfl, w, ou, hw, rfl⟩ := hO
  by_cases h1 : 1 ≤ n
  · obtain ⟨k1, f1, g1, g2, g3⟩ := print_eq (f (n - 1)) w ou hw
    simp (maxSteps := 500000) (decide := true) (disch := omega) only [f_X3_carryOutNext, f_X3_askFirst, b_X3_askFirst_20, b_X3_askFirst_40, Int32.reduceToNatClampNeg, gp_50, fc_50, tk_50, wi_50, od_50, sw_50, b_X12_done_52, b_X12_done_69, f_X12_isStarred, b_X12_isStarred_42, f_X12_wants, f_X12_wantsStore, b_X12_wantsStore_27, L_0, L_1, L_2, L_3, nlt30, cl_nI, nI_lt0, nI_sub1, nI_sub2, nI_sub3, nI_add1, nI_add2, e_30, Nat.sub_sub, Nat.reduceAdd, hf, hh, sb, ck_T, ckn, not_false_eq_true, false_or, Nat.not_le, ite_self, ↓reduceIte, s_from0, s_from1, s_from2, s_drop1, s_drop2, s_put, s_putF, s_room1, s_room1F, s_take, s_rep, s_raise1, s_raise2, w_push, w_pop, f_X3_write, f_X12_keeps, b_X12_keeps_22, b_X12_keeps_43, U_0, nz, v_w32, v_w10, w_write, h1, g2, g3]
    refine ST.m1 ⟨hT, rS.mk2 (by omega) (by omega) ?_, hY, hD, hQ, hK, rS.mk2 (by omega) (by omega) ?_, hC, ?_⟩
    all_goals try exact rO.ite (by omega)
    all_goals try exact rO.mk hw
    all_goals (intro i hi; try simp only [upd_at])
    all_goals repeat' split
    all_goals first | rfl | exact hf _ (by omega) | exact hh _ (by omega) | (exfalso; omega) | exact absurd trivial (by assumption) | (simp (disch := omega) only [hf, hh]; done)
  · simp (maxSteps := 500000) (decide := true) (disch := omega) only [f_X3_carryOutNext, f_X3_askFirst, b_X3_askFirst_20, b_X3_askFirst_40, Int32.reduceToNatClampNeg, gp_50, fc_50, tk_50, wi_50, od_50, sw_50, b_X12_done_52, b_X12_done_69, f_X12_isStarred, b_X12_isStarred_42, f_X12_wants, f_X12_wantsStore, b_X12_wantsStore_27, L_0, L_1, L_2, L_3, nlt30, cl_nI, nI_lt0, nI_sub1, nI_sub2, nI_sub3, nI_add1, nI_add2, e_30, Nat.sub_sub, Nat.reduceAdd, hf, hh, sb, ck_T, ckn, not_false_eq_true, false_or, Nat.not_le, ite_self, ↓reduceIte, s_from0, s_from1, s_from2, s_drop1, s_drop2, s_put, s_putF, s_room1, s_room1F, s_take, s_rep, s_raise1, s_raise2, w_push, w_pop, f_X3_write, f_X12_keeps, b_X12_keeps_22, b_X12_keeps_43, U_0, nz, v_w32, v_w10, w_write, h1]
    refine ST.m1 ⟨hT, rS.mk2 (by omega) (by omega) ?_, hY, hD, hQ, hK, rS.mk2 (by omega) (by omega) ?_, hC, ?_⟩
    all_goals try exact rO.ite (by omega)
    all_goals try exact rO.mk hw
    all_goals (intro i hi; try simp only [upd_at])
    all_goals repeat' split
    all_goals first | rfl | exact hf _ (by omega) | exact hh _ (by omega) | (exfalso; omega) | exact absurd trivial (by assumption) | (simp (disch := omega) only [hf, hh]; done)
theorem wd_51 (hR : REL t s y d q k r c o T S R C Y D K Q O) (al st ca ov an th lf st' ca' re en : Int32) : ST (f_X3_carryOutNext t s y d q k r c o (al, st, ca, 51, ov, an)) (f_X12_done 51 T S R C Y D K Q O (th, lf, st', ca', -1, re, en)) al (st + 1) ca ov an th lf st' ca' re en := by
  obtain ⟨hT, ⟨n, f, F, hn, rfl, rfl, hf⟩, hY, hD, hQ, hK, ⟨p, h, G, hp, rfl, rfl, hh⟩, hC, hO⟩ := hR
  rw [dn_ge (by decide) (by decide) hC]
  obtain ⟨rfl, w, ou, hw, rfl⟩ := hO
  by_cases h1 : 1 ≤ n
  · simp (maxSteps := 500000) (decide := true) (disch := omega) only [f_X3_carryOutNext, f_X3_askFirst, b_X3_askFirst_20, b_X3_askFirst_40, Int32.reduceToNatClampNeg, gp_51, fc_51, tk_51, wi_51, od_51, sw_51, b_X12_done_52, b_X12_done_69, f_X12_isStarred, b_X12_isStarred_42, f_X12_wants, f_X12_wantsStore, b_X12_wantsStore_27, L_0, L_1, L_2, L_3, nlt30, cl_nI, nI_lt0, nI_sub1, nI_sub2, nI_sub3, nI_add1, nI_add2, e_30, Nat.sub_sub, Nat.reduceAdd, hf, hh, sb, ck_T, ckn, not_false_eq_true, false_or, Nat.not_le, ite_self, ↓reduceIte, s_from0, s_from1, s_from2, s_drop1, s_drop2, s_put, s_putF, s_room1, s_room1F, s_take, s_rep, s_raise1, s_raise2, w_push, w_pop, f_X3_write, f_X12_keeps, b_X12_keeps_22, b_X12_keeps_43, U_0, nz, v_w32, v_w10, w_write, v_em, h1]
    refine ST.m1 ⟨hT, rS.mk2 (by omega) (by omega) ?_, hY, hD, hQ, hK, rS.mk2 (by omega) (by omega) ?_, hC, ?_⟩
    all_goals try exact rO.ite (by omega)
    all_goals try exact rO.mk hw
    all_goals (intro i hi; try simp only [upd_at])
    all_goals repeat' split
    all_goals first | rfl | exact hf _ (by omega) | exact hh _ (by omega) | (exfalso; omega) | exact absurd trivial (by assumption) | (simp (disch := omega) only [hf, hh]; done)
  · simp (maxSteps := 500000) (decide := true) (disch := omega) only [f_X3_carryOutNext, f_X3_askFirst, b_X3_askFirst_20, b_X3_askFirst_40, Int32.reduceToNatClampNeg, gp_51, fc_51, tk_51, wi_51, od_51, sw_51, b_X12_done_52, b_X12_done_69, f_X12_isStarred, b_X12_isStarred_42, f_X12_wants, f_X12_wantsStore, b_X12_wantsStore_27, L_0, L_1, L_2, L_3, nlt30, cl_nI, nI_lt0, nI_sub1, nI_sub2, nI_sub3, nI_add1, nI_add2, e_30, Nat.sub_sub, Nat.reduceAdd, hf, hh, sb, ck_T, ckn, not_false_eq_true, false_or, Nat.not_le, ite_self, ↓reduceIte, s_from0, s_from1, s_from2, s_drop1, s_drop2, s_put, s_putF, s_room1, s_room1F, s_take, s_rep, s_raise1, s_raise2, w_push, w_pop, f_X3_write, f_X12_keeps, b_X12_keeps_22, b_X12_keeps_43, U_0, nz, v_w32, v_w10, w_write, v_em, h1]
    refine ST.m1 ⟨hT, rS.mk2 (by omega) (by omega) ?_, hY, hD, hQ, hK, rS.mk2 (by omega) (by omega) ?_, hC, ?_⟩
    all_goals try exact rO.ite (by omega)
    all_goals try exact rO.mk hw
    all_goals (intro i hi; try simp only [upd_at])
    all_goals repeat' split
    all_goals first | rfl | exact hf _ (by omega) | exact hh _ (by omega) | (exfalso; omega) | exact absurd trivial (by assumption) | (simp (disch := omega) only [hf, hh]; done)
theorem wd_52 (hR : REL t s y d q k r c o T S R C Y D K Q O) (al st ca ov an th lf st' ca' re en : Int32) : ST (f_X3_carryOutNext t s y d q k r c o (al, st, ca, 52, ov, an)) (f_X12_done 52 T S R C Y D K Q O (th, lf, st', ca', -1, re, en)) al (st + 1) ca ov an th lf st' ca' re en := by
  obtain ⟨hT, ⟨n, f, F, hn, rfl, rfl, hf⟩, hY, hD, hQ, hK, ⟨p, h, G, hp, rfl, rfl, hh⟩, hC, hO⟩ := hR
  rw [dn_ge (by decide) (by decide) hC]
  obtain ⟨rfl, w, ou, hw, rfl⟩ := hO
  by_cases hz : n = 0
  · simp (maxSteps := 500000) (decide := true) (disch := omega) only [f_X3_carryOutNext, f_X3_askFirst, b_X3_askFirst_20, b_X3_askFirst_40, Int32.reduceToNatClampNeg, gp_52, fc_52, tk_52, wi_52, od_52, sw_52, b_X12_done_52, b_X12_done_69, f_X12_isStarred, b_X12_isStarred_42, f_X12_wants, f_X12_wantsStore, b_X12_wantsStore_27, L_0, L_1, L_2, L_3, nlt30, cl_nI, nI_lt0, nI_sub1, nI_sub2, nI_sub3, nI_add1, nI_add2, e_30, Nat.sub_sub, Nat.reduceAdd, hf, hh, sb, ck_T, ckn, not_false_eq_true, false_or, Nat.not_le, ite_self, ↓reduceIte, s_from0, s_from1, s_from2, s_drop1, s_drop2, s_put, s_putF, s_room1, s_room1F, s_take, s_rep, s_raise1, s_raise2, w_push, w_pop, f_X3_write, f_X12_keeps, b_X12_keeps_22, b_X12_keeps_43, U_0, nz, v_w32, v_w10, w_write, hz]
    refine ST.m1 ⟨hT, rS.mk2 (by omega) (by omega) ?_, hY, hD, hQ, hK, rS.mk2 (by omega) (by omega) ?_, hC, ?_⟩
    all_goals try exact rO.ite (by omega)
    all_goals try exact rO.mk hw
    all_goals (intro i hi; try simp only [upd_at])
    all_goals repeat' split
    all_goals first | rfl | exact hf _ (by omega) | exact hh _ (by omega) | (exfalso; omega) | exact absurd trivial (by assumption) | (simp (disch := omega) only [hf, hh]; done)
  · simp (maxSteps := 500000) (decide := true) (disch := omega) only [f_X3_carryOutNext, f_X3_askFirst, b_X3_askFirst_20, b_X3_askFirst_40, Int32.reduceToNatClampNeg, gp_52, fc_52, tk_52, wi_52, od_52, sw_52, b_X12_done_52, b_X12_done_69, f_X12_isStarred, b_X12_isStarred_42, f_X12_wants, f_X12_wantsStore, b_X12_wantsStore_27, L_0, L_1, L_2, L_3, nlt30, cl_nI, nI_lt0, nI_sub1, nI_sub2, nI_sub3, nI_add1, nI_add2, e_30, Nat.sub_sub, Nat.reduceAdd, hf, hh, sb, ck_T, ckn, not_false_eq_true, false_or, Nat.not_le, ite_self, ↓reduceIte, s_from0, s_from1, s_from2, s_drop1, s_drop2, s_put, s_putF, s_room1, s_room1F, s_take, s_rep, s_raise1, s_raise2, w_push, w_pop, f_X3_write, f_X12_keeps, b_X12_keeps_22, b_X12_keeps_43, U_0, nz, v_w32, v_w10, w_write, hz]
    refine ST.m1 ⟨hT, rS.mk2 (by omega) (by omega) ?_, hY, hD, hQ, hK, rS.mk2 (by omega) (by omega) ?_, hC, ?_⟩
    all_goals try exact rO.ite (by omega)
    all_goals try exact rO.mk hw
    all_goals (intro i hi; try simp only [upd_at])
    all_goals repeat' split
    all_goals first | rfl | exact hf _ (by omega) | exact hh _ (by omega) | (exfalso; omega) | exact absurd trivial (by assumption) | (simp (disch := omega) only [hf, hh]; done)
end MEMORY
