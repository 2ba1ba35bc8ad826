/-! 32 bits as an unsigned number -/
def uI (x : Int32) : Nat := x.toUInt32.toNat
theorem uI_lt (x : Int32) : uI x < 4294967296 := x.toUInt32.toNat_lt
theorem nat_xor31 {a : Nat} (h : a < 4294967296) : a ^^^ 2 ^ 31 = (a + 2147483648) % 4294967296 := by
  have h1 : (a ^^^ 2 ^ 31) % 2 ^ 31 = a % 2 ^ 31 := by rw [Nat.xor_mod_two_pow, Nat.mod_self, Nat.xor_zero]
  have h2 : (a ^^^ 2 ^ 31) / 2 ^ 31 = (a / 2 ^ 31) ^^^ 1 := by rw [Nat.xor_div_two_pow, Nat.div_self (Nat.two_pow_pos 31)]
  have h3 : a / 2 ^ 31 = 0 ∨ a / 2 ^ 31 = 1 := by omega
  generalize a ^^^ 2 ^ 31 = t at h1 h2
  rcases h3 with h3 | h3
  · rw [h3] at h2
    have h2 : t / 2 ^ 31 = 1 := h2
    omega
  · rw [h3] at h2
    have h2 : t / 2 ^ 31 = 0 := h2
    omega
theorem uI_xor (x : Int32) : uI (x ^^^ (-2147483648)) = (uI x + 2147483648) % 4294967296 := by
  rw [← nat_xor31 (uI_lt x)]
  exact UInt32.toNat_xor _ _
theorem uI_int (x : Int32) : x.toInt = if 2 * uI x < 4294967296 then (uI x : Int) else (uI x : Int) - 4294967296 := BitVec.toInt_eq_toNat_cond _
theorem uI_le (x y : Int32) : (x ^^^ (-2147483648)) ≤ (y ^^^ (-2147483648)) ↔ uI x ≤ uI y := by
  have hx := uI_lt x
  have hy := uI_lt y
  rw [Int32.le_iff_toInt_le, uI_int, uI_int, uI_xor, uI_xor]
  omega
def uW (x : Int64) : Nat := x.toUInt64.toNat
theorem uW_lo (x : Int64) : uW (x &&& 4294967295) = uW x % 4294967296 := by
  show (x.toUInt64 &&& Int64.toUInt64 4294967295).toNat = _
  rw [UInt64.toNat_and]
  exact Nat.and_two_pow_sub_one_eq_mod _ 32
theorem uW_int (x : Int64) : x.toInt = if 2 * uW x < 18446744073709551616 then (uW x : Int) else (uW x : Int) - 18446744073709551616 := BitVec.toInt_eq_toNat_cond _
theorem uW_m (x : Int32) : (x.toInt64 &&& 4294967295).toInt = (uI x : Int) := by
  have h1 := uW_int x.toInt64
  have h2 := uI_int x
  have h3 := uI_lt x
  have h4 : uW x.toInt64 < 18446744073709551616 := x.toInt64.toUInt64.toNat_lt
  rw [Int32.toInt_toInt64] at h1
  rw [uW_int, uW_lo]
  split at h1 <;> split at h2 <;> split <;> omega
theorem uless (a b : Int32) : (0 ≤ lg_cmp (a.toInt64 &&& 4294967295) (b.toInt64 &&& 4294967295)) = ((b ^^^ (-2147483648)) ≤ (a ^^^ (-2147483648))) := by
  apply propext
  rw [uI_le, lg_cmp_ge, Int64.le_iff_toInt_le, uW_m, uW_m]
  omega
theorem not_eq (x : Int32) : x ^^^ (-1) = -1 - x := by
  apply Int32.toBitVec_inj.mp
  show x.toBitVec ^^^ (BitVec.allOnes 32) = BitVec.allOnes 32 - x.toBitVec
  rw [BitVec.xor_allOnes, BitVec.allOnes_sub_eq_not]
theorem shl1 (x : Int32) : x <<< (1 &&& 31 : Int32) = x + x := by
  apply Int32.toBitVec_inj.mp
  show x.toBitVec <<< (((1 : Int32) &&& 31).toBitVec.smod 32).toNat = x.toBitVec + x.toBitVec
  rw [show ((((1 : Int32) &&& 31).toBitVec.smod 32).toNat) = 1 by decide]
  apply BitVec.eq_of_toNat_eq
  rw [BitVec.toNat_shiftLeft, BitVec.toNat_add, Nat.shiftLeft_eq]
  omega
/-! words 23 to 43 -/
section NUMS
variable {t : tT} {s : tR} {y : tY} {d : tD} {q : tP} {k : tK} {r : tR} {c : tC} {o : tO} {T : mT} {S : mS} {R : mR} {C : mC} {Y : mY} {D : mD} {K : mK} {Q : mP} {O : mO}

theorem wd_23 (hR : REL t s y d q k r c o T S R C Y D K Q O) (al st ca ov an th lf st' ca' re en : Int32) : ST (f_X3_carryOutNext t s y d q k r c o (al, st, ca, 23, ov, an)) (f_X12_done 23 T S R C Y D K Q O (th, lf, st', ca', -1, re, en)) al (st + 1) ca ov an th lf st' ca' re en := by
  obtain ⟨hT, ⟨n, f, F, hn, rfl, rfl, hf⟩, hY, hD, hQ, hK, ⟨p, h, G, hp, rfl, rfl, hh⟩, hC, hO⟩ := hR
  rw [dn_ge (by decide) (by decide) hC]
  by_cases h1 : 2 ≤ n
  · simp (decide := true) (disch := omega) only [f_X3_carryOutNext, f_X3_askFirst, b_X3_askFirst_20, b_X3_askFirst_40, Int32.reduceToNatClampNeg, gp_23, fc_23, tk_23, wi_23, od_23, sw_23, b_X12_done_52, b_X12_done_69, f_X12_isStarred, b_X12_isStarred_42, f_X12_wants, f_X12_wantsStore, b_X12_wantsStore_27, L_0, L_1, L_2, L_3, nlt30, cl_nI, nI_lt0, nI_sub1, nI_sub2, nI_sub3, nI_add1, nI_add2, e_30, Nat.sub_sub, Nat.reduceAdd, hf, hh, sb, ck_T, ckn, not_false_eq_true, false_or, Nat.not_le, ite_self, ↓reduceIte, s_from0, s_from1, s_from2, s_drop1, s_drop2, s_put, s_putF, s_room1, s_room1F, s_take, s_rep, s_raise1, s_raise2, w_push, w_pop, f_X3_reckonWithTwo, b_X3_reckonWithTwo_14, b_X3_reckonWithTwo_19, b_X3_reckonWithTwo_38, b_X3_reckonWithTwo_82, f_X3_ofTwo, f_X3_quotientOrRest, f_X3_truth, b_X3_ofTwo_121, b_X3_ofTwo_136, b_X3_ofTwo_159, f_X12_reckons, b_X12_reckons_24, b_X12_reckons_44, b_X12_reckons_50, b_X12_reckons_271, b_X12_reckons_230, b_X12_reckons_245, b_X12_reckons_106, b_X12_reckons_99, h1]
    refine ST.m1 ⟨hT, rS.mk2 (by omega) (by omega) ?_, hY, hD, hQ, hK, rS.mk2 (by omega) (by omega) ?_, hC, hO⟩
    all_goals (intro i hi; try simp only [upd_at])
    all_goals repeat' split
    all_goals first | rfl | exact hf _ (by omega) | exact hh _ (by omega) | (exfalso; omega) | exact absurd trivial (by assumption) | (simp (disch := omega) only [hf, hh]; done)
  · simp (decide := true) (disch := omega) only [f_X3_carryOutNext, f_X3_askFirst, b_X3_askFirst_20, b_X3_askFirst_40, Int32.reduceToNatClampNeg, gp_23, fc_23, tk_23, wi_23, od_23, sw_23, b_X12_done_52, b_X12_done_69, f_X12_isStarred, b_X12_isStarred_42, f_X12_wants, f_X12_wantsStore, b_X12_wantsStore_27, L_0, L_1, L_2, L_3, nlt30, cl_nI, nI_lt0, nI_sub1, nI_sub2, nI_sub3, nI_add1, nI_add2, e_30, Nat.sub_sub, Nat.reduceAdd, hf, hh, sb, ck_T, ckn, not_false_eq_true, false_or, Nat.not_le, ite_self, ↓reduceIte, s_from0, s_from1, s_from2, s_drop1, s_drop2, s_put, s_putF, s_room1, s_room1F, s_take, s_rep, s_raise1, s_raise2, w_push, w_pop, f_X3_reckonWithTwo, b_X3_reckonWithTwo_14, b_X3_reckonWithTwo_19, b_X3_reckonWithTwo_38, b_X3_reckonWithTwo_82, f_X3_ofTwo, f_X3_quotientOrRest, f_X3_truth, b_X3_ofTwo_121, b_X3_ofTwo_136, b_X3_ofTwo_159, f_X12_reckons, b_X12_reckons_24, b_X12_reckons_44, b_X12_reckons_50, b_X12_reckons_271, b_X12_reckons_230, b_X12_reckons_245, b_X12_reckons_106, b_X12_reckons_99, h1]
    refine ST.m1 ⟨hT, rS.mk2 (by omega) (by omega) ?_, hY, hD, hQ, hK, rS.mk2 (by omega) (by omega) ?_, hC, hO⟩
    all_goals (intro i hi; try simp only [upd_at])
    all_goals repeat' split
    all_goals first | rfl | exact hf _ (by omega) | exact hh _ (by omega) | (exfalso; omega) | exact absurd trivial (by assumption) | (simp (disch := omega) only [hf, hh]; done)
theorem wd_24 (hR : REL t s y d q k r c o T S R C Y D K Q O) (al st ca ov an th lf st' ca' re en : Int32) : ST (f_X3_carryOutNext t s y d q k r c o (al, st, ca, 24, ov, an)) (f_X12_done 24 T S R C Y D K Q O (th, lf, st', ca', -1, re, en)) al (st + 1) ca ov an th lf st' ca' re en := by
  obtain ⟨hT, ⟨n, f, F, hn, rfl, rfl, hf⟩, hY, hD, hQ, hK, ⟨p, h, G, hp, rfl, rfl, hh⟩, hC, hO⟩ := hR
  rw [dn_ge (by decide) (by decide) hC]
  by_cases h1 : 2 ≤ n
  · simp (decide := true) (disch := omega) only [f_X3_carryOutNext, f_X3_askFirst, b_X3_askFirst_20, b_X3_askFirst_40, Int32.reduceToNatClampNeg, gp_24, fc_24, tk_24, wi_24, od_24, sw_24, b_X12_done_52, b_X12_done_69, f_X12_isStarred, b_X12_isStarred_42, f_X12_wants, f_X12_wantsStore, b_X12_wantsStore_27, L_0, L_1, L_2, L_3, nlt30, cl_nI, nI_lt0, nI_sub1, nI_sub2, nI_sub3, nI_add1, nI_add2, e_30, Nat.sub_sub, Nat.reduceAdd, hf, hh, sb, ck_T, ckn, not_false_eq_true, false_or, Nat.not_le, ite_self, ↓reduceIte, s_from0, s_from1, s_from2, s_drop1, s_drop2, s_put, s_putF, s_room1, s_room1F, s_take, s_rep, s_raise1, s_raise2, w_push, w_pop, f_X3_reckonWithTwo, b_X3_reckonWithTwo_14, b_X3_reckonWithTwo_19, b_X3_reckonWithTwo_38, b_X3_reckonWithTwo_82, f_X3_ofTwo, f_X3_quotientOrRest, f_X3_truth, b_X3_ofTwo_121, b_X3_ofTwo_136, b_X3_ofTwo_159, f_X12_reckons, b_X12_reckons_24, b_X12_reckons_44, b_X12_reckons_50, b_X12_reckons_271, b_X12_reckons_230, b_X12_reckons_245, b_X12_reckons_106, b_X12_reckons_99, h1]
    refine ST.m1 ⟨hT, rS.mk2 (by omega) (by omega) ?_, hY, hD, hQ, hK, rS.mk2 (by omega) (by omega) ?_, hC, hO⟩
    all_goals (intro i hi; try simp only [upd_at])
    all_goals repeat' split
    all_goals first | rfl | exact hf _ (by omega) | exact hh _ (by omega) | (exfalso; omega) | exact absurd trivial (by assumption) | (simp (disch := omega) only [hf, hh]; done)
  · simp (decide := true) (disch := omega) only [f_X3_carryOutNext, f_X3_askFirst, b_X3_askFirst_20, b_X3_askFirst_40, Int32.reduceToNatClampNeg, gp_24, fc_24, tk_24, wi_24, od_24, sw_24, b_X12_done_52, b_X12_done_69, f_X12_isStarred, b_X12_isStarred_42, f_X12_wants, f_X12_wantsStore, b_X12_wantsStore_27, L_0, L_1, L_2, L_3, nlt30, cl_nI, nI_lt0, nI_sub1, nI_sub2, nI_sub3, nI_add1, nI_add2, e_30, Nat.sub_sub, Nat.reduceAdd, hf, hh, sb, ck_T, ckn, not_false_eq_true, false_or, Nat.not_le, ite_self, ↓reduceIte, s_from0, s_from1, s_from2, s_drop1, s_drop2, s_put, s_putF, s_room1, s_room1F, s_take, s_rep, s_raise1, s_raise2, w_push, w_pop, f_X3_reckonWithTwo, b_X3_reckonWithTwo_14, b_X3_reckonWithTwo_19, b_X3_reckonWithTwo_38, b_X3_reckonWithTwo_82, f_X3_ofTwo, f_X3_quotientOrRest, f_X3_truth, b_X3_ofTwo_121, b_X3_ofTwo_136, b_X3_ofTwo_159, f_X12_reckons, b_X12_reckons_24, b_X12_reckons_44, b_X12_reckons_50, b_X12_reckons_271, b_X12_reckons_230, b_X12_reckons_245, b_X12_reckons_106, b_X12_reckons_99, h1]
    refine ST.m1 ⟨hT, rS.mk2 (by omega) (by omega) ?_, hY, hD, hQ, hK, rS.mk2 (by omega) (by omega) ?_, hC, hO⟩
    all_goals (intro i hi; try simp only [upd_at])
    all_goals repeat' split
    all_goals first | rfl | exact hf _ (by omega) | exact hh _ (by omega) | (exfalso; omega) | exact absurd trivial (by assumption) | (simp (disch := omega) only [hf, hh]; done)
theorem wd_25 (hR : REL t s y d q k r c o T S R C Y D K Q O) (al st ca ov an th lf st' ca' re en : Int32) : ST (f_X3_carryOutNext t s y d q k r c o (al, st, ca, 25, ov, an)) (f_X12_done 25 T S R C Y D K Q O (th, lf, st', ca', -1, re, en)) al (st + 1) ca ov an th lf st' ca' re en := by
  obtain ⟨hT, ⟨n, f, F, hn, rfl, rfl, hf⟩, hY, hD, hQ, hK, ⟨p, h, G, hp, rfl, rfl, hh⟩, hC, hO⟩ := hR
  rw [dn_ge (by decide) (by decide) hC]
  by_cases h1 : 2 ≤ n
  · simp (decide := true) (disch := omega) only [f_X3_carryOutNext, f_X3_askFirst, b_X3_askFirst_20, b_X3_askFirst_40, Int32.reduceToNatClampNeg, gp_25, fc_25, tk_25, wi_25, od_25, sw_25, b_X12_done_52, b_X12_done_69, f_X12_isStarred, b_X12_isStarred_42, f_X12_wants, f_X12_wantsStore, b_X12_wantsStore_27, L_0, L_1, L_2, L_3, nlt30, cl_nI, nI_lt0, nI_sub1, nI_sub2, nI_sub3, nI_add1, nI_add2, e_30, Nat.sub_sub, Nat.reduceAdd, hf, hh, sb, ck_T, ckn, not_false_eq_true, false_or, Nat.not_le, ite_self, ↓reduceIte, s_from0, s_from1, s_from2, s_drop1, s_drop2, s_put, s_putF, s_room1, s_room1F, s_take, s_rep, s_raise1, s_raise2, w_push, w_pop, f_X3_reckonWithTwo, b_X3_reckonWithTwo_14, b_X3_reckonWithTwo_19, b_X3_reckonWithTwo_38, b_X3_reckonWithTwo_82, f_X3_ofTwo, f_X3_quotientOrRest, f_X3_truth, b_X3_ofTwo_121, b_X3_ofTwo_136, b_X3_ofTwo_159, f_X12_reckons, b_X12_reckons_24, b_X12_reckons_44, b_X12_reckons_50, b_X12_reckons_271, b_X12_reckons_230, b_X12_reckons_245, b_X12_reckons_106, b_X12_reckons_99, h1]
    refine ST.m1 ⟨hT, rS.mk2 (by omega) (by omega) ?_, hY, hD, hQ, hK, rS.mk2 (by omega) (by omega) ?_, hC, hO⟩
    all_goals (intro i hi; try simp only [upd_at])
    all_goals repeat' split
    all_goals first | rfl | exact hf _ (by omega) | exact hh _ (by omega) | (exfalso; omega) | exact absurd trivial (by assumption) | (simp (disch := omega) only [hf, hh]; done)
  · simp (decide := true) (disch := omega) only [f_X3_carryOutNext, f_X3_askFirst, b_X3_askFirst_20, b_X3_askFirst_40, Int32.reduceToNatClampNeg, gp_25, fc_25, tk_25, wi_25, od_25, sw_25, b_X12_done_52, b_X12_done_69, f_X12_isStarred, b_X12_isStarred_42, f_X12_wants, f_X12_wantsStore, b_X12_wantsStore_27, L_0, L_1, L_2, L_3, nlt30, cl_nI, nI_lt0, nI_sub1, nI_sub2, nI_sub3, nI_add1, nI_add2, e_30, Nat.sub_sub, Nat.reduceAdd, hf, hh, sb, ck_T, ckn, not_false_eq_true, false_or, Nat.not_le, ite_self, ↓reduceIte, s_from0, s_from1, s_from2, s_drop1, s_drop2, s_put, s_putF, s_room1, s_room1F, s_take, s_rep, s_raise1, s_raise2, w_push, w_pop, f_X3_reckonWithTwo, b_X3_reckonWithTwo_14, b_X3_reckonWithTwo_19, b_X3_reckonWithTwo_38, b_X3_reckonWithTwo_82, f_X3_ofTwo, f_X3_quotientOrRest, f_X3_truth, b_X3_ofTwo_121, b_X3_ofTwo_136, b_X3_ofTwo_159, f_X12_reckons, b_X12_reckons_24, b_X12_reckons_44, b_X12_reckons_50, b_X12_reckons_271, b_X12_reckons_230, b_X12_reckons_245, b_X12_reckons_106, b_X12_reckons_99, h1]
    refine ST.m1 ⟨hT, rS.mk2 (by omega) (by omega) ?_, hY, hD, hQ, hK, rS.mk2 (by omega) (by omega) ?_, hC, hO⟩
    all_goals (intro i hi; try simp only [upd_at])
    all_goals repeat' split
    all_goals first | rfl | exact hf _ (by omega) | exact hh _ (by omega) | (exfalso; omega) | exact absurd trivial (by assumption) | (simp (disch := omega) only [hf, hh]; done)
theorem wd_26 (hR : REL t s y d q k r c o T S R C Y D K Q O) (al st ca ov an th lf st' ca' re en : Int32) : ST (f_X3_carryOutNext t s y d q k r c o (al, st, ca, 26, ov, an)) (f_X12_done 26 T S R C Y D K Q O (th, lf, st', ca', -1, re, en)) al (st + 1) ca ov an th lf st' ca' re en := by
  obtain ⟨hT, ⟨n, f, F, hn, rfl, rfl, hf⟩, hY, hD, hQ, hK, ⟨p, h, G, hp, rfl, rfl, hh⟩, hC, hO⟩ := hR
  rw [dn_ge (by decide) (by decide) hC]
  by_cases h1 : 2 ≤ n
  · by_cases hv : f (n - 1) = 0
    · simp (decide := true) (disch := omega) only [f_X3_carryOutNext, f_X3_askFirst, b_X3_askFirst_20, b_X3_askFirst_40, Int32.reduceToNatClampNeg, gp_26, fc_26, tk_26, wi_26, od_26, sw_26, b_X12_done_52, b_X12_done_69, f_X12_isStarred, b_X12_isStarred_42, f_X12_wants, f_X12_wantsStore, b_X12_wantsStore_27, L_0, L_1, L_2, L_3, nlt30, cl_nI, nI_lt0, nI_sub1, nI_sub2, nI_sub3, nI_add1, nI_add2, e_30, Nat.sub_sub, Nat.reduceAdd, hf, hh, sb, ck_T, ckn, not_false_eq_true, false_or, Nat.not_le, ite_self, ↓reduceIte, s_from0, s_from1, s_from2, s_drop1, s_drop2, s_put, s_putF, s_room1, s_room1F, s_take, s_rep, s_raise1, s_raise2, w_push, w_pop, f_X3_reckonWithTwo, b_X3_reckonWithTwo_14, b_X3_reckonWithTwo_19, b_X3_reckonWithTwo_38, b_X3_reckonWithTwo_82, f_X3_ofTwo, f_X3_quotientOrRest, f_X3_truth, b_X3_ofTwo_121, b_X3_ofTwo_136, b_X3_ofTwo_159, f_X12_reckons, b_X12_reckons_24, b_X12_reckons_44, b_X12_reckons_50, b_X12_reckons_271, b_X12_reckons_230, b_X12_reckons_245, b_X12_reckons_106, b_X12_reckons_99, h1, hv]
      refine ST.m1 ⟨hT, rS.mk2 (by omega) (by omega) ?_, hY, hD, hQ, hK, rS.mk2 (by omega) (by omega) ?_, hC, hO⟩
      all_goals (intro i hi; try simp only [upd_at])
      all_goals repeat' split
      all_goals first | rfl | exact hf _ (by omega) | exact hh _ (by omega) | (exfalso; omega) | exact absurd trivial (by assumption) | (simp (disch := omega) only [hf, hh]; done)
    · simp (decide := true) (disch := omega) only [f_X3_carryOutNext, f_X3_askFirst, b_X3_askFirst_20, b_X3_askFirst_40, Int32.reduceToNatClampNeg, gp_26, fc_26, tk_26, wi_26, od_26, sw_26, b_X12_done_52, b_X12_done_69, f_X12_isStarred, b_X12_isStarred_42, f_X12_wants, f_X12_wantsStore, b_X12_wantsStore_27, L_0, L_1, L_2, L_3, nlt30, cl_nI, nI_lt0, nI_sub1, nI_sub2, nI_sub3, nI_add1, nI_add2, e_30, Nat.sub_sub, Nat.reduceAdd, hf, hh, sb, ck_T, ckn, not_false_eq_true, false_or, Nat.not_le, ite_self, ↓reduceIte, s_from0, s_from1, s_from2, s_drop1, s_drop2, s_put, s_putF, s_room1, s_room1F, s_take, s_rep, s_raise1, s_raise2, w_push, w_pop, f_X3_reckonWithTwo, b_X3_reckonWithTwo_14, b_X3_reckonWithTwo_19, b_X3_reckonWithTwo_38, b_X3_reckonWithTwo_82, f_X3_ofTwo, f_X3_quotientOrRest, f_X3_truth, b_X3_ofTwo_121, b_X3_ofTwo_136, b_X3_ofTwo_159, f_X12_reckons, b_X12_reckons_24, b_X12_reckons_44, b_X12_reckons_50, b_X12_reckons_271, b_X12_reckons_230, b_X12_reckons_245, b_X12_reckons_106, b_X12_reckons_99, h1, hv]
      refine ST.m1 ⟨hT, rS.mk2 (by omega) (by omega) ?_, hY, hD, hQ, hK, rS.mk2 (by omega) (by omega) ?_, hC, hO⟩
      all_goals (intro i hi; try simp only [upd_at])
      all_goals repeat' split
      all_goals first | rfl | exact hf _ (by omega) | exact hh _ (by omega) | (exfalso; omega) | exact absurd trivial (by assumption) | (simp (disch := omega) only [hf, hh]; done)
  · simp (decide := true) (disch := omega) only [f_X3_carryOutNext, f_X3_askFirst, b_X3_askFirst_20, b_X3_askFirst_40, Int32.reduceToNatClampNeg, gp_26, fc_26, tk_26, wi_26, od_26, sw_26, b_X12_done_52, b_X12_done_69, f_X12_isStarred, b_X12_isStarred_42, f_X12_wants, f_X12_wantsStore, b_X12_wantsStore_27, L_0, L_1, L_2, L_3, nlt30, cl_nI, nI_lt0, nI_sub1, nI_sub2, nI_sub3, nI_add1, nI_add2, e_30, Nat.sub_sub, Nat.reduceAdd, hf, hh, sb, ck_T, ckn, not_false_eq_true, false_or, Nat.not_le, ite_self, ↓reduceIte, s_from0, s_from1, s_from2, s_drop1, s_drop2, s_put, s_putF, s_room1, s_room1F, s_take, s_rep, s_raise1, s_raise2, w_push, w_pop, f_X3_reckonWithTwo, b_X3_reckonWithTwo_14, b_X3_reckonWithTwo_19, b_X3_reckonWithTwo_38, b_X3_reckonWithTwo_82, f_X3_ofTwo, f_X3_quotientOrRest, f_X3_truth, b_X3_ofTwo_121, b_X3_ofTwo_136, b_X3_ofTwo_159, f_X12_reckons, b_X12_reckons_24, b_X12_reckons_44, b_X12_reckons_50, b_X12_reckons_271, b_X12_reckons_230, b_X12_reckons_245, b_X12_reckons_106, b_X12_reckons_99, h1]
    refine ST.m1 ⟨hT, rS.mk2 (by omega) (by omega) ?_, hY, hD, hQ, hK, rS.mk2 (by omega) (by omega) ?_, hC, hO⟩
    all_goals (intro i hi; try simp only [upd_at])
    all_goals repeat' split
    all_goals first | rfl | exact hf _ (by omega) | exact hh _ (by omega) | (exfalso; omega) | exact absurd trivial (by assumption) | (simp (disch := omega) only [hf, hh]; done)
theorem wd_27 (hR : REL t s y d q k r c o T S R C Y D K Q O) (al st ca ov an th lf st' ca' re en : Int32) : ST (f_X3_carryOutNext t s y d q k r c o (al, st, ca, 27, ov, an)) (f_X12_done 27 T S R C Y D K Q O (th, lf, st', ca', -1, re, en)) al (st + 1) ca ov an th lf st' ca' re en := by
  obtain ⟨hT, ⟨n, f, F, hn, rfl, rfl, hf⟩, hY, hD, hQ, hK, ⟨p, h, G, hp, rfl, rfl, hh⟩, hC, hO⟩ := hR
  rw [dn_ge (by decide) (by decide) hC]
  by_cases h1 : 2 ≤ n
  · by_cases hv : f (n - 1) = 0
    · simp (decide := true) (disch := omega) only [f_X3_carryOutNext, f_X3_askFirst, b_X3_askFirst_20, b_X3_askFirst_40, Int32.reduceToNatClampNeg, gp_27, fc_27, tk_27, wi_27, od_27, sw_27, b_X12_done_52, b_X12_done_69, f_X12_isStarred, b_X12_isStarred_42, f_X12_wants, f_X12_wantsStore, b_X12_wantsStore_27, L_0, L_1, L_2, L_3, nlt30, cl_nI, nI_lt0, nI_sub1, nI_sub2, nI_sub3, nI_add1, nI_add2, e_30, Nat.sub_sub, Nat.reduceAdd, hf, hh, sb, ck_T, ckn, not_false_eq_true, false_or, Nat.not_le, ite_self, ↓reduceIte, s_from0, s_from1, s_from2, s_drop1, s_drop2, s_put, s_putF, s_room1, s_room1F, s_take, s_rep, s_raise1, s_raise2, w_push, w_pop, f_X3_reckonWithTwo, b_X3_reckonWithTwo_14, b_X3_reckonWithTwo_19, b_X3_reckonWithTwo_38, b_X3_reckonWithTwo_82, f_X3_ofTwo, f_X3_quotientOrRest, f_X3_truth, b_X3_ofTwo_121, b_X3_ofTwo_136, b_X3_ofTwo_159, f_X12_reckons, b_X12_reckons_24, b_X12_reckons_44, b_X12_reckons_50, b_X12_reckons_271, b_X12_reckons_230, b_X12_reckons_245, b_X12_reckons_106, b_X12_reckons_99, h1, hv]
      refine ST.m1 ⟨hT, rS.mk2 (by omega) (by omega) ?_, hY, hD, hQ, hK, rS.mk2 (by omega) (by omega) ?_, hC, hO⟩
      all_goals (intro i hi; try simp only [upd_at])
      all_goals repeat' split
      all_goals first | rfl | exact hf _ (by omega) | exact hh _ (by omega) | (exfalso; omega) | exact absurd trivial (by assumption) | (simp (disch := omega) only [hf, hh]; done)
    · simp (decide := true) (disch := omega) only [f_X3_carryOutNext, f_X3_askFirst, b_X3_askFirst_20, b_X3_askFirst_40, Int32.reduceToNatClampNeg, gp_27, fc_27, tk_27, wi_27, od_27, sw_27, b_X12_done_52, b_X12_done_69, f_X12_isStarred, b_X12_isStarred_42, f_X12_wants, f_X12_wantsStore, b_X12_wantsStore_27, L_0, L_1, L_2, L_3, nlt30, cl_nI, nI_lt0, nI_sub1, nI_sub2, nI_sub3, nI_add1, nI_add2, e_30, Nat.sub_sub, Nat.reduceAdd, hf, hh, sb, ck_T, ckn, not_false_eq_true, false_or, Nat.not_le, ite_self, ↓reduceIte, s_from0, s_from1, s_from2, s_drop1, s_drop2, s_put, s_putF, s_room1, s_room1F, s_take, s_rep, s_raise1, s_raise2, w_push, w_pop, f_X3_reckonWithTwo, b_X3_reckonWithTwo_14, b_X3_reckonWithTwo_19, b_X3_reckonWithTwo_38, b_X3_reckonWithTwo_82, f_X3_ofTwo, f_X3_quotientOrRest, f_X3_truth, b_X3_ofTwo_121, b_X3_ofTwo_136, b_X3_ofTwo_159, f_X12_reckons, b_X12_reckons_24, b_X12_reckons_44, b_X12_reckons_50, b_X12_reckons_271, b_X12_reckons_230, b_X12_reckons_245, b_X12_reckons_106, b_X12_reckons_99, h1, hv]
      refine ST.m1 ⟨hT, rS.mk2 (by omega) (by omega) ?_, hY, hD, hQ, hK, rS.mk2 (by omega) (by omega) ?_, hC, hO⟩
      all_goals (intro i hi; try simp only [upd_at])
      all_goals repeat' split
      all_goals first | rfl | exact hf _ (by omega) | exact hh _ (by omega) | (exfalso; omega) | exact absurd trivial (by assumption) | (simp (disch := omega) only [hf, hh]; done)
  · simp (decide := true) (disch := omega) only [f_X3_carryOutNext, f_X3_askFirst, b_X3_askFirst_20, b_X3_askFirst_40, Int32.reduceToNatClampNeg, gp_27, fc_27, tk_27, wi_27, od_27, sw_27, b_X12_done_52, b_X12_done_69, f_X12_isStarred, b_X12_isStarred_42, f_X12_wants, f_X12_wantsStore, b_X12_wantsStore_27, L_0, L_1, L_2, L_3, nlt30, cl_nI, nI_lt0, nI_sub1, nI_sub2, nI_sub3, nI_add1, nI_add2, e_30, Nat.sub_sub, Nat.reduceAdd, hf, hh, sb, ck_T, ckn, not_false_eq_true, false_or, Nat.not_le, ite_self, ↓reduceIte, s_from0, s_from1, s_from2, s_drop1, s_drop2, s_put, s_putF, s_room1, s_room1F, s_take, s_rep, s_raise1, s_raise2, w_push, w_pop, f_X3_reckonWithTwo, b_X3_reckonWithTwo_14, b_X3_reckonWithTwo_19, b_X3_reckonWithTwo_38, b_X3_reckonWithTwo_82, f_X3_ofTwo, f_X3_quotientOrRest, f_X3_truth, b_X3_ofTwo_121, b_X3_ofTwo_136, b_X3_ofTwo_159, f_X12_reckons, b_X12_reckons_24, b_X12_reckons_44, b_X12_reckons_50, b_X12_reckons_271, b_X12_reckons_230, b_X12_reckons_245, b_X12_reckons_106, b_X12_reckons_99, h1]
    refine ST.m1 ⟨hT, rS.mk2 (by omega) (by omega) ?_, hY, hD, hQ, hK, rS.mk2 (by omega) (by omega) ?_, hC, hO⟩
    all_goals (intro i hi; try simp only [upd_at])
    all_goals repeat' split
    all_goals first | rfl | exact hf _ (by omega) | exact hh _ (by omega) | (exfalso; omega) | exact absurd trivial (by assumption) | (simp (disch := omega) only [hf, hh]; done)
theorem wd_28 (hR : REL t s y d q k r c o T S R C Y D K Q O) (al st ca ov an th lf st' ca' re en : Int32) : ST (f_X3_carryOutNext t s y d q k r c o (al, st, ca, 28, ov, an)) (f_X12_done 28 T S R C Y D K Q O (th, lf, st', ca', -1, re, en)) al (st + 1) ca ov an th lf st' ca' re en := by
  obtain ⟨hT, ⟨n, f, F, hn, rfl, rfl, hf⟩, hY, hD, hQ, hK, ⟨p, h, G, hp, rfl, rfl, hh⟩, hC, hO⟩ := hR
  rw [dn_ge (by decide) (by decide) hC]
  by_cases h1 : 1 ≤ n
  · simp (decide := true) (disch := omega) only [f_X3_carryOutNext, f_X3_askFirst, b_X3_askFirst_20, b_X3_askFirst_40, Int32.reduceToNatClampNeg, gp_28, fc_28, tk_28, wi_28, od_28, sw_28, b_X12_done_52, b_X12_done_69, f_X12_isStarred, b_X12_isStarred_42, f_X12_wants, f_X12_wantsStore, b_X12_wantsStore_27, L_0, L_1, L_2, L_3, nlt30, cl_nI, nI_lt0, nI_sub1, nI_sub2, nI_sub3, nI_add1, nI_add2, e_30, Nat.sub_sub, Nat.reduceAdd, hf, hh, sb, ck_T, ckn, not_false_eq_true, false_or, Nat.not_le, ite_self, ↓reduceIte, s_from0, s_from1, s_from2, s_drop1, s_drop2, s_put, s_putF, s_room1, s_room1F, s_take, s_rep, s_raise1, s_raise2, w_push, w_pop, f_X3_ofOne, b_X3_ofOne_80, b_X3_ofOne_94, f_X3_truth, f_X12_reckons, b_X12_reckons_24, b_X12_reckons_44, b_X12_reckons_50, b_X12_reckons_271, b_X12_reckons_230, b_X12_reckons_245, b_X12_reckons_106, b_X12_reckons_99, h1]
    refine ST.m1 ⟨hT, rS.mk2 (by omega) (by omega) ?_, hY, hD, hQ, hK, rS.mk2 (by omega) (by omega) ?_, hC, hO⟩
    all_goals (intro i hi; try simp only [upd_at])
    all_goals repeat' split
    all_goals first | rfl | exact hf _ (by omega) | exact hh _ (by omega) | (exfalso; omega) | exact absurd trivial (by assumption) | (simp (disch := omega) only [hf, hh]; done)
  · simp (decide := true) (disch := omega) only [f_X3_carryOutNext, f_X3_askFirst, b_X3_askFirst_20, b_X3_askFirst_40, Int32.reduceToNatClampNeg, gp_28, fc_28, tk_28, wi_28, od_28, sw_28, b_X12_done_52, b_X12_done_69, f_X12_isStarred, b_X12_isStarred_42, f_X12_wants, f_X12_wantsStore, b_X12_wantsStore_27, L_0, L_1, L_2, L_3, nlt30, cl_nI, nI_lt0, nI_sub1, nI_sub2, nI_sub3, nI_add1, nI_add2, e_30, Nat.sub_sub, Nat.reduceAdd, hf, hh, sb, ck_T, ckn, not_false_eq_true, false_or, Nat.not_le, ite_self, ↓reduceIte, s_from0, s_from1, s_from2, s_drop1, s_drop2, s_put, s_putF, s_room1, s_room1F, s_take, s_rep, s_raise1, s_raise2, w_push, w_pop, f_X3_ofOne, b_X3_ofOne_80, b_X3_ofOne_94, f_X3_truth, f_X12_reckons, b_X12_reckons_24, b_X12_reckons_44, b_X12_reckons_50, b_X12_reckons_271, b_X12_reckons_230, b_X12_reckons_245, b_X12_reckons_106, b_X12_reckons_99, h1]
    refine ST.m1 ⟨hT, rS.mk2 (by omega) (by omega) ?_, hY, hD, hQ, hK, rS.mk2 (by omega) (by omega) ?_, hC, hO⟩
    all_goals (intro i hi; try simp only [upd_at])
    all_goals repeat' split
    all_goals first | rfl | exact hf _ (by omega) | exact hh _ (by omega) | (exfalso; omega) | exact absurd trivial (by assumption) | (simp (disch := omega) only [hf, hh]; done)
theorem wd_29 (hR : REL t s y d q k r c o T S R C Y D K Q O) (al st ca ov an th lf st' ca' re en : Int32) : ST (f_X3_carryOutNext t s y d q k r c o (al, st, ca, 29, ov, an)) (f_X12_done 29 T S R C Y D K Q O (th, lf, st', ca', -1, re, en)) al (st + 1) ca ov an th lf st' ca' re en := by
  obtain ⟨hT, ⟨n, f, F, hn, rfl, rfl, hf⟩, hY, hD, hQ, hK, ⟨p, h, G, hp, rfl, rfl, hh⟩, hC, hO⟩ := hR
  rw [dn_ge (by decide) (by decide) hC]
  by_cases h1 : 1 ≤ n
  · by_cases hv : 0 ≤ f (n - 1)
    · simp (decide := true) (disch := omega) only [f_X3_carryOutNext, f_X3_askFirst, b_X3_askFirst_20, b_X3_askFirst_40, Int32.reduceToNatClampNeg, gp_29, fc_29, tk_29, wi_29, od_29, sw_29, b_X12_done_52, b_X12_done_69, f_X12_isStarred, b_X12_isStarred_42, f_X12_wants, f_X12_wantsStore, b_X12_wantsStore_27, L_0, L_1, L_2, L_3, nlt30, cl_nI, nI_lt0, nI_sub1, nI_sub2, nI_sub3, nI_add1, nI_add2, e_30, Nat.sub_sub, Nat.reduceAdd, hf, hh, sb, ck_T, ckn, not_false_eq_true, false_or, Nat.not_le, ite_self, ↓reduceIte, s_from0, s_from1, s_from2, s_drop1, s_drop2, s_put, s_putF, s_room1, s_room1F, s_take, s_rep, s_raise1, s_raise2, w_push, w_pop, f_X3_ofOne, b_X3_ofOne_80, b_X3_ofOne_94, f_X3_truth, f_X12_reckons, b_X12_reckons_24, b_X12_reckons_44, b_X12_reckons_50, b_X12_reckons_271, b_X12_reckons_230, b_X12_reckons_245, b_X12_reckons_106, b_X12_reckons_99, h1, hv]
      refine ST.m1 ⟨hT, rS.mk2 (by omega) (by omega) ?_, hY, hD, hQ, hK, rS.mk2 (by omega) (by omega) ?_, hC, hO⟩
      all_goals (intro i hi; try simp only [upd_at])
      all_goals repeat' split
      all_goals first | rfl | exact hf _ (by omega) | exact hh _ (by omega) | (exfalso; omega) | exact absurd trivial (by assumption) | (simp (disch := omega) only [hf, hh]; done)
    · simp (decide := true) (disch := omega) only [f_X3_carryOutNext, f_X3_askFirst, b_X3_askFirst_20, b_X3_askFirst_40, Int32.reduceToNatClampNeg, gp_29, fc_29, tk_29, wi_29, od_29, sw_29, b_X12_done_52, b_X12_done_69, f_X12_isStarred, b_X12_isStarred_42, f_X12_wants, f_X12_wantsStore, b_X12_wantsStore_27, L_0, L_1, L_2, L_3, nlt30, cl_nI, nI_lt0, nI_sub1, nI_sub2, nI_sub3, nI_add1, nI_add2, e_30, Nat.sub_sub, Nat.reduceAdd, hf, hh, sb, ck_T, ckn, not_false_eq_true, false_or, Nat.not_le, ite_self, ↓reduceIte, s_from0, s_from1, s_from2, s_drop1, s_drop2, s_put, s_putF, s_room1, s_room1F, s_take, s_rep, s_raise1, s_raise2, w_push, w_pop, f_X3_ofOne, b_X3_ofOne_80, b_X3_ofOne_94, f_X3_truth, f_X12_reckons, b_X12_reckons_24, b_X12_reckons_44, b_X12_reckons_50, b_X12_reckons_271, b_X12_reckons_230, b_X12_reckons_245, b_X12_reckons_106, b_X12_reckons_99, h1, hv]
      refine ST.m1 ⟨hT, rS.mk2 (by omega) (by omega) ?_, hY, hD, hQ, hK, rS.mk2 (by omega) (by omega) ?_, hC, hO⟩
      all_goals (intro i hi; try simp only [upd_at])
      all_goals repeat' split
      all_goals first | rfl | exact hf _ (by omega) | exact hh _ (by omega) | (exfalso; omega) | exact absurd trivial (by assumption) | (simp (disch := omega) only [hf, hh]; done)
  · simp (decide := true) (disch := omega) only [f_X3_carryOutNext, f_X3_askFirst, b_X3_askFirst_20, b_X3_askFirst_40, Int32.reduceToNatClampNeg, gp_29, fc_29, tk_29, wi_29, od_29, sw_29, b_X12_done_52, b_X12_done_69, f_X12_isStarred, b_X12_isStarred_42, f_X12_wants, f_X12_wantsStore, b_X12_wantsStore_27, L_0, L_1, L_2, L_3, nlt30, cl_nI, nI_lt0, nI_sub1, nI_sub2, nI_sub3, nI_add1, nI_add2, e_30, Nat.sub_sub, Nat.reduceAdd, hf, hh, sb, ck_T, ckn, not_false_eq_true, false_or, Nat.not_le, ite_self, ↓reduceIte, s_from0, s_from1, s_from2, s_drop1, s_drop2, s_put, s_putF, s_room1, s_room1F, s_take, s_rep, s_raise1, s_raise2, w_push, w_pop, f_X3_ofOne, b_X3_ofOne_80, b_X3_ofOne_94, f_X3_truth, f_X12_reckons, b_X12_reckons_24, b_X12_reckons_44, b_X12_reckons_50, b_X12_reckons_271, b_X12_reckons_230, b_X12_reckons_245, b_X12_reckons_106, b_X12_reckons_99, h1]
    refine ST.m1 ⟨hT, rS.mk2 (by omega) (by omega) ?_, hY, hD, hQ, hK, rS.mk2 (by omega) (by omega) ?_, hC, hO⟩
    all_goals (intro i hi; try simp only [upd_at])
    all_goals repeat' split
    all_goals first | rfl | exact hf _ (by omega) | exact hh _ (by omega) | (exfalso; omega) | exact absurd trivial (by assumption) | (simp (disch := omega) only [hf, hh]; done)
theorem wd_30 (hR : REL t s y d q k r c o T S R C Y D K Q O) (al st ca ov an th lf st' ca' re en : Int32) : ST (f_X3_carryOutNext t s y d q k r c o (al, st, ca, 30, ov, an)) (f_X12_done 30 T S R C Y D K Q O (th, lf, st', ca', -1, re, en)) al (st + 1) ca ov an th lf st' ca' re en := by
  obtain ⟨hT, ⟨n, f, F, hn, rfl, rfl, hf⟩, hY, hD, hQ, hK, ⟨p, h, G, hp, rfl, rfl, hh⟩, hC, hO⟩ := hR
  rw [dn_ge (by decide) (by decide) hC]
  by_cases h1 : 2 ≤ n
  · by_cases hv : f (n - 1) ≤ f (n - 2)
    · simp (decide := true) (disch := omega) only [f_X3_carryOutNext, f_X3_askFirst, b_X3_askFirst_20, b_X3_askFirst_40, Int32.reduceToNatClampNeg, gp_30, fc_30, tk_30, wi_30, od_30, sw_30, b_X12_done_52, b_X12_done_69, f_X12_isStarred, b_X12_isStarred_42, f_X12_wants, f_X12_wantsStore, b_X12_wantsStore_27, L_0, L_1, L_2, L_3, nlt30, cl_nI, nI_lt0, nI_sub1, nI_sub2, nI_sub3, nI_add1, nI_add2, e_30, Nat.sub_sub, Nat.reduceAdd, hf, hh, sb, ck_T, ckn, not_false_eq_true, false_or, Nat.not_le, ite_self, ↓reduceIte, s_from0, s_from1, s_from2, s_drop1, s_drop2, s_put, s_putF, s_room1, s_room1F, s_take, s_rep, s_raise1, s_raise2, w_push, w_pop, f_X3_reckonWithTwo, b_X3_reckonWithTwo_14, b_X3_reckonWithTwo_19, b_X3_reckonWithTwo_38, b_X3_reckonWithTwo_82, f_X3_ofTwo, f_X3_quotientOrRest, f_X3_truth, b_X3_ofTwo_121, b_X3_ofTwo_136, b_X3_ofTwo_159, f_X12_reckons, b_X12_reckons_24, b_X12_reckons_44, b_X12_reckons_50, b_X12_reckons_271, b_X12_reckons_230, b_X12_reckons_245, b_X12_reckons_106, b_X12_reckons_99, h1, hv]
      refine ST.m1 ⟨hT, rS.mk2 (by omega) (by omega) ?_, hY, hD, hQ, hK, rS.mk2 (by omega) (by omega) ?_, hC, hO⟩
      all_goals (intro i hi; try simp only [upd_at])
      all_goals repeat' split
      all_goals first | rfl | exact hf _ (by omega) | exact hh _ (by omega) | (exfalso; omega) | exact absurd trivial (by assumption) | (simp (disch := omega) only [hf, hh]; done)
    · simp (decide := true) (disch := omega) only [f_X3_carryOutNext, f_X3_askFirst, b_X3_askFirst_20, b_X3_askFirst_40, Int32.reduceToNatClampNeg, gp_30, fc_30, tk_30, wi_30, od_30, sw_30, b_X12_done_52, b_X12_done_69, f_X12_isStarred, b_X12_isStarred_42, f_X12_wants, f_X12_wantsStore, b_X12_wantsStore_27, L_0, L_1, L_2, L_3, nlt30, cl_nI, nI_lt0, nI_sub1, nI_sub2, nI_sub3, nI_add1, nI_add2, e_30, Nat.sub_sub, Nat.reduceAdd, hf, hh, sb, ck_T, ckn, not_false_eq_true, false_or, Nat.not_le, ite_self, ↓reduceIte, s_from0, s_from1, s_from2, s_drop1, s_drop2, s_put, s_putF, s_room1, s_room1F, s_take, s_rep, s_raise1, s_raise2, w_push, w_pop, f_X3_reckonWithTwo, b_X3_reckonWithTwo_14, b_X3_reckonWithTwo_19, b_X3_reckonWithTwo_38, b_X3_reckonWithTwo_82, f_X3_ofTwo, f_X3_quotientOrRest, f_X3_truth, b_X3_ofTwo_121, b_X3_ofTwo_136, b_X3_ofTwo_159, f_X12_reckons, b_X12_reckons_24, b_X12_reckons_44, b_X12_reckons_50, b_X12_reckons_271, b_X12_reckons_230, b_X12_reckons_245, b_X12_reckons_106, b_X12_reckons_99, h1, hv]
      refine ST.m1 ⟨hT, rS.mk2 (by omega) (by omega) ?_, hY, hD, hQ, hK, rS.mk2 (by omega) (by omega) ?_, hC, hO⟩
      all_goals (intro i hi; try simp only [upd_at])
      all_goals repeat' split
      all_goals first | rfl | exact hf _ (by omega) | exact hh _ (by omega) | (exfalso; omega) | exact absurd trivial (by assumption) | (simp (disch := omega) only [hf, hh]; done)
  · simp (decide := true) (disch := omega) only [f_X3_carryOutNext, f_X3_askFirst, b_X3_askFirst_20, b_X3_askFirst_40, Int32.reduceToNatClampNeg, gp_30, fc_30, tk_30, wi_30, od_30, sw_30, b_X12_done_52, b_X12_done_69, f_X12_isStarred, b_X12_isStarred_42, f_X12_wants, f_X12_wantsStore, b_X12_wantsStore_27, L_0, L_1, L_2, L_3, nlt30, cl_nI, nI_lt0, nI_sub1, nI_sub2, nI_sub3, nI_add1, nI_add2, e_30, Nat.sub_sub, Nat.reduceAdd, hf, hh, sb, ck_T, ckn, not_false_eq_true, false_or, Nat.not_le, ite_self, ↓reduceIte, s_from0, s_from1, s_from2, s_drop1, s_drop2, s_put, s_putF, s_room1, s_room1F, s_take, s_rep, s_raise1, s_raise2, w_push, w_pop, f_X3_reckonWithTwo, b_X3_reckonWithTwo_14, b_X3_reckonWithTwo_19, b_X3_reckonWithTwo_38, b_X3_reckonWithTwo_82, f_X3_ofTwo, f_X3_quotientOrRest, f_X3_truth, b_X3_ofTwo_121, b_X3_ofTwo_136, b_X3_ofTwo_159, f_X12_reckons, b_X12_reckons_24, b_X12_reckons_44, b_X12_reckons_50, b_X12_reckons_271, b_X12_reckons_230, b_X12_reckons_245, b_X12_reckons_106, b_X12_reckons_99, h1]
    refine ST.m1 ⟨hT, rS.mk2 (by omega) (by omega) ?_, hY, hD, hQ, hK, rS.mk2 (by omega) (by omega) ?_, hC, hO⟩
    all_goals (intro i hi; try simp only [upd_at])
    all_goals repeat' split
    all_goals first | rfl | exact hf _ (by omega) | exact hh _ (by omega) | (exfalso; omega) | exact absurd trivial (by assumption) | (simp (disch := omega) only [hf, hh]; done)
theorem wd_31 (hR : REL t s y d q k r c o T S R C Y D K Q O) (al st ca ov an th lf st' ca' re en : Int32) : ST (f_X3_carryOutNext t s y d q k r c o (al, st, ca, 31, ov, an)) (f_X12_done 31 T S R C Y D K Q O (th, lf, st', ca', -1, re, en)) al (st + 1) ca ov an th lf st' ca' re en := by
  obtain ⟨hT, ⟨n, f, F, hn, rfl, rfl, hf⟩, hY, hD, hQ, hK, ⟨p, h, G, hp, rfl, rfl, hh⟩, hC, hO⟩ := hR
  rw [dn_ge (by decide) (by decide) hC]
  by_cases h1 : 2 ≤ n
  · by_cases hv : f (n - 2) ≤ f (n - 1)
    · simp (decide := true) (disch := omega) only [f_X3_carryOutNext, f_X3_askFirst, b_X3_askFirst_20, b_X3_askFirst_40, Int32.reduceToNatClampNeg, gp_31, fc_31, tk_31, wi_31, od_31, sw_31, b_X12_done_52, b_X12_done_69, f_X12_isStarred, b_X12_isStarred_42, f_X12_wants, f_X12_wantsStore, b_X12_wantsStore_27, L_0, L_1, L_2, L_3, nlt30, cl_nI, nI_lt0, nI_sub1, nI_sub2, nI_sub3, nI_add1, nI_add2, e_30, Nat.sub_sub, Nat.reduceAdd, hf, hh, sb, ck_T, ckn, not_false_eq_true, false_or, Nat.not_le, ite_self, ↓reduceIte, s_from0, s_from1, s_from2, s_drop1, s_drop2, s_put, s_putF, s_room1, s_room1F, s_take, s_rep, s_raise1, s_raise2, w_push, w_pop, f_X3_reckonWithTwo, b_X3_reckonWithTwo_14, b_X3_reckonWithTwo_19, b_X3_reckonWithTwo_38, b_X3_reckonWithTwo_82, f_X3_ofTwo, f_X3_quotientOrRest, f_X3_truth, b_X3_ofTwo_121, b_X3_ofTwo_136, b_X3_ofTwo_159, f_X12_reckons, b_X12_reckons_24, b_X12_reckons_44, b_X12_reckons_50, b_X12_reckons_271, b_X12_reckons_230, b_X12_reckons_245, b_X12_reckons_106, b_X12_reckons_99, h1, hv]
      refine ST.m1 ⟨hT, rS.mk2 (by omega) (by omega) ?_, hY, hD, hQ, hK, rS.mk2 (by omega) (by omega) ?_, hC, hO⟩
      all_goals (intro i hi; try simp only [upd_at])
      all_goals repeat' split
      all_goals first | rfl | exact hf _ (by omega) | exact hh _ (by omega) | (exfalso; omega) | exact absurd trivial (by assumption) | (simp (disch := omega) only [hf, hh]; done)
    · simp (decide := true) (disch := omega) only [f_X3_carryOutNext, f_X3_askFirst, b_X3_askFirst_20, b_X3_askFirst_40, Int32.reduceToNatClampNeg, gp_31, fc_31, tk_31, wi_31, od_31, sw_31, b_X12_done_52, b_X12_done_69, f_X12_isStarred, b_X12_isStarred_42, f_X12_wants, f_X12_wantsStore, b_X12_wantsStore_27, L_0, L_1, L_2, L_3, nlt30, cl_nI, nI_lt0, nI_sub1, nI_sub2, nI_sub3, nI_add1, nI_add2, e_30, Nat.sub_sub, Nat.reduceAdd, hf, hh, sb, ck_T, ckn, not_false_eq_true, false_or, Nat.not_le, ite_self, ↓reduceIte, s_from0, s_from1, s_from2, s_drop1, s_drop2, s_put, s_putF, s_room1, s_room1F, s_take, s_rep, s_raise1, s_raise2, w_push, w_pop, f_X3_reckonWithTwo, b_X3_reckonWithTwo_14, b_X3_reckonWithTwo_19, b_X3_reckonWithTwo_38, b_X3_reckonWithTwo_82, f_X3_ofTwo, f_X3_quotientOrRest, f_X3_truth, b_X3_ofTwo_121, b_X3_ofTwo_136, b_X3_ofTwo_159, f_X12_reckons, b_X12_reckons_24, b_X12_reckons_44, b_X12_reckons_50, b_X12_reckons_271, b_X12_reckons_230, b_X12_reckons_245, b_X12_reckons_106, b_X12_reckons_99, h1, hv]
      refine ST.m1 ⟨hT, rS.mk2 (by omega) (by omega) ?_, hY, hD, hQ, hK, rS.mk2 (by omega) (by omega) ?_, hC, hO⟩
      all_goals (intro i hi; try simp only [upd_at])
      all_goals repeat' split
      all_goals first | rfl | exact hf _ (by omega) | exact hh _ (by omega) | (exfalso; omega) | exact absurd trivial (by assumption) | (simp (disch := omega) only [hf, hh]; done)
  · simp (decide := true) (disch := omega) only [f_X3_carryOutNext, f_X3_askFirst, b_X3_askFirst_20, b_X3_askFirst_40, Int32.reduceToNatClampNeg, gp_31, fc_31, tk_31, wi_31, od_31, sw_31, b_X12_done_52, b_X12_done_69, f_X12_isStarred, b_X12_isStarred_42, f_X12_wants, f_X12_wantsStore, b_X12_wantsStore_27, L_0, L_1, L_2, L_3, nlt30, cl_nI, nI_lt0, nI_sub1, nI_sub2, nI_sub3, nI_add1, nI_add2, e_30, Nat.sub_sub, Nat.reduceAdd, hf, hh, sb, ck_T, ckn, not_false_eq_true, false_or, Nat.not_le, ite_self, ↓reduceIte, s_from0, s_from1, s_from2, s_drop1, s_drop2, s_put, s_putF, s_room1, s_room1F, s_take, s_rep, s_raise1, s_raise2, w_push, w_pop, f_X3_reckonWithTwo, b_X3_reckonWithTwo_14, b_X3_reckonWithTwo_19, b_X3_reckonWithTwo_38, b_X3_reckonWithTwo_82, f_X3_ofTwo, f_X3_quotientOrRest, f_X3_truth, b_X3_ofTwo_121, b_X3_ofTwo_136, b_X3_ofTwo_159, f_X12_reckons, b_X12_reckons_24, b_X12_reckons_44, b_X12_reckons_50, b_X12_reckons_271, b_X12_reckons_230, b_X12_reckons_245, b_X12_reckons_106, b_X12_reckons_99, h1]
    refine ST.m1 ⟨hT, rS.mk2 (by omega) (by omega) ?_, hY, hD, hQ, hK, rS.mk2 (by omega) (by omega) ?_, hC, hO⟩
    all_goals (intro i hi; try simp only [upd_at])
    all_goals repeat' split
    all_goals first | rfl | exact hf _ (by omega) | exact hh _ (by omega) | (exfalso; omega) | exact absurd trivial (by assumption) | (simp (disch := omega) only [hf, hh]; done)
theorem wd_32 (hR : REL t s y d q k r c o T S R C Y D K Q O) (al st ca ov an th lf st' ca' re en : Int32) : ST (f_X3_carryOutNext t s y d q k r c o (al, st, ca, 32, ov, an)) (f_X12_done 32 T S R C Y D K Q O (th, lf, st', ca', -1, re, en)) al (st + 1) ca ov an th lf st' ca' re en := by
  obtain ⟨hT, ⟨n, f, F, hn, rfl, rfl, hf⟩, hY, hD, hQ, hK, ⟨p, h, G, hp, rfl, rfl, hh⟩, hC, hO⟩ := hR
  rw [dn_ge (by decide) (by decide) hC]
  by_cases h1 : 2 ≤ n
  · simp (decide := true) (disch := omega) only [f_X3_carryOutNext, f_X3_askFirst, b_X3_askFirst_20, b_X3_askFirst_40, Int32.reduceToNatClampNeg, gp_32, fc_32, tk_32, wi_32, od_32, sw_32, b_X12_done_52, b_X12_done_69, f_X12_isStarred, b_X12_isStarred_42, f_X12_wants, f_X12_wantsStore, b_X12_wantsStore_27, L_0, L_1, L_2, L_3, nlt30, cl_nI, nI_lt0, nI_sub1, nI_sub2, nI_sub3, nI_add1, nI_add2, e_30, Nat.sub_sub, Nat.reduceAdd, hf, hh, sb, ck_T, ckn, not_false_eq_true, false_or, Nat.not_le, ite_self, ↓reduceIte, s_from0, s_from1, s_from2, s_drop1, s_drop2, s_put, s_putF, s_room1, s_room1F, s_take, s_rep, s_raise1, s_raise2, w_push, w_pop, f_X3_reckonWithTwo, b_X3_reckonWithTwo_14, b_X3_reckonWithTwo_19, b_X3_reckonWithTwo_38, b_X3_reckonWithTwo_82, f_X3_ofTwo, f_X3_quotientOrRest, f_X3_truth, b_X3_ofTwo_121, b_X3_ofTwo_136, b_X3_ofTwo_159, f_X12_reckons, b_X12_reckons_24, b_X12_reckons_44, b_X12_reckons_50, b_X12_reckons_271, b_X12_reckons_230, b_X12_reckons_245, b_X12_reckons_106, b_X12_reckons_99, h1]
    refine ST.m1 ⟨hT, rS.mk2 (by omega) (by omega) ?_, hY, hD, hQ, hK, rS.mk2 (by omega) (by omega) ?_, hC, hO⟩
    all_goals (intro i hi; try simp only [upd_at])
    all_goals repeat' split
    all_goals first | rfl | exact hf _ (by omega) | exact hh _ (by omega) | (exfalso; omega) | exact absurd trivial (by assumption) | (simp (disch := omega) only [hf, hh]; done)
  · simp (decide := true) (disch := omega) only [f_X3_carryOutNext, f_X3_askFirst, b_X3_askFirst_20, b_X3_askFirst_40, Int32.reduceToNatClampNeg, gp_32, fc_32, tk_32, wi_32, od_32, sw_32, b_X12_done_52, b_X12_done_69, f_X12_isStarred, b_X12_isStarred_42, f_X12_wants, f_X12_wantsStore, b_X12_wantsStore_27, L_0, L_1, L_2, L_3, nlt30, cl_nI, nI_lt0, nI_sub1, nI_sub2, nI_sub3, nI_add1, nI_add2, e_30, Nat.sub_sub, Nat.reduceAdd, hf, hh, sb, ck_T, ckn, not_false_eq_true, false_or, Nat.not_le, ite_self, ↓reduceIte, s_from0, s_from1, s_from2, s_drop1, s_drop2, s_put, s_putF, s_room1, s_room1F, s_take, s_rep, s_raise1, s_raise2, w_push, w_pop, f_X3_reckonWithTwo, b_X3_reckonWithTwo_14, b_X3_reckonWithTwo_19, b_X3_reckonWithTwo_38, b_X3_reckonWithTwo_82, f_X3_ofTwo, f_X3_quotientOrRest, f_X3_truth, b_X3_ofTwo_121, b_X3_ofTwo_136, b_X3_ofTwo_159, f_X12_reckons, b_X12_reckons_24, b_X12_reckons_44, b_X12_reckons_50, b_X12_reckons_271, b_X12_reckons_230, b_X12_reckons_245, b_X12_reckons_106, b_X12_reckons_99, h1]
    refine ST.m1 ⟨hT, rS.mk2 (by omega) (by omega) ?_, hY, hD, hQ, hK, rS.mk2 (by omega) (by omega) ?_, hC, hO⟩
    all_goals (intro i hi; try simp only [upd_at])
    all_goals repeat' split
    all_goals first | rfl | exact hf _ (by omega) | exact hh _ (by omega) | (exfalso; omega) | exact absurd trivial (by assumption) | (simp (disch := omega) only [hf, hh]; done)
theorem wd_33 (hR : REL t s y d q k r c o T S R C Y D K Q O) (al st ca ov an th lf st' ca' re en : Int32) : ST (f_X3_carryOutNext t s y d q k r c o (al, st, ca, 33, ov, an)) (f_X12_done 33 T S R C Y D K Q O (th, lf, st', ca', -1, re, en)) al (st + 1) ca ov an th lf st' ca' re en := by
  obtain ⟨hT, ⟨n, f, F, hn, rfl, rfl, hf⟩, hY, hD, hQ, hK, ⟨p, h, G, hp, rfl, rfl, hh⟩, hC, hO⟩ := hR
  rw [dn_ge (by decide) (by decide) hC]
  by_cases h1 : 2 ≤ n
  · simp (decide := true) (disch := omega) only [f_X3_carryOutNext, f_X3_askFirst, b_X3_askFirst_20, b_X3_askFirst_40, Int32.reduceToNatClampNeg, gp_33, fc_33, tk_33, wi_33, od_33, sw_33, b_X12_done_52, b_X12_done_69, f_X12_isStarred, b_X12_isStarred_42, f_X12_wants, f_X12_wantsStore, b_X12_wantsStore_27, L_0, L_1, L_2, L_3, nlt30, cl_nI, nI_lt0, nI_sub1, nI_sub2, nI_sub3, nI_add1, nI_add2, e_30, Nat.sub_sub, Nat.reduceAdd, hf, hh, sb, ck_T, ckn, not_false_eq_true, false_or, Nat.not_le, ite_self, ↓reduceIte, s_from0, s_from1, s_from2, s_drop1, s_drop2, s_put, s_putF, s_room1, s_room1F, s_take, s_rep, s_raise1, s_raise2, w_push, w_pop, f_X3_reckonWithTwo, b_X3_reckonWithTwo_14, b_X3_reckonWithTwo_19, b_X3_reckonWithTwo_38, b_X3_reckonWithTwo_82, f_X3_ofTwo, f_X3_quotientOrRest, f_X3_truth, b_X3_ofTwo_121, b_X3_ofTwo_136, b_X3_ofTwo_159, f_X12_reckons, b_X12_reckons_24, b_X12_reckons_44, b_X12_reckons_50, b_X12_reckons_271, b_X12_reckons_230, b_X12_reckons_245, b_X12_reckons_106, b_X12_reckons_99, h1]
    refine ST.m1 ⟨hT, rS.mk2 (by omega) (by omega) ?_, hY, hD, hQ, hK, rS.mk2 (by omega) (by omega) ?_, hC, hO⟩
    all_goals (intro i hi; try simp only [upd_at])
    all_goals repeat' split
    all_goals first | rfl | exact hf _ (by omega) | exact hh _ (by omega) | (exfalso; omega) | exact absurd trivial (by assumption) | (simp (disch := omega) only [hf, hh]; done)
  · simp (decide := true) (disch := omega) only [f_X3_carryOutNext, f_X3_askFirst, b_X3_askFirst_20, b_X3_askFirst_40, Int32.reduceToNatClampNeg, gp_33, fc_33, tk_33, wi_33, od_33, sw_33, b_X12_done_52, b_X12_done_69, f_X12_isStarred, b_X12_isStarred_42, f_X12_wants, f_X12_wantsStore, b_X12_wantsStore_27, L_0, L_1, L_2, L_3, nlt30, cl_nI, nI_lt0, nI_sub1, nI_sub2, nI_sub3, nI_add1, nI_add2, e_30, Nat.sub_sub, Nat.reduceAdd, hf, hh, sb, ck_T, ckn, not_false_eq_true, false_or, Nat.not_le, ite_self, ↓reduceIte, s_from0, s_from1, s_from2, s_drop1, s_drop2, s_put, s_putF, s_room1, s_room1F, s_take, s_rep, s_raise1, s_raise2, w_push, w_pop, f_X3_reckonWithTwo, b_X3_reckonWithTwo_14, b_X3_reckonWithTwo_19, b_X3_reckonWithTwo_38, b_X3_reckonWithTwo_82, f_X3_ofTwo, f_X3_quotientOrRest, f_X3_truth, b_X3_ofTwo_121, b_X3_ofTwo_136, b_X3_ofTwo_159, f_X12_reckons, b_X12_reckons_24, b_X12_reckons_44, b_X12_reckons_50, b_X12_reckons_271, b_X12_reckons_230, b_X12_reckons_245, b_X12_reckons_106, b_X12_reckons_99, h1]
    refine ST.m1 ⟨hT, rS.mk2 (by omega) (by omega) ?_, hY, hD, hQ, hK, rS.mk2 (by omega) (by omega) ?_, hC, hO⟩
    all_goals (intro i hi; try simp only [upd_at])
    all_goals repeat' split
    all_goals first | rfl | exact hf _ (by omega) | exact hh _ (by omega) | (exfalso; omega) | exact absurd trivial (by assumption) | (simp (disch := omega) only [hf, hh]; done)
theorem wd_34 (hR : REL t s y d q k r c o T S R C Y D K Q O) (al st ca ov an th lf st' ca' re en : Int32) : ST (f_X3_carryOutNext t s y d q k r c o (al, st, ca, 34, ov, an)) (f_X12_done 34 T S R C Y D K Q O (th, lf, st', ca', -1, re, en)) al (st + 1) ca ov an th lf st' ca' re en := by
  obtain ⟨hT, ⟨n, f, F, hn, rfl, rfl, hf⟩, hY, hD, hQ, hK, ⟨p, h, G, hp, rfl, rfl, hh⟩, hC, hO⟩ := hR
  rw [dn_ge (by decide) (by decide) hC]
  by_cases h1 : 2 ≤ n
  · simp (decide := true) (disch := omega) only [f_X3_carryOutNext, f_X3_askFirst, b_X3_askFirst_20, b_X3_askFirst_40, Int32.reduceToNatClampNeg, gp_34, fc_34, tk_34, wi_34, od_34, sw_34, b_X12_done_52, b_X12_done_69, f_X12_isStarred, b_X12_isStarred_42, f_X12_wants, f_X12_wantsStore, b_X12_wantsStore_27, L_0, L_1, L_2, L_3, nlt30, cl_nI, nI_lt0, nI_sub1, nI_sub2, nI_sub3, nI_add1, nI_add2, e_30, Nat.sub_sub, Nat.reduceAdd, hf, hh, sb, ck_T, ckn, not_false_eq_true, false_or, Nat.not_le, ite_self, ↓reduceIte, s_from0, s_from1, s_from2, s_drop1, s_drop2, s_put, s_putF, s_room1, s_room1F, s_take, s_rep, s_raise1, s_raise2, w_push, w_pop, f_X3_reckonWithTwo, b_X3_reckonWithTwo_14, b_X3_reckonWithTwo_19, b_X3_reckonWithTwo_38, b_X3_reckonWithTwo_82, f_X3_ofTwo, f_X3_quotientOrRest, f_X3_truth, b_X3_ofTwo_121, b_X3_ofTwo_136, b_X3_ofTwo_159, f_X12_reckons, b_X12_reckons_24, b_X12_reckons_44, b_X12_reckons_50, b_X12_reckons_271, b_X12_reckons_230, b_X12_reckons_245, b_X12_reckons_106, b_X12_reckons_99, h1]
    refine ST.m1 ⟨hT, rS.mk2 (by omega) (by omega) ?_, hY, hD, hQ, hK, rS.mk2 (by omega) (by omega) ?_, hC, hO⟩
    all_goals (intro i hi; try simp only [upd_at])
    all_goals repeat' split
    all_goals first | rfl | exact hf _ (by omega) | exact hh _ (by omega) | (exfalso; omega) | exact absurd trivial (by assumption) | (simp (disch := omega) only [hf, hh]; done)
  · simp (decide := true) (disch := omega) only [f_X3_carryOutNext, f_X3_askFirst, b_X3_askFirst_20, b_X3_askFirst_40, Int32.reduceToNatClampNeg, gp_34, fc_34, tk_34, wi_34, od_34, sw_34, b_X12_done_52, b_X12_done_69, f_X12_isStarred, b_X12_isStarred_42, f_X12_wants, f_X12_wantsStore, b_X12_wantsStore_27, L_0, L_1, L_2, L_3, nlt30, cl_nI, nI_lt0, nI_sub1, nI_sub2, nI_sub3, nI_add1, nI_add2, e_30, Nat.sub_sub, Nat.reduceAdd, hf, hh, sb, ck_T, ckn, not_false_eq_true, false_or, Nat.not_le, ite_self, ↓reduceIte, s_from0, s_from1, s_from2, s_drop1, s_drop2, s_put, s_putF, s_room1, s_room1F, s_take, s_rep, s_raise1, s_raise2, w_push, w_pop, f_X3_reckonWithTwo, b_X3_reckonWithTwo_14, b_X3_reckonWithTwo_19, b_X3_reckonWithTwo_38, b_X3_reckonWithTwo_82, f_X3_ofTwo, f_X3_quotientOrRest, f_X3_truth, b_X3_ofTwo_121, b_X3_ofTwo_136, b_X3_ofTwo_159, f_X12_reckons, b_X12_reckons_24, b_X12_reckons_44, b_X12_reckons_50, b_X12_reckons_271, b_X12_reckons_230, b_X12_reckons_245, b_X12_reckons_106, b_X12_reckons_99, h1]
    refine ST.m1 ⟨hT, rS.mk2 (by omega) (by omega) ?_, hY, hD, hQ, hK, rS.mk2 (by omega) (by omega) ?_, hC, hO⟩
    all_goals (intro i hi; try simp only [upd_at])
    all_goals repeat' split
    all_goals first | rfl | exact hf _ (by omega) | exact hh _ (by omega) | (exfalso; omega) | exact absurd trivial (by assumption) | (simp (disch := omega) only [hf, hh]; done)
theorem wd_35 (hR : REL t s y d q k r c o T S R C Y D K Q O) (al st ca ov an th lf st' ca' re en : Int32) : ST (f_X3_carryOutNext t s y d q k r c o (al, st, ca, 35, ov, an)) (f_X12_done 35 T S R C Y D K Q O (th, lf, st', ca', -1, re, en)) al (st + 1) ca ov an th lf st' ca' re en := by
  obtain ⟨hT, ⟨n, f, F, hn, rfl, rfl, hf⟩, hY, hD, hQ, hK, ⟨p, h, G, hp, rfl, rfl, hh⟩, hC, hO⟩ := hR
  rw [dn_ge (by decide) (by decide) hC]
  by_cases h1 : 1 ≤ n
  · simp (decide := true) (disch := omega) only [f_X3_carryOutNext, f_X3_askFirst, b_X3_askFirst_20, b_X3_askFirst_40, Int32.reduceToNatClampNeg, gp_35, fc_35, tk_35, wi_35, od_35, sw_35, b_X12_done_52, b_X12_done_69, f_X12_isStarred, b_X12_isStarred_42, f_X12_wants, f_X12_wantsStore, b_X12_wantsStore_27, L_0, L_1, L_2, L_3, nlt30, cl_nI, nI_lt0, nI_sub1, nI_sub2, nI_sub3, nI_add1, nI_add2, e_30, Nat.sub_sub, Nat.reduceAdd, hf, hh, sb, ck_T, ckn, not_false_eq_true, false_or, Nat.not_le, ite_self, ↓reduceIte, s_from0, s_from1, s_from2, s_drop1, s_drop2, s_put, s_putF, s_room1, s_room1F, s_take, s_rep, s_raise1, s_raise2, w_push, w_pop, f_X3_ofOne, b_X3_ofOne_80, b_X3_ofOne_94, f_X3_truth, f_X12_reckons, b_X12_reckons_24, b_X12_reckons_44, b_X12_reckons_50, b_X12_reckons_271, b_X12_reckons_230, b_X12_reckons_245, b_X12_reckons_106, b_X12_reckons_99, not_eq, h1]
    refine ST.m1 ⟨hT, rS.mk2 (by omega) (by omega) ?_, hY, hD, hQ, hK, rS.mk2 (by omega) (by omega) ?_, hC, hO⟩
    all_goals (intro i hi; try simp only [upd_at])
    all_goals repeat' split
    all_goals first | rfl | exact hf _ (by omega) | exact hh _ (by omega) | (exfalso; omega) | exact absurd trivial (by assumption) | (simp (disch := omega) only [hf, hh]; done)
  · simp (decide := true) (disch := omega) only [f_X3_carryOutNext, f_X3_askFirst, b_X3_askFirst_20, b_X3_askFirst_40, Int32.reduceToNatClampNeg, gp_35, fc_35, tk_35, wi_35, od_35, sw_35, b_X12_done_52, b_X12_done_69, f_X12_isStarred, b_X12_isStarred_42, f_X12_wants, f_X12_wantsStore, b_X12_wantsStore_27, L_0, L_1, L_2, L_3, nlt30, cl_nI, nI_lt0, nI_sub1, nI_sub2, nI_sub3, nI_add1, nI_add2, e_30, Nat.sub_sub, Nat.reduceAdd, hf, hh, sb, ck_T, ckn, not_false_eq_true, false_or, Nat.not_le, ite_self, ↓reduceIte, s_from0, s_from1, s_from2, s_drop1, s_drop2, s_put, s_putF, s_room1, s_room1F, s_take, s_rep, s_raise1, s_raise2, w_push, w_pop, f_X3_ofOne, b_X3_ofOne_80, b_X3_ofOne_94, f_X3_truth, f_X12_reckons, b_X12_reckons_24, b_X12_reckons_44, b_X12_reckons_50, b_X12_reckons_271, b_X12_reckons_230, b_X12_reckons_245, b_X12_reckons_106, b_X12_reckons_99, not_eq, h1]
    refine ST.m1 ⟨hT, rS.mk2 (by omega) (by omega) ?_, hY, hD, hQ, hK, rS.mk2 (by omega) (by omega) ?_, hC, hO⟩
    all_goals (intro i hi; try simp only [upd_at])
    all_goals repeat' split
    all_goals first | rfl | exact hf _ (by omega) | exact hh _ (by omega) | (exfalso; omega) | exact absurd trivial (by assumption) | (simp (disch := omega) only [hf, hh]; done)
theorem wd_36 (hR : REL t s y d q k r c o T S R C Y D K Q O) (al st ca ov an th lf st' ca' re en : Int32) : ST (f_X3_carryOutNext t s y d q k r c o (al, st, ca, 36, ov, an)) (f_X12_done 36 T S R C Y D K Q O (th, lf, st', ca', -1, re, en)) al (st + 1) ca ov an th lf st' ca' re en := by
  obtain ⟨hT, ⟨n, f, F, hn, rfl, rfl, hf⟩, hY, hD, hQ, hK, ⟨p, h, G, hp, rfl, rfl, hh⟩, hC, hO⟩ := hR
  rw [dn_ge (by decide) (by decide) hC]
  by_cases h1 : 2 ≤ n
  · by_cases hv : f (n - 2) = f (n - 1)
    · simp (decide := true) (disch := omega) only [f_X3_carryOutNext, f_X3_askFirst, b_X3_askFirst_20, b_X3_askFirst_40, Int32.reduceToNatClampNeg, gp_36, fc_36, tk_36, wi_36, od_36, sw_36, b_X12_done_52, b_X12_done_69, f_X12_isStarred, b_X12_isStarred_42, f_X12_wants, f_X12_wantsStore, b_X12_wantsStore_27, L_0, L_1, L_2, L_3, nlt30, cl_nI, nI_lt0, nI_sub1, nI_sub2, nI_sub3, nI_add1, nI_add2, e_30, Nat.sub_sub, Nat.reduceAdd, hf, hh, sb, ck_T, ckn, not_false_eq_true, false_or, Nat.not_le, ite_self, ↓reduceIte, s_from0, s_from1, s_from2, s_drop1, s_drop2, s_put, s_putF, s_room1, s_room1F, s_take, s_rep, s_raise1, s_raise2, w_push, w_pop, f_X3_reckonWithTwo, b_X3_reckonWithTwo_14, b_X3_reckonWithTwo_19, b_X3_reckonWithTwo_38, b_X3_reckonWithTwo_82, f_X3_ofTwo, f_X3_quotientOrRest, f_X3_truth, b_X3_ofTwo_121, b_X3_ofTwo_136, b_X3_ofTwo_159, f_X12_compares, b_X12_compares_54, b_X12_compares_72, b_X12_compares_101, b_X12_compares_115, b_X12_compares_129, b_X12_compares_161, f_X12_truth, b_X12_truth_10, h1, hv]
      refine ST.m1 ⟨hT, rS.mk2 (by omega) (by omega) ?_, hY, hD, hQ, hK, rS.mk2 (by omega) (by omega) ?_, hC, hO⟩
      all_goals (intro i hi; try simp only [upd_at])
      all_goals repeat' split
      all_goals first | rfl | exact hf _ (by omega) | exact hh _ (by omega) | (exfalso; omega) | exact absurd trivial (by assumption) | (simp (disch := omega) only [hf, hh]; done)
    · simp (decide := true) (disch := omega) only [f_X3_carryOutNext, f_X3_askFirst, b_X3_askFirst_20, b_X3_askFirst_40, Int32.reduceToNatClampNeg, gp_36, fc_36, tk_36, wi_36, od_36, sw_36, b_X12_done_52, b_X12_done_69, f_X12_isStarred, b_X12_isStarred_42, f_X12_wants, f_X12_wantsStore, b_X12_wantsStore_27, L_0, L_1, L_2, L_3, nlt30, cl_nI, nI_lt0, nI_sub1, nI_sub2, nI_sub3, nI_add1, nI_add2, e_30, Nat.sub_sub, Nat.reduceAdd, hf, hh, sb, ck_T, ckn, not_false_eq_true, false_or, Nat.not_le, ite_self, ↓reduceIte, s_from0, s_from1, s_from2, s_drop1, s_drop2, s_put, s_putF, s_room1, s_room1F, s_take, s_rep, s_raise1, s_raise2, w_push, w_pop, f_X3_reckonWithTwo, b_X3_reckonWithTwo_14, b_X3_reckonWithTwo_19, b_X3_reckonWithTwo_38, b_X3_reckonWithTwo_82, f_X3_ofTwo, f_X3_quotientOrRest, f_X3_truth, b_X3_ofTwo_121, b_X3_ofTwo_136, b_X3_ofTwo_159, f_X12_compares, b_X12_compares_54, b_X12_compares_72, b_X12_compares_101, b_X12_compares_115, b_X12_compares_129, b_X12_compares_161, f_X12_truth, b_X12_truth_10, h1, hv]
      refine ST.m1 ⟨hT, rS.mk2 (by omega) (by omega) ?_, hY, hD, hQ, hK, rS.mk2 (by omega) (by omega) ?_, hC, hO⟩
      all_goals (intro i hi; try simp only [upd_at])
      all_goals repeat' split
      all_goals first | rfl | exact hf _ (by omega) | exact hh _ (by omega) | (exfalso; omega) | exact absurd trivial (by assumption) | (simp (disch := omega) only [hf, hh]; done)
  · simp (decide := true) (disch := omega) only [f_X3_carryOutNext, f_X3_askFirst, b_X3_askFirst_20, b_X3_askFirst_40, Int32.reduceToNatClampNeg, gp_36, fc_36, tk_36, wi_36, od_36, sw_36, b_X12_done_52, b_X12_done_69, f_X12_isStarred, b_X12_isStarred_42, f_X12_wants, f_X12_wantsStore, b_X12_wantsStore_27, L_0, L_1, L_2, L_3, nlt30, cl_nI, nI_lt0, nI_sub1, nI_sub2, nI_sub3, nI_add1, nI_add2, e_30, Nat.sub_sub, Nat.reduceAdd, hf, hh, sb, ck_T, ckn, not_false_eq_true, false_or, Nat.not_le, ite_self, ↓reduceIte, s_from0, s_from1, s_from2, s_drop1, s_drop2, s_put, s_putF, s_room1, s_room1F, s_take, s_rep, s_raise1, s_raise2, w_push, w_pop, f_X3_reckonWithTwo, b_X3_reckonWithTwo_14, b_X3_reckonWithTwo_19, b_X3_reckonWithTwo_38, b_X3_reckonWithTwo_82, f_X3_ofTwo, f_X3_quotientOrRest, f_X3_truth, b_X3_ofTwo_121, b_X3_ofTwo_136, b_X3_ofTwo_159, f_X12_compares, b_X12_compares_54, b_X12_compares_72, b_X12_compares_101, b_X12_compares_115, b_X12_compares_129, b_X12_compares_161, f_X12_truth, b_X12_truth_10, h1]
    refine ST.m1 ⟨hT, rS.mk2 (by omega) (by omega) ?_, hY, hD, hQ, hK, rS.mk2 (by omega) (by omega) ?_, hC, hO⟩
    all_goals (intro i hi; try simp only [upd_at])
    all_goals repeat' split
    all_goals first | rfl | exact hf _ (by omega) | exact hh _ (by omega) | (exfalso; omega) | exact absurd trivial (by assumption) | (simp (disch := omega) only [hf, hh]; done)
theorem wd_37 (hR : REL t s y d q k r c o T S R C Y D K Q O) (al st ca ov an th lf st' ca' re en : Int32) : ST (f_X3_carryOutNext t s y d q k r c o (al, st, ca, 37, ov, an)) (f_X12_done 37 T S R C Y D K Q O (th, lf, st', ca', -1, re, en)) al (st + 1) ca ov an th lf st' ca' re en := by
  obtain ⟨hT, ⟨n, f, F, hn, rfl, rfl, hf⟩, hY, hD, hQ, hK, ⟨p, h, G, hp, rfl, rfl, hh⟩, hC, hO⟩ := hR
  rw [dn_ge (by decide) (by decide) hC]
  by_cases h1 : 2 ≤ n
  · by_cases hv : f (n - 1) ≤ f (n - 2)
    · simp (decide := true) (disch := omega) only [f_X3_carryOutNext, f_X3_askFirst, b_X3_askFirst_20, b_X3_askFirst_40, Int32.reduceToNatClampNeg, gp_37, fc_37, tk_37, wi_37, od_37, sw_37, b_X12_done_52, b_X12_done_69, f_X12_isStarred, b_X12_isStarred_42, f_X12_wants, f_X12_wantsStore, b_X12_wantsStore_27, L_0, L_1, L_2, L_3, nlt30, cl_nI, nI_lt0, nI_sub1, nI_sub2, nI_sub3, nI_add1, nI_add2, e_30, Nat.sub_sub, Nat.reduceAdd, hf, hh, sb, ck_T, ckn, not_false_eq_true, false_or, Nat.not_le, ite_self, ↓reduceIte, s_from0, s_from1, s_from2, s_drop1, s_drop2, s_put, s_putF, s_room1, s_room1F, s_take, s_rep, s_raise1, s_raise2, w_push, w_pop, f_X3_reckonWithTwo, b_X3_reckonWithTwo_14, b_X3_reckonWithTwo_19, b_X3_reckonWithTwo_38, b_X3_reckonWithTwo_82, f_X3_ofTwo, f_X3_quotientOrRest, f_X3_truth, b_X3_ofTwo_121, b_X3_ofTwo_136, b_X3_ofTwo_159, f_X12_compares, b_X12_compares_54, b_X12_compares_72, b_X12_compares_101, b_X12_compares_115, b_X12_compares_129, b_X12_compares_161, f_X12_truth, b_X12_truth_10, h1, hv]
      refine ST.m1 ⟨hT, rS.mk2 (by omega) (by omega) ?_, hY, hD, hQ, hK, rS.mk2 (by omega) (by omega) ?_, hC, hO⟩
      all_goals (intro i hi; try simp only [upd_at])
      all_goals repeat' split
      all_goals first | rfl | exact hf _ (by omega) | exact hh _ (by omega) | (exfalso; omega) | exact absurd trivial (by assumption) | (simp (disch := omega) only [hf, hh]; done)
    · simp (decide := true) (disch := omega) only [f_X3_carryOutNext, f_X3_askFirst, b_X3_askFirst_20, b_X3_askFirst_40, Int32.reduceToNatClampNeg, gp_37, fc_37, tk_37, wi_37, od_37, sw_37, b_X12_done_52, b_X12_done_69, f_X12_isStarred, b_X12_isStarred_42, f_X12_wants, f_X12_wantsStore, b_X12_wantsStore_27, L_0, L_1, L_2, L_3, nlt30, cl_nI, nI_lt0, nI_sub1, nI_sub2, nI_sub3, nI_add1, nI_add2, e_30, Nat.sub_sub, Nat.reduceAdd, hf, hh, sb, ck_T, ckn, not_false_eq_true, false_or, Nat.not_le, ite_self, ↓reduceIte, s_from0, s_from1, s_from2, s_drop1, s_drop2, s_put, s_putF, s_room1, s_room1F, s_take, s_rep, s_raise1, s_raise2, w_push, w_pop, f_X3_reckonWithTwo, b_X3_reckonWithTwo_14, b_X3_reckonWithTwo_19, b_X3_reckonWithTwo_38, b_X3_reckonWithTwo_82, f_X3_ofTwo, f_X3_quotientOrRest, f_X3_truth, b_X3_ofTwo_121, b_X3_ofTwo_136, b_X3_ofTwo_159, f_X12_compares, b_X12_compares_54, b_X12_compares_72, b_X12_compares_101, b_X12_compares_115, b_X12_compares_129, b_X12_compares_161, f_X12_truth, b_X12_truth_10, h1, hv]
      refine ST.m1 ⟨hT, rS.mk2 (by omega) (by omega) ?_, hY, hD, hQ, hK, rS.mk2 (by omega) (by omega) ?_, hC, hO⟩
      all_goals (intro i hi; try simp only [upd_at])
      all_goals repeat' split
      all_goals first | rfl | exact hf _ (by omega) | exact hh _ (by omega) | (exfalso; omega) | exact absurd trivial (by assumption) | (simp (disch := omega) only [hf, hh]; done)
  · simp (decide := true) (disch := omega) only [f_X3_carryOutNext, f_X3_askFirst, b_X3_askFirst_20, b_X3_askFirst_40, Int32.reduceToNatClampNeg, gp_37, fc_37, tk_37, wi_37, od_37, sw_37, b_X12_done_52, b_X12_done_69, f_X12_isStarred, b_X12_isStarred_42, f_X12_wants, f_X12_wantsStore, b_X12_wantsStore_27, L_0, L_1, L_2, L_3, nlt30, cl_nI, nI_lt0, nI_sub1, nI_sub2, nI_sub3, nI_add1, nI_add2, e_30, Nat.sub_sub, Nat.reduceAdd, hf, hh, sb, ck_T, ckn, not_false_eq_true, false_or, Nat.not_le, ite_self, ↓reduceIte, s_from0, s_from1, s_from2, s_drop1, s_drop2, s_put, s_putF, s_room1, s_room1F, s_take, s_rep, s_raise1, s_raise2, w_push, w_pop, f_X3_reckonWithTwo, b_X3_reckonWithTwo_14, b_X3_reckonWithTwo_19, b_X3_reckonWithTwo_38, b_X3_reckonWithTwo_82, f_X3_ofTwo, f_X3_quotientOrRest, f_X3_truth, b_X3_ofTwo_121, b_X3_ofTwo_136, b_X3_ofTwo_159, f_X12_compares, b_X12_compares_54, b_X12_compares_72, b_X12_compares_101, b_X12_compares_115, b_X12_compares_129, b_X12_compares_161, f_X12_truth, b_X12_truth_10, h1]
    refine ST.m1 ⟨hT, rS.mk2 (by omega) (by omega) ?_, hY, hD, hQ, hK, rS.mk2 (by omega) (by omega) ?_, hC, hO⟩
    all_goals (intro i hi; try simp only [upd_at])
    all_goals repeat' split
    all_goals first | rfl | exact hf _ (by omega) | exact hh _ (by omega) | (exfalso; omega) | exact absurd trivial (by assumption) | (simp (disch := omega) only [hf, hh]; done)
theorem wd_38 (hR : REL t s y d q k r c o T S R C Y D K Q O) (al st ca ov an th lf st' ca' re en : Int32) : ST (f_X3_carryOutNext t s y d q k r c o (al, st, ca, 38, ov, an)) (f_X12_done 38 T S R C Y D K Q O (th, lf, st', ca', -1, re, en)) al (st + 1) ca ov an th lf st' ca' re en := by
  obtain ⟨hT, ⟨n, f, F, hn, rfl, rfl, hf⟩, hY, hD, hQ, hK, ⟨p, h, G, hp, rfl, rfl, hh⟩, hC, hO⟩ := hR
  rw [dn_ge (by decide) (by decide) hC]
  by_cases h1 : 2 ≤ n
  · by_cases hv : f (n - 1) ^^^ (-2147483648) ≤ f (n - 2) ^^^ (-2147483648)
    · simp (decide := true) (disch := omega) only [f_X3_carryOutNext, f_X3_askFirst, b_X3_askFirst_20, b_X3_askFirst_40, Int32.reduceToNatClampNeg, gp_38, fc_38, tk_38, wi_38, od_38, sw_38, b_X12_done_52, b_X12_done_69, f_X12_isStarred, b_X12_isStarred_42, f_X12_wants, f_X12_wantsStore, b_X12_wantsStore_27, L_0, L_1, L_2, L_3, nlt30, cl_nI, nI_lt0, nI_sub1, nI_sub2, nI_sub3, nI_add1, nI_add2, e_30, Nat.sub_sub, Nat.reduceAdd, hf, hh, sb, ck_T, ckn, not_false_eq_true, false_or, Nat.not_le, ite_self, ↓reduceIte, s_from0, s_from1, s_from2, s_drop1, s_drop2, s_put, s_putF, s_room1, s_room1F, s_take, s_rep, s_raise1, s_raise2, w_push, w_pop, f_X3_reckonWithTwo, b_X3_reckonWithTwo_14, b_X3_reckonWithTwo_19, b_X3_reckonWithTwo_38, b_X3_reckonWithTwo_82, f_X3_ofTwo, f_X3_quotientOrRest, f_X3_truth, b_X3_ofTwo_121, b_X3_ofTwo_136, b_X3_ofTwo_159, f_X12_compares, b_X12_compares_54, b_X12_compares_72, b_X12_compares_101, b_X12_compares_115, b_X12_compares_129, b_X12_compares_161, f_X12_truth, b_X12_truth_10, uless, h1, hv]
      refine ST.m1 ⟨hT, rS.mk2 (by omega) (by omega) ?_, hY, hD, hQ, hK, rS.mk2 (by omega) (by omega) ?_, hC, hO⟩
      all_goals (intro i hi; try simp only [upd_at])
      all_goals repeat' split
      all_goals first | rfl | exact hf _ (by omega) | exact hh _ (by omega) | (exfalso; omega) | exact absurd trivial (by assumption) | (simp (disch := omega) only [hf, hh]; done)
    · simp (decide := true) (disch := omega) only [f_X3_carryOutNext, f_X3_askFirst, b_X3_askFirst_20, b_X3_askFirst_40, Int32.reduceToNatClampNeg, gp_38, fc_38, tk_38, wi_38, od_38, sw_38, b_X12_done_52, b_X12_done_69, f_X12_isStarred, b_X12_isStarred_42, f_X12_wants, f_X12_wantsStore, b_X12_wantsStore_27, L_0, L_1, L_2, L_3, nlt30, cl_nI, nI_lt0, nI_sub1, nI_sub2, nI_sub3, nI_add1, nI_add2, e_30, Nat.sub_sub, Nat.reduceAdd, hf, hh, sb, ck_T, ckn, not_false_eq_true, false_or, Nat.not_le, ite_self, ↓reduceIte, s_from0, s_from1, s_from2, s_drop1, s_drop2, s_put, s_putF, s_room1, s_room1F, s_take, s_rep, s_raise1, s_raise2, w_push, w_pop, f_X3_reckonWithTwo, b_X3_reckonWithTwo_14, b_X3_reckonWithTwo_19, b_X3_reckonWithTwo_38, b_X3_reckonWithTwo_82, f_X3_ofTwo, f_X3_quotientOrRest, f_X3_truth, b_X3_ofTwo_121, b_X3_ofTwo_136, b_X3_ofTwo_159, f_X12_compares, b_X12_compares_54, b_X12_compares_72, b_X12_compares_101, b_X12_compares_115, b_X12_compares_129, b_X12_compares_161, f_X12_truth, b_X12_truth_10, uless, h1, hv]
      refine ST.m1 ⟨hT, rS.mk2 (by omega) (by omega) ?_, hY, hD, hQ, hK, rS.mk2 (by omega) (by omega) ?_, hC, hO⟩
      all_goals (intro i hi; try simp only [upd_at])
      all_goals repeat' split
      all_goals first | rfl | exact hf _ (by omega) | exact hh _ (by omega) | (exfalso; omega) | exact absurd trivial (by assumption) | (simp (disch := omega) only [hf, hh]; done)
  · simp (decide := true) (disch := omega) only [f_X3_carryOutNext, f_X3_askFirst, b_X3_askFirst_20, b_X3_askFirst_40, Int32.reduceToNatClampNeg, gp_38, fc_38, tk_38, wi_38, od_38, sw_38, b_X12_done_52, b_X12_done_69, f_X12_isStarred, b_X12_isStarred_42, f_X12_wants, f_X12_wantsStore, b_X12_wantsStore_27, L_0, L_1, L_2, L_3, nlt30, cl_nI, nI_lt0, nI_sub1, nI_sub2, nI_sub3, nI_add1, nI_add2, e_30, Nat.sub_sub, Nat.reduceAdd, hf, hh, sb, ck_T, ckn, not_false_eq_true, false_or, Nat.not_le, ite_self, ↓reduceIte, s_from0, s_from1, s_from2, s_drop1, s_drop2, s_put, s_putF, s_room1, s_room1F, s_take, s_rep, s_raise1, s_raise2, w_push, w_pop, f_X3_reckonWithTwo, b_X3_reckonWithTwo_14, b_X3_reckonWithTwo_19, b_X3_reckonWithTwo_38, b_X3_reckonWithTwo_82, f_X3_ofTwo, f_X3_quotientOrRest, f_X3_truth, b_X3_ofTwo_121, b_X3_ofTwo_136, b_X3_ofTwo_159, f_X12_compares, b_X12_compares_54, b_X12_compares_72, b_X12_compares_101, b_X12_compares_115, b_X12_compares_129, b_X12_compares_161, f_X12_truth, b_X12_truth_10, uless, h1]
    refine ST.m1 ⟨hT, rS.mk2 (by omega) (by omega) ?_, hY, hD, hQ, hK, rS.mk2 (by omega) (by omega) ?_, hC, hO⟩
    all_goals (intro i hi; try simp only [upd_at])
    all_goals repeat' split
    all_goals first | rfl | exact hf _ (by omega) | exact hh _ (by omega) | (exfalso; omega) | exact absurd trivial (by assumption) | (simp (disch := omega) only [hf, hh]; done)
theorem wd_39 (hR : REL t s y d q k r c o T S R C Y D K Q O) (al st ca ov an th lf st' ca' re en : Int32) : ST (f_X3_carryOutNext t s y d q k r c o (al, st, ca, 39, ov, an)) (f_X12_done 39 T S R C Y D K Q O (th, lf, st', ca', -1, re, en)) al (st + 1) ca ov an th lf st' ca' re en := by
  obtain ⟨hT, ⟨n, f, F, hn, rfl, rfl, hf⟩, hY, hD, hQ, hK, ⟨p, h, G, hp, rfl, rfl, hh⟩, hC, hO⟩ := hR
  rw [dn_ge (by decide) (by decide) hC]
  by_cases h1 : 1 ≤ n
  · by_cases hv : f (n - 1) = 0
    · simp (decide := true) (disch := omega) only [f_X3_carryOutNext, f_X3_askFirst, b_X3_askFirst_20, b_X3_askFirst_40, Int32.reduceToNatClampNeg, gp_39, fc_39, tk_39, wi_39, od_39, sw_39, b_X12_done_52, b_X12_done_69, f_X12_isStarred, b_X12_isStarred_42, f_X12_wants, f_X12_wantsStore, b_X12_wantsStore_27, L_0, L_1, L_2, L_3, nlt30, cl_nI, nI_lt0, nI_sub1, nI_sub2, nI_sub3, nI_add1, nI_add2, e_30, Nat.sub_sub, Nat.reduceAdd, hf, hh, sb, ck_T, ckn, not_false_eq_true, false_or, Nat.not_le, ite_self, ↓reduceIte, s_from0, s_from1, s_from2, s_drop1, s_drop2, s_put, s_putF, s_room1, s_room1F, s_take, s_rep, s_raise1, s_raise2, w_push, w_pop, f_X3_ofOne, b_X3_ofOne_80, b_X3_ofOne_94, f_X3_truth, f_X12_compares, b_X12_compares_54, b_X12_compares_72, b_X12_compares_101, b_X12_compares_115, b_X12_compares_129, b_X12_compares_161, f_X12_truth, b_X12_truth_10, h1, hv]
      refine ST.m1 ⟨hT, rS.mk2 (by omega) (by omega) ?_, hY, hD, hQ, hK, rS.mk2 (by omega) (by omega) ?_, hC, hO⟩
      all_goals (intro i hi; try simp only [upd_at])
      all_goals repeat' split
      all_goals first | rfl | exact hf _ (by omega) | exact hh _ (by omega) | (exfalso; omega) | exact absurd trivial (by assumption) | (simp (disch := omega) only [hf, hh]; done)
    · simp (decide := true) (disch := omega) only [f_X3_carryOutNext, f_X3_askFirst, b_X3_askFirst_20, b_X3_askFirst_40, Int32.reduceToNatClampNeg, gp_39, fc_39, tk_39, wi_39, od_39, sw_39, b_X12_done_52, b_X12_done_69, f_X12_isStarred, b_X12_isStarred_42, f_X12_wants, f_X12_wantsStore, b_X12_wantsStore_27, L_0, L_1, L_2, L_3, nlt30, cl_nI, nI_lt0, nI_sub1, nI_sub2, nI_sub3, nI_add1, nI_add2, e_30, Nat.sub_sub, Nat.reduceAdd, hf, hh, sb, ck_T, ckn, not_false_eq_true, false_or, Nat.not_le, ite_self, ↓reduceIte, s_from0, s_from1, s_from2, s_drop1, s_drop2, s_put, s_putF, s_room1, s_room1F, s_take, s_rep, s_raise1, s_raise2, w_push, w_pop, f_X3_ofOne, b_X3_ofOne_80, b_X3_ofOne_94, f_X3_truth, f_X12_compares, b_X12_compares_54, b_X12_compares_72, b_X12_compares_101, b_X12_compares_115, b_X12_compares_129, b_X12_compares_161, f_X12_truth, b_X12_truth_10, h1, hv]
      refine ST.m1 ⟨hT, rS.mk2 (by omega) (by omega) ?_, hY, hD, hQ, hK, rS.mk2 (by omega) (by omega) ?_, hC, hO⟩
      all_goals (intro i hi; try simp only [upd_at])
      all_goals repeat' split
      all_goals first | rfl | exact hf _ (by omega) | exact hh _ (by omega) | (exfalso; omega) | exact absurd trivial (by assumption) | (simp (disch := omega) only [hf, hh]; done)
  · simp (decide := true) (disch := omega) only [f_X3_carryOutNext, f_X3_askFirst, b_X3_askFirst_20, b_X3_askFirst_40, Int32.reduceToNatClampNeg, gp_39, fc_39, tk_39, wi_39, od_39, sw_39, b_X12_done_52, b_X12_done_69, f_X12_isStarred, b_X12_isStarred_42, f_X12_wants, f_X12_wantsStore, b_X12_wantsStore_27, L_0, L_1, L_2, L_3, nlt30, cl_nI, nI_lt0, nI_sub1, nI_sub2, nI_sub3, nI_add1, nI_add2, e_30, Nat.sub_sub, Nat.reduceAdd, hf, hh, sb, ck_T, ckn, not_false_eq_true, false_or, Nat.not_le, ite_self, ↓reduceIte, s_from0, s_from1, s_from2, s_drop1, s_drop2, s_put, s_putF, s_room1, s_room1F, s_take, s_rep, s_raise1, s_raise2, w_push, w_pop, f_X3_ofOne, b_X3_ofOne_80, b_X3_ofOne_94, f_X3_truth, f_X12_compares, b_X12_compares_54, b_X12_compares_72, b_X12_compares_101, b_X12_compares_115, b_X12_compares_129, b_X12_compares_161, f_X12_truth, b_X12_truth_10, h1]
    refine ST.m1 ⟨hT, rS.mk2 (by omega) (by omega) ?_, hY, hD, hQ, hK, rS.mk2 (by omega) (by omega) ?_, hC, hO⟩
    all_goals (intro i hi; try simp only [upd_at])
    all_goals repeat' split
    all_goals first | rfl | exact hf _ (by omega) | exact hh _ (by omega) | (exfalso; omega) | exact absurd trivial (by assumption) | (simp (disch := omega) only [hf, hh]; done)
theorem wd_40 (hR : REL t s y d q k r c o T S R C Y D K Q O) (al st ca ov an th lf st' ca' re en : Int32) : ST (f_X3_carryOutNext t s y d q k r c o (al, st, ca, 40, ov, an)) (f_X12_done 40 T S R C Y D K Q O (th, lf, st', ca', -1, re, en)) al (st + 1) ca ov an th lf st' ca' re en := by
  obtain ⟨hT, ⟨n, f, F, hn, rfl, rfl, hf⟩, hY, hD, hQ, hK, ⟨p, h, G, hp, rfl, rfl, hh⟩, hC, hO⟩ := hR
  rw [dn_ge (by decide) (by decide) hC]
  by_cases h1 : 1 ≤ n
  · by_cases hv : 0 ≤ f (n - 1)
    · simp (decide := true) (disch := omega) only [f_X3_carryOutNext, f_X3_askFirst, b_X3_askFirst_20, b_X3_askFirst_40, Int32.reduceToNatClampNeg, gp_40, fc_40, tk_40, wi_40, od_40, sw_40, b_X12_done_52, b_X12_done_69, f_X12_isStarred, b_X12_isStarred_42, f_X12_wants, f_X12_wantsStore, b_X12_wantsStore_27, L_0, L_1, L_2, L_3, nlt30, cl_nI, nI_lt0, nI_sub1, nI_sub2, nI_sub3, nI_add1, nI_add2, e_30, Nat.sub_sub, Nat.reduceAdd, hf, hh, sb, ck_T, ckn, not_false_eq_true, false_or, Nat.not_le, ite_self, ↓reduceIte, s_from0, s_from1, s_from2, s_drop1, s_drop2, s_put, s_putF, s_room1, s_room1F, s_take, s_rep, s_raise1, s_raise2, w_push, w_pop, f_X3_ofOne, b_X3_ofOne_80, b_X3_ofOne_94, f_X3_truth, f_X12_compares, b_X12_compares_54, b_X12_compares_72, b_X12_compares_101, b_X12_compares_115, b_X12_compares_129, b_X12_compares_161, f_X12_truth, b_X12_truth_10, h1, hv]
      refine ST.m1 ⟨hT, rS.mk2 (by omega) (by omega) ?_, hY, hD, hQ, hK, rS.mk2 (by omega) (by omega) ?_, hC, hO⟩
      all_goals (intro i hi; try simp only [upd_at])
      all_goals repeat' split
      all_goals first | rfl | exact hf _ (by omega) | exact hh _ (by omega) | (exfalso; omega) | exact absurd trivial (by assumption) | (simp (disch := omega) only [hf, hh]; done)
    · simp (decide := true) (disch := omega) only [f_X3_carryOutNext, f_X3_askFirst, b_X3_askFirst_20, b_X3_askFirst_40, Int32.reduceToNatClampNeg, gp_40, fc_40, tk_40, wi_40, od_40, sw_40, b_X12_done_52, b_X12_done_69, f_X12_isStarred, b_X12_isStarred_42, f_X12_wants, f_X12_wantsStore, b_X12_wantsStore_27, L_0, L_1, L_2, L_3, nlt30, cl_nI, nI_lt0, nI_sub1, nI_sub2, nI_sub3, nI_add1, nI_add2, e_30, Nat.sub_sub, Nat.reduceAdd, hf, hh, sb, ck_T, ckn, not_false_eq_true, false_or, Nat.not_le, ite_self, ↓reduceIte, s_from0, s_from1, s_from2, s_drop1, s_drop2, s_put, s_putF, s_room1, s_room1F, s_take, s_rep, s_raise1, s_raise2, w_push, w_pop, f_X3_ofOne, b_X3_ofOne_80, b_X3_ofOne_94, f_X3_truth, f_X12_compares, b_X12_compares_54, b_X12_compares_72, b_X12_compares_101, b_X12_compares_115, b_X12_compares_129, b_X12_compares_161, f_X12_truth, b_X12_truth_10, h1, hv]
      refine ST.m1 ⟨hT, rS.mk2 (by omega) (by omega) ?_, hY, hD, hQ, hK, rS.mk2 (by omega) (by omega) ?_, hC, hO⟩
      all_goals (intro i hi; try simp only [upd_at])
      all_goals repeat' split
      all_goals first | rfl | exact hf _ (by omega) | exact hh _ (by omega) | (exfalso; omega) | exact absurd trivial (by assumption) | (simp (disch := omega) only [hf, hh]; done)
  · simp (decide := true) (disch := omega) only [f_X3_carryOutNext, f_X3_askFirst, b_X3_askFirst_20, b_X3_askFirst_40, Int32.reduceToNatClampNeg, gp_40, fc_40, tk_40, wi_40, od_40, sw_40, b_X12_done_52, b_X12_done_69, f_X12_isStarred, b_X12_isStarred_42, f_X12_wants, f_X12_wantsStore, b_X12_wantsStore_27, L_0, L_1, L_2, L_3, nlt30, cl_nI, nI_lt0, nI_sub1, nI_sub2, nI_sub3, nI_add1, nI_add2, e_30, Nat.sub_sub, Nat.reduceAdd, hf, hh, sb, ck_T, ckn, not_false_eq_true, false_or, Nat.not_le, ite_self, ↓reduceIte, s_from0, s_from1, s_from2, s_drop1, s_drop2, s_put, s_putF, s_room1, s_room1F, s_take, s_rep, s_raise1, s_raise2, w_push, w_pop, f_X3_ofOne, b_X3_ofOne_80, b_X3_ofOne_94, f_X3_truth, f_X12_compares, b_X12_compares_54, b_X12_compares_72, b_X12_compares_101, b_X12_compares_115, b_X12_compares_129, b_X12_compares_161, f_X12_truth, b_X12_truth_10, h1]
    refine ST.m1 ⟨hT, rS.mk2 (by omega) (by omega) ?_, hY, hD, hQ, hK, rS.mk2 (by omega) (by omega) ?_, hC, hO⟩
    all_goals (intro i hi; try simp only [upd_at])
    all_goals repeat' split
    all_goals first | rfl | exact hf _ (by omega) | exact hh _ (by omega) | (exfalso; omega) | exact absurd trivial (by assumption) | (simp (disch := omega) only [hf, hh]; done)
theorem wd_41 (hR : REL t s y d q k r c o T S R C Y D K Q O) (al st ca ov an th lf st' ca' re en : Int32) : ST (f_X3_carryOutNext t s y d q k r c o (al, st, ca, 41, ov, an)) (f_X12_done 41 T S R C Y D K Q O (th, lf, st', ca', -1, re, en)) al (st + 1) ca ov an th lf st' ca' re en := by
  obtain ⟨hT, ⟨n, f, F, hn, rfl, rfl, hf⟩, hY, hD, hQ, hK, ⟨p, h, G, hp, rfl, rfl, hh⟩, hC, hO⟩ := hR
  rw [dn_ge (by decide) (by decide) hC]
  by_cases h1 : 1 ≤ n
  · simp (decide := true) (disch := omega) only [f_X3_carryOutNext, f_X3_askFirst, b_X3_askFirst_20, b_X3_askFirst_40, Int32.reduceToNatClampNeg, gp_41, fc_41, tk_41, wi_41, od_41, sw_41, b_X12_done_52, b_X12_done_69, f_X12_isStarred, b_X12_isStarred_42, f_X12_wants, f_X12_wantsStore, b_X12_wantsStore_27, L_0, L_1, L_2, L_3, nlt30, cl_nI, nI_lt0, nI_sub1, nI_sub2, nI_sub3, nI_add1, nI_add2, e_30, Nat.sub_sub, Nat.reduceAdd, hf, hh, sb, ck_T, ckn, not_false_eq_true, false_or, Nat.not_le, ite_self, ↓reduceIte, s_from0, s_from1, s_from2, s_drop1, s_drop2, s_put, s_putF, s_room1, s_room1F, s_take, s_rep, s_raise1, s_raise2, w_push, w_pop, f_X3_ofOne, b_X3_ofOne_80, b_X3_ofOne_94, f_X3_truth, f_X12_compares, b_X12_compares_54, b_X12_compares_72, b_X12_compares_101, b_X12_compares_115, b_X12_compares_129, b_X12_compares_161, f_X12_truth, b_X12_truth_10, h1]
    refine ST.m1 ⟨hT, rS.mk2 (by omega) (by omega) ?_, hY, hD, hQ, hK, rS.mk2 (by omega) (by omega) ?_, hC, hO⟩
    all_goals (intro i hi; try simp only [upd_at])
    all_goals repeat' split
    all_goals first | rfl | exact hf _ (by omega) | exact hh _ (by omega) | (exfalso; omega) | exact absurd trivial (by assumption) | (simp (disch := omega) only [hf, hh]; done)
  · simp (decide := true) (disch := omega) only [f_X3_carryOutNext, f_X3_askFirst, b_X3_askFirst_20, b_X3_askFirst_40, Int32.reduceToNatClampNeg, gp_41, fc_41, tk_41, wi_41, od_41, sw_41, b_X12_done_52, b_X12_done_69, f_X12_isStarred, b_X12_isStarred_42, f_X12_wants, f_X12_wantsStore, b_X12_wantsStore_27, L_0, L_1, L_2, L_3, nlt30, cl_nI, nI_lt0, nI_sub1, nI_sub2, nI_sub3, nI_add1, nI_add2, e_30, Nat.sub_sub, Nat.reduceAdd, hf, hh, sb, ck_T, ckn, not_false_eq_true, false_or, Nat.not_le, ite_self, ↓reduceIte, s_from0, s_from1, s_from2, s_drop1, s_drop2, s_put, s_putF, s_room1, s_room1F, s_take, s_rep, s_raise1, s_raise2, w_push, w_pop, f_X3_ofOne, b_X3_ofOne_80, b_X3_ofOne_94, f_X3_truth, f_X12_compares, b_X12_compares_54, b_X12_compares_72, b_X12_compares_101, b_X12_compares_115, b_X12_compares_129, b_X12_compares_161, f_X12_truth, b_X12_truth_10, h1]
    refine ST.m1 ⟨hT, rS.mk2 (by omega) (by omega) ?_, hY, hD, hQ, hK, rS.mk2 (by omega) (by omega) ?_, hC, hO⟩
    all_goals (intro i hi; try simp only [upd_at])
    all_goals repeat' split
    all_goals first | rfl | exact hf _ (by omega) | exact hh _ (by omega) | (exfalso; omega) | exact absurd trivial (by assumption) | (simp (disch := omega) only [hf, hh]; done)
theorem wd_42 (hR : REL t s y d q k r c o T S R C Y D K Q O) (al st ca ov an th lf st' ca' re en : Int32) : ST (f_X3_carryOutNext t s y d q k r c o (al, st, ca, 42, ov, an)) (f_X12_done 42 T S R C Y D K Q O (th, lf, st', ca', -1, re, en)) al (st + 1) ca ov an th lf st' ca' re en := by
  obtain ⟨hT, ⟨n, f, F, hn, rfl, rfl, hf⟩, hY, hD, hQ, hK, ⟨p, h, G, hp, rfl, rfl, hh⟩, hC, hO⟩ := hR
  rw [dn_ge (by decide) (by decide) hC]
  by_cases h1 : 1 ≤ n
  · simp (decide := true) (disch := omega) only [f_X3_carryOutNext, f_X3_askFirst, b_X3_askFirst_20, b_X3_askFirst_40, Int32.reduceToNatClampNeg, gp_42, fc_42, tk_42, wi_42, od_42, sw_42, b_X12_done_52, b_X12_done_69, f_X12_isStarred, b_X12_isStarred_42, f_X12_wants, f_X12_wantsStore, b_X12_wantsStore_27, L_0, L_1, L_2, L_3, nlt30, cl_nI, nI_lt0, nI_sub1, nI_sub2, nI_sub3, nI_add1, nI_add2, e_30, Nat.sub_sub, Nat.reduceAdd, hf, hh, sb, ck_T, ckn, not_false_eq_true, false_or, Nat.not_le, ite_self, ↓reduceIte, s_from0, s_from1, s_from2, s_drop1, s_drop2, s_put, s_putF, s_room1, s_room1F, s_take, s_rep, s_raise1, s_raise2, w_push, w_pop, f_X3_ofOne, b_X3_ofOne_80, b_X3_ofOne_94, f_X3_truth, f_X12_compares, b_X12_compares_54, b_X12_compares_72, b_X12_compares_101, b_X12_compares_115, b_X12_compares_129, b_X12_compares_161, f_X12_truth, b_X12_truth_10, h1]
    refine ST.m1 ⟨hT, rS.mk2 (by omega) (by omega) ?_, hY, hD, hQ, hK, rS.mk2 (by omega) (by omega) ?_, hC, hO⟩
    all_goals (intro i hi; try simp only [upd_at])
    all_goals repeat' split
    all_goals first | rfl | exact hf _ (by omega) | exact hh _ (by omega) | (exfalso; omega) | exact absurd trivial (by assumption) | (simp (disch := omega) only [hf, hh]; done)
  · simp (decide := true) (disch := omega) only [f_X3_carryOutNext, f_X3_askFirst, b_X3_askFirst_20, b_X3_askFirst_40, Int32.reduceToNatClampNeg, gp_42, fc_42, tk_42, wi_42, od_42, sw_42, b_X12_done_52, b_X12_done_69, f_X12_isStarred, b_X12_isStarred_42, f_X12_wants, f_X12_wantsStore, b_X12_wantsStore_27, L_0, L_1, L_2, L_3, nlt30, cl_nI, nI_lt0, nI_sub1, nI_sub2, nI_sub3, nI_add1, nI_add2, e_30, Nat.sub_sub, Nat.reduceAdd, hf, hh, sb, ck_T, ckn, not_false_eq_true, false_or, Nat.not_le, ite_self, ↓reduceIte, s_from0, s_from1, s_from2, s_drop1, s_drop2, s_put, s_putF, s_room1, s_room1F, s_take, s_rep, s_raise1, s_raise2, w_push, w_pop, f_X3_ofOne, b_X3_ofOne_80, b_X3_ofOne_94, f_X3_truth, f_X12_compares, b_X12_compares_54, b_X12_compares_72, b_X12_compares_101, b_X12_compares_115, b_X12_compares_129, b_X12_compares_161, f_X12_truth, b_X12_truth_10, h1]
    refine ST.m1 ⟨hT, rS.mk2 (by omega) (by omega) ?_, hY, hD, hQ, hK, rS.mk2 (by omega) (by omega) ?_, hC, hO⟩
    all_goals (intro i hi; try simp only [upd_at])
    all_goals repeat' split
    all_goals first | rfl | exact hf _ (by omega) | exact hh _ (by omega) | (exfalso; omega) | exact absurd trivial (by assumption) | (simp (disch := omega) only [hf, hh]; done)
theorem wd_43 (hR : REL t s y d q k r c o T S R C Y D K Q O) (al st ca ov an th lf st' ca' re en : Int32) : ST (f_X3_carryOutNext t s y d q k r c o (al, st, ca, 43, ov, an)) (f_X12_done 43 T S R C Y D K Q O (th, lf, st', ca', -1, re, en)) al (st + 1) ca ov an th lf st' ca' re en := by
  obtain ⟨hT, ⟨n, f, F, hn, rfl, rfl, hf⟩, hY, hD, hQ, hK, ⟨p, h, G, hp, rfl, rfl, hh⟩, hC, hO⟩ := hR
  rw [dn_ge (by decide) (by decide) hC]
  by_cases h1 : 1 ≤ n
  · simp (decide := true) (disch := omega) only [f_X3_carryOutNext, f_X3_askFirst, b_X3_askFirst_20, b_X3_askFirst_40, Int32.reduceToNatClampNeg, gp_43, fc_43, tk_43, wi_43, od_43, sw_43, b_X12_done_52, b_X12_done_69, f_X12_isStarred, b_X12_isStarred_42, f_X12_wants, f_X12_wantsStore, b_X12_wantsStore_27, L_0, L_1, L_2, L_3, nlt30, cl_nI, nI_lt0, nI_sub1, nI_sub2, nI_sub3, nI_add1, nI_add2, e_30, Nat.sub_sub, Nat.reduceAdd, hf, hh, sb, ck_T, ckn, not_false_eq_true, false_or, Nat.not_le, ite_self, ↓reduceIte, s_from0, s_from1, s_from2, s_drop1, s_drop2, s_put, s_putF, s_room1, s_room1F, s_take, s_rep, s_raise1, s_raise2, w_push, w_pop, f_X3_ofOne, b_X3_ofOne_80, b_X3_ofOne_94, f_X3_truth, f_X12_compares, b_X12_compares_54, b_X12_compares_72, b_X12_compares_101, b_X12_compares_115, b_X12_compares_129, b_X12_compares_161, f_X12_truth, b_X12_truth_10, shl1, h1]
    refine ST.m1 ⟨hT, rS.mk2 (by omega) (by omega) ?_, hY, hD, hQ, hK, rS.mk2 (by omega) (by omega) ?_, hC, hO⟩
    all_goals (intro i hi; try simp only [upd_at])
    all_goals repeat' split
    all_goals first | rfl | exact hf _ (by omega) | exact hh _ (by omega) | (exfalso; omega) | exact absurd trivial (by assumption) | (simp (disch := omega) only [hf, hh]; done)
  · simp (decide := true) (disch := omega) only [f_X3_carryOutNext, f_X3_askFirst, b_X3_askFirst_20, b_X3_askFirst_40, Int32.reduceToNatClampNeg, gp_43, fc_43, tk_43, wi_43, od_43, sw_43, b_X12_done_52, b_X12_done_69, f_X12_isStarred, b_X12_isStarred_42, f_X12_wants, f_X12_wantsStore, b_X12_wantsStore_27, L_0, L_1, L_2, L_3, nlt30, cl_nI, nI_lt0, nI_sub1, nI_sub2, nI_sub3, nI_add1, nI_add2, e_30, Nat.sub_sub, Nat.reduceAdd, hf, hh, sb, ck_T, ckn, not_false_eq_true, false_or, Nat.not_le, ite_self, ↓reduceIte, s_from0, s_from1, s_from2, s_drop1, s_drop2, s_put, s_putF, s_room1, s_room1F, s_take, s_rep, s_raise1, s_raise2, w_push, w_pop, f_X3_ofOne, b_X3_ofOne_80, b_X3_ofOne_94, f_X3_truth, f_X12_compares, b_X12_compares_54, b_X12_compares_72, b_X12_compares_101, b_X12_compares_115, b_X12_compares_129, b_X12_compares_161, f_X12_truth, b_X12_truth_10, shl1, h1]
    refine ST.m1 ⟨hT, rS.mk2 (by omega) (by omega) ?_, hY, hD, hQ, hK, rS.mk2 (by omega) (by omega) ?_, hC, hO⟩
    all_goals (intro i hi; try simp only [upd_at])
    all_goals repeat' split
    all_goals first | rfl | exact hf _ (by omega) | exact hh _ (by omega) | (exfalso; omega) | exact absurd trivial (by assumption) | (simp (disch := omega) only [hf, hh]; done)
end NUMS
