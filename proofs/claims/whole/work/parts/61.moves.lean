/-! words 8 to 22, but 16 -/
section MOVES
variable {t : tT} {s : tR} {y : tY} {d : tD} {q : tP} {k : tK} {r : tR} {c : tC} {o : tO} {T : mT} {S : mS} {R : mR} {C : mC} {Y : mY} {D : mD} {K : mK} {Q : mP} {O : mO}

theorem wd_8 (hR : REL t s y d q k r c o T S R C Y D K Q O) (al st ca ov an th lf st' ca' re en : Int32) : ST (f_X3_carryOutNext t s y d q k r c o (al, st, ca, 8, ov, an)) (f_X12_done 8 T S R C Y D K Q O (th, lf, st', ca', -1, re, en)) al (st + 1) ca ov an th lf st' ca' re en := by
  obtain ⟨hT, ⟨n, f, F, hn, rfl, rfl, hf⟩, hY, hD, hQ, hK, ⟨p, h, G, hp, rfl, rfl, hh⟩, hC, hO⟩ := hR
  rw [dn_ge (by decide) (by decide) hC]
  by_cases h1 : 1 ≤ n
  · by_cases h2 : n < 30
    · simp (maxSteps := 500000) (decide := true) (disch := omega) only [f_X3_carryOutNext, f_X3_askFirst, b_X3_askFirst_20, b_X3_askFirst_40, Int32.reduceToNatClampNeg, gp_8, fc_8, tk_8, wi_8, od_8, sw_8, b_X12_done_52, b_X12_done_69, f_X12_isStarred, b_X12_isStarred_42, f_X12_wants, f_X12_wantsStore, b_X12_wantsStore_27, L_0, L_1, L_2, L_3, nlt30, cl_nI, nI_lt0, nI_sub1, nI_sub2, nI_sub3, nI_add1, nI_add2, e_30, Nat.sub_sub, Nat.reduceAdd, hf, hh, sb, ck_T, ckn, not_false_eq_true, false_or, Nat.not_le, ite_self, ↓reduceIte, s_from0, s_from1, s_from2, s_drop1, s_drop2, s_put, s_putF, s_room1, s_room1F, s_take, s_rep, s_raise1, s_raise2, w_push, w_pop, f_X3_moveNumbers, f_X12_moves, b_X12_moves_21, h1, h2]
      refine ST.m1 ⟨hT, rS.mk2 (by omega) (by omega) ?_, hY, hD, hQ, hK, rS.mk2 (by omega) (by omega) ?_, hC, hO⟩
      all_goals (intro i hi; try simp only [upd_at])
      all_goals repeat' split
      all_goals first | rfl | exact hf _ (by omega) | exact hh _ (by omega) | (exfalso; omega) | exact absurd trivial (by assumption) | (simp (disch := omega) only [hf, hh]; done)
    · obtain rfl : n = 30 := by omega
      simp (maxSteps := 500000) (decide := true) (disch := omega) only [f_X3_carryOutNext, f_X3_askFirst, b_X3_askFirst_20, b_X3_askFirst_40, Int32.reduceToNatClampNeg, gp_8, fc_8, tk_8, wi_8, od_8, sw_8, b_X12_done_52, b_X12_done_69, f_X12_isStarred, b_X12_isStarred_42, f_X12_wants, f_X12_wantsStore, b_X12_wantsStore_27, L_0, L_1, L_2, L_3, nlt30, cl_nI, nI_lt0, nI_sub1, nI_sub2, nI_sub3, nI_add1, nI_add2, e_30, Nat.sub_sub, Nat.reduceAdd, hf, hh, sb, ck_T, ckn, not_false_eq_true, false_or, Nat.not_le, ite_self, ↓reduceIte, s_from0, s_from1, s_from2, s_drop1, s_drop2, s_put, s_putF, s_room1, s_room1F, s_take, s_rep, s_raise1, s_raise2, w_push, w_pop, f_X3_moveNumbers, f_X12_moves, b_X12_moves_21, h1]
      refine ST.m1 ⟨hT, rS.mk2 (by omega) (by omega) ?_, hY, hD, hQ, hK, rS.mk2 (by omega) (by omega) ?_, hC, hO⟩
      all_goals (intro i hi; try simp only [upd_at])
      all_goals repeat' split
      all_goals first | rfl | exact hf _ (by omega) | exact hh _ (by omega) | (exfalso; omega) | exact absurd trivial (by assumption) | (simp (disch := omega) only [hf, hh]; done)
  · simp (maxSteps := 500000) (decide := true) (disch := omega) only [f_X3_carryOutNext, f_X3_askFirst, b_X3_askFirst_20, b_X3_askFirst_40, Int32.reduceToNatClampNeg, gp_8, fc_8, tk_8, wi_8, od_8, sw_8, b_X12_done_52, b_X12_done_69, f_X12_isStarred, b_X12_isStarred_42, f_X12_wants, f_X12_wantsStore, b_X12_wantsStore_27, L_0, L_1, L_2, L_3, nlt30, cl_nI, nI_lt0, nI_sub1, nI_sub2, nI_sub3, nI_add1, nI_add2, e_30, Nat.sub_sub, Nat.reduceAdd, hf, hh, sb, ck_T, ckn, not_false_eq_true, false_or, Nat.not_le, ite_self, ↓reduceIte, s_from0, s_from1, s_from2, s_drop1, s_drop2, s_put, s_putF, s_room1, s_room1F, s_take, s_rep, s_raise1, s_raise2, w_push, w_pop, f_X3_moveNumbers, f_X12_moves, b_X12_moves_21, h1]
    refine ST.m1 ⟨hT, rS.mk2 (by omega) (by omega) ?_, hY, hD, hQ, hK, rS.mk2 (by omega) (by omega) ?_, hC, hO⟩
    all_goals (intro i hi; try simp only [upd_at])
    all_goals repeat' split
    all_goals first | rfl | exact hf _ (by omega) | exact hh _ (by omega) | (exfalso; omega) | exact absurd trivial (by assumption) | (simp (disch := omega) only [hf, hh]; done)
theorem wd_9 (hR : REL t s y d q k r c o T S R C Y D K Q O) (al st ca ov an th lf st' ca' re en : Int32) : ST (f_X3_carryOutNext t s y d q k r c o (al, st, ca, 9, ov, an)) (f_X12_done 9 T S R C Y D K Q O (th, lf, st', ca', -1, re, en)) al (st + 1) ca ov an th lf st' ca' re en := by
  obtain ⟨hT, ⟨n, f, F, hn, rfl, rfl, hf⟩, hY, hD, hQ, hK, ⟨p, h, G, hp, rfl, rfl, hh⟩, hC, hO⟩ := hR
  rw [dn_ge (by decide) (by decide) hC]
  by_cases h1 : 1 ≤ n
  · simp (maxSteps := 500000) (decide := true) (disch := omega) only [f_X3_carryOutNext, f_X3_askFirst, b_X3_askFirst_20, b_X3_askFirst_40, Int32.reduceToNatClampNeg, gp_9, fc_9, tk_9, wi_9, od_9, sw_9, b_X12_done_52, b_X12_done_69, f_X12_isStarred, b_X12_isStarred_42, f_X12_wants, f_X12_wantsStore, b_X12_wantsStore_27, L_0, L_1, L_2, L_3, nlt30, cl_nI, nI_lt0, nI_sub1, nI_sub2, nI_sub3, nI_add1, nI_add2, e_30, Nat.sub_sub, Nat.reduceAdd, hf, hh, sb, ck_T, ckn, not_false_eq_true, false_or, Nat.not_le, ite_self, ↓reduceIte, s_from0, s_from1, s_from2, s_drop1, s_drop2, s_put, s_putF, s_room1, s_room1F, s_take, s_rep, s_raise1, s_raise2, w_push, w_pop, f_X3_moveNumbers, f_X12_moves, b_X12_moves_21, h1]
    refine ST.m1 ⟨hT, rS.mk2 (by omega) (by omega) ?_, hY, hD, hQ, hK, rS.mk2 (by omega) (by omega) ?_, hC, hO⟩
    all_goals (intro i hi; try simp only [upd_at])
    all_goals repeat' split
    all_goals first | rfl | exact hf _ (by omega) | exact hh _ (by omega) | (exfalso; omega) | exact absurd trivial (by assumption) | (simp (disch := omega) only [hf, hh]; done)
  · simp (maxSteps := 500000) (decide := true) (disch := omega) only [f_X3_carryOutNext, f_X3_askFirst, b_X3_askFirst_20, b_X3_askFirst_40, Int32.reduceToNatClampNeg, gp_9, fc_9, tk_9, wi_9, od_9, sw_9, b_X12_done_52, b_X12_done_69, f_X12_isStarred, b_X12_isStarred_42, f_X12_wants, f_X12_wantsStore, b_X12_wantsStore_27, L_0, L_1, L_2, L_3, nlt30, cl_nI, nI_lt0, nI_sub1, nI_sub2, nI_sub3, nI_add1, nI_add2, e_30, Nat.sub_sub, Nat.reduceAdd, hf, hh, sb, ck_T, ckn, not_false_eq_true, false_or, Nat.not_le, ite_self, ↓reduceIte, s_from0, s_from1, s_from2, s_drop1, s_drop2, s_put, s_putF, s_room1, s_room1F, s_take, s_rep, s_raise1, s_raise2, w_push, w_pop, f_X3_moveNumbers, f_X12_moves, b_X12_moves_21, h1]
    refine ST.m1 ⟨hT, rS.mk2 (by omega) (by omega) ?_, hY, hD, hQ, hK, rS.mk2 (by omega) (by omega) ?_, hC, hO⟩
    all_goals (intro i hi; try simp only [upd_at])
    all_goals repeat' split
    all_goals first | rfl | exact hf _ (by omega) | exact hh _ (by omega) | (exfalso; omega) | exact absurd trivial (by assumption) | (simp (disch := omega) only [hf, hh]; done)
theorem wd_10 (hR : REL t s y d q k r c o T S R C Y D K Q O) (al st ca ov an th lf st' ca' re en : Int32) : ST (f_X3_carryOutNext t s y d q k r c o (al, st, ca, 10, ov, an)) (f_X12_done 10 T S R C Y D K Q O (th, lf, st', ca', -1, re, en)) al (st + 1) ca ov an th lf st' ca' re en := by
  obtain ⟨hT, ⟨n, f, F, hn, rfl, rfl, hf⟩, hY, hD, hQ, hK, ⟨p, h, G, hp, rfl, rfl, hh⟩, hC, hO⟩ := hR
  rw [dn_ge (by decide) (by decide) hC]
  by_cases h1 : 2 ≤ n
  · simp (maxSteps := 500000) (decide := true) (disch := omega) only [f_X3_carryOutNext, f_X3_askFirst, b_X3_askFirst_20, b_X3_askFirst_40, Int32.reduceToNatClampNeg, gp_10, fc_10, tk_10, wi_10, od_10, sw_10, b_X12_done_52, b_X12_done_69, f_X12_isStarred, b_X12_isStarred_42, f_X12_wants, f_X12_wantsStore, b_X12_wantsStore_27, L_0, L_1, L_2, L_3, nlt30, cl_nI, nI_lt0, nI_sub1, nI_sub2, nI_sub3, nI_add1, nI_add2, e_30, Nat.sub_sub, Nat.reduceAdd, hf, hh, sb, ck_T, ckn, not_false_eq_true, false_or, Nat.not_le, ite_self, ↓reduceIte, s_from0, s_from1, s_from2, s_drop1, s_drop2, s_put, s_putF, s_room1, s_room1F, s_take, s_rep, s_raise1, s_raise2, w_push, w_pop, f_X3_moveNumbers, f_X12_moves, b_X12_moves_21, f_X12_swap, h1]
    refine ST.m1 ⟨hT, rS.mk2 (by omega) (by omega) ?_, hY, hD, hQ, hK, rS.mk2 (by omega) (by omega) ?_, hC, hO⟩
    all_goals (intro i hi; try simp only [upd_at])
    all_goals repeat' split
    all_goals first | rfl | exact hf _ (by omega) | exact hh _ (by omega) | (exfalso; omega) | exact absurd trivial (by assumption) | (simp (disch := omega) only [hf, hh]; done)
  · simp (maxSteps := 500000) (decide := true) (disch := omega) only [f_X3_carryOutNext, f_X3_askFirst, b_X3_askFirst_20, b_X3_askFirst_40, Int32.reduceToNatClampNeg, gp_10, fc_10, tk_10, wi_10, od_10, sw_10, b_X12_done_52, b_X12_done_69, f_X12_isStarred, b_X12_isStarred_42, f_X12_wants, f_X12_wantsStore, b_X12_wantsStore_27, L_0, L_1, L_2, L_3, nlt30, cl_nI, nI_lt0, nI_sub1, nI_sub2, nI_sub3, nI_add1, nI_add2, e_30, Nat.sub_sub, Nat.reduceAdd, hf, hh, sb, ck_T, ckn, not_false_eq_true, false_or, Nat.not_le, ite_self, ↓reduceIte, s_from0, s_from1, s_from2, s_drop1, s_drop2, s_put, s_putF, s_room1, s_room1F, s_take, s_rep, s_raise1, s_raise2, w_push, w_pop, f_X3_moveNumbers, f_X12_moves, b_X12_moves_21, f_X12_swap, h1]
    refine ST.m1 ⟨hT, rS.mk2 (by omega) (by omega) ?_, hY, hD, hQ, hK, rS.mk2 (by omega) (by omega) ?_, hC, hO⟩
    all_goals (intro i hi; try simp only [upd_at])
    all_goals repeat' split
    all_goals first | rfl | exact hf _ (by omega) | exact hh _ (by omega) | (exfalso; omega) | exact absurd trivial (by assumption) | (simp (disch := omega) only [hf, hh]; done)
theorem wd_11 (hR : REL t s y d q k r c o T S R C Y D K Q O) (al st ca ov an th lf st' ca' re en : Int32) : ST (f_X3_carryOutNext t s y d q k r c o (al, st, ca, 11, ov, an)) (f_X12_done 11 T S R C Y D K Q O (th, lf, st', ca', -1, re, en)) al (st + 1) ca ov an th lf st' ca' re en := by
  obtain ⟨hT, ⟨n, f, F, hn, rfl, rfl, hf⟩, hY, hD, hQ, hK, ⟨p, h, G, hp, rfl, rfl, hh⟩, hC, hO⟩ := hR
  rw [dn_ge (by decide) (by decide) hC]
  by_cases h1 : 2 ≤ n
  · by_cases h2 : n < 30
    · simp (maxSteps := 500000) (decide := true) (disch := omega) only [f_X3_carryOutNext, f_X3_askFirst, b_X3_askFirst_20, b_X3_askFirst_40, Int32.reduceToNatClampNeg, gp_11, fc_11, tk_11, wi_11, od_11, sw_11, b_X12_done_52, b_X12_done_69, f_X12_isStarred, b_X12_isStarred_42, f_X12_wants, f_X12_wantsStore, b_X12_wantsStore_27, L_0, L_1, L_2, L_3, nlt30, cl_nI, nI_lt0, nI_sub1, nI_sub2, nI_sub3, nI_add1, nI_add2, e_30, Nat.sub_sub, Nat.reduceAdd, hf, hh, sb, ck_T, ckn, not_false_eq_true, false_or, Nat.not_le, ite_self, ↓reduceIte, s_from0, s_from1, s_from2, s_drop1, s_drop2, s_put, s_putF, s_room1, s_room1F, s_take, s_rep, s_raise1, s_raise2, w_push, w_pop, f_X3_moveNumbers, f_X12_moves, b_X12_moves_21, h1, h2]
      refine ST.m1 ⟨hT, rS.mk2 (by omega) (by omega) ?_, hY, hD, hQ, hK, rS.mk2 (by omega) (by omega) ?_, hC, hO⟩
      all_goals (intro i hi; try simp only [upd_at])
      all_goals repeat' split
      all_goals first | rfl | exact hf _ (by omega) | exact hh _ (by omega) | (exfalso; omega) | exact absurd trivial (by assumption) | (simp (disch := omega) only [hf, hh]; done)
    · obtain rfl : n = 30 := by omega
      simp (maxSteps := 500000) (decide := true) (disch := omega) only [f_X3_carryOutNext, f_X3_askFirst, b_X3_askFirst_20, b_X3_askFirst_40, Int32.reduceToNatClampNeg, gp_11, fc_11, tk_11, wi_11, od_11, sw_11, b_X12_done_52, b_X12_done_69, f_X12_isStarred, b_X12_isStarred_42, f_X12_wants, f_X12_wantsStore, b_X12_wantsStore_27, L_0, L_1, L_2, L_3, nlt30, cl_nI, nI_lt0, nI_sub1, nI_sub2, nI_sub3, nI_add1, nI_add2, e_30, Nat.sub_sub, Nat.reduceAdd, hf, hh, sb, ck_T, ckn, not_false_eq_true, false_or, Nat.not_le, ite_self, ↓reduceIte, s_from0, s_from1, s_from2, s_drop1, s_drop2, s_put, s_putF, s_room1, s_room1F, s_take, s_rep, s_raise1, s_raise2, w_push, w_pop, f_X3_moveNumbers, f_X12_moves, b_X12_moves_21, h1]
      refine ST.m1 ⟨hT, rS.mk2 (by omega) (by omega) ?_, hY, hD, hQ, hK, rS.mk2 (by omega) (by omega) ?_, hC, hO⟩
      all_goals (intro i hi; try simp only [upd_at])
      all_goals repeat' split
      all_goals first | rfl | exact hf _ (by omega) | exact hh _ (by omega) | (exfalso; omega) | exact absurd trivial (by assumption) | (simp (disch := omega) only [hf, hh]; done)
  · simp (maxSteps := 500000) (decide := true) (disch := omega) only [f_X3_carryOutNext, f_X3_askFirst, b_X3_askFirst_20, b_X3_askFirst_40, Int32.reduceToNatClampNeg, gp_11, fc_11, tk_11, wi_11, od_11, sw_11, b_X12_done_52, b_X12_done_69, f_X12_isStarred, b_X12_isStarred_42, f_X12_wants, f_X12_wantsStore, b_X12_wantsStore_27, L_0, L_1, L_2, L_3, nlt30, cl_nI, nI_lt0, nI_sub1, nI_sub2, nI_sub3, nI_add1, nI_add2, e_30, Nat.sub_sub, Nat.reduceAdd, hf, hh, sb, ck_T, ckn, not_false_eq_true, false_or, Nat.not_le, ite_self, ↓reduceIte, s_from0, s_from1, s_from2, s_drop1, s_drop2, s_put, s_putF, s_room1, s_room1F, s_take, s_rep, s_raise1, s_raise2, w_push, w_pop, f_X3_moveNumbers, f_X12_moves, b_X12_moves_21, h1]
    refine ST.m1 ⟨hT, rS.mk2 (by omega) (by omega) ?_, hY, hD, hQ, hK, rS.mk2 (by omega) (by omega) ?_, hC, hO⟩
    all_goals (intro i hi; try simp only [upd_at])
    all_goals repeat' split
    all_goals first | rfl | exact hf _ (by omega) | exact hh _ (by omega) | (exfalso; omega) | exact absurd trivial (by assumption) | (simp (disch := omega) only [hf, hh]; done)
theorem wd_12 (hR : REL t s y d q k r c o T S R C Y D K Q O) (al st ca ov an th lf st' ca' re en : Int32) : ST (f_X3_carryOutNext t s y d q k r c o (al, st, ca, 12, ov, an)) (f_X12_done 12 T S R C Y D K Q O (th, lf, st', ca', -1, re, en)) al (st + 1) ca ov an th lf st' ca' re en := by
  obtain ⟨hT, ⟨n, f, F, hn, rfl, rfl, hf⟩, hY, hD, hQ, hK, ⟨p, h, G, hp, rfl, rfl, hh⟩, hC, hO⟩ := hR
  rw [dn_ge (by decide) (by decide) hC]
  by_cases h1 : 3 ≤ n
  · simp (maxSteps := 500000) (decide := true) (disch := omega) only [f_X3_carryOutNext, f_X3_askFirst, b_X3_askFirst_20, b_X3_askFirst_40, Int32.reduceToNatClampNeg, gp_12, fc_12, tk_12, wi_12, od_12, sw_12, b_X12_done_52, b_X12_done_69, f_X12_isStarred, b_X12_isStarred_42, f_X12_wants, f_X12_wantsStore, b_X12_wantsStore_27, L_0, L_1, L_2, L_3, nlt30, cl_nI, nI_lt0, nI_sub1, nI_sub2, nI_sub3, nI_add1, nI_add2, e_30, Nat.sub_sub, Nat.reduceAdd, hf, hh, sb, ck_T, ckn, not_false_eq_true, false_or, Nat.not_le, ite_self, ↓reduceIte, s_from0, s_from1, s_from2, s_drop1, s_drop2, s_put, s_putF, s_room1, s_room1F, s_take, s_rep, s_raise1, s_raise2, w_push, w_pop, f_X3_moveNumbers, f_X12_moves, b_X12_moves_21, f_X12_swap, h1]
    refine ST.m1 ⟨hT, rS.mk2 (by omega) (by omega) ?_, hY, hD, hQ, hK, rS.mk2 (by omega) (by omega) ?_, hC, hO⟩
    all_goals (intro i hi; try simp only [upd_at])
    all_goals repeat' split
    all_goals first | rfl | exact hf _ (by omega) | exact hh _ (by omega) | (exfalso; omega) | exact absurd trivial (by assumption) | (simp (disch := omega) only [hf, hh]; done)
  · simp (maxSteps := 500000) (decide := true) (disch := omega) only [f_X3_carryOutNext, f_X3_askFirst, b_X3_askFirst_20, b_X3_askFirst_40, Int32.reduceToNatClampNeg, gp_12, fc_12, tk_12, wi_12, od_12, sw_12, b_X12_done_52, b_X12_done_69, f_X12_isStarred, b_X12_isStarred_42, f_X12_wants, f_X12_wantsStore, b_X12_wantsStore_27, L_0, L_1, L_2, L_3, nlt30, cl_nI, nI_lt0, nI_sub1, nI_sub2, nI_sub3, nI_add1, nI_add2, e_30, Nat.sub_sub, Nat.reduceAdd, hf, hh, sb, ck_T, ckn, not_false_eq_true, false_or, Nat.not_le, ite_self, ↓reduceIte, s_from0, s_from1, s_from2, s_drop1, s_drop2, s_put, s_putF, s_room1, s_room1F, s_take, s_rep, s_raise1, s_raise2, w_push, w_pop, f_X3_moveNumbers, f_X12_moves, b_X12_moves_21, f_X12_swap, h1]
    refine ST.m1 ⟨hT, rS.mk2 (by omega) (by omega) ?_, hY, hD, hQ, hK, rS.mk2 (by omega) (by omega) ?_, hC, hO⟩
    all_goals (intro i hi; try simp only [upd_at])
    all_goals repeat' split
    all_goals first | rfl | exact hf _ (by omega) | exact hh _ (by omega) | (exfalso; omega) | exact absurd trivial (by assumption) | (simp (disch := omega) only [hf, hh]; done)
theorem wd_13 (hR : REL t s y d q k r c o T S R C Y D K Q O) (al st ca ov an th lf st' ca' re en : Int32) : ST (f_X3_carryOutNext t s y d q k r c o (al, st, ca, 13, ov, an)) (f_X12_done 13 T S R C Y D K Q O (th, lf, st', ca', -1, re, en)) al (st + 1) ca ov an th lf st' ca' re en := by
  obtain ⟨hT, ⟨n, f, F, hn, rfl, rfl, hf⟩, hY, hD, hQ, hK, ⟨p, h, G, hp, rfl, rfl, hh⟩, hC, hO⟩ := hR
  rw [dn_ge (by decide) (by decide) hC]
  by_cases h1 : 2 ≤ n
  · simp (maxSteps := 500000) (decide := true) (disch := omega) only [f_X3_carryOutNext, f_X3_askFirst, b_X3_askFirst_20, b_X3_askFirst_40, Int32.reduceToNatClampNeg, gp_13, fc_13, tk_13, wi_13, od_13, sw_13, b_X12_done_52, b_X12_done_69, f_X12_isStarred, b_X12_isStarred_42, f_X12_wants, f_X12_wantsStore, b_X12_wantsStore_27, L_0, L_1, L_2, L_3, nlt30, cl_nI, nI_lt0, nI_sub1, nI_sub2, nI_sub3, nI_add1, nI_add2, e_30, Nat.sub_sub, Nat.reduceAdd, hf, hh, sb, ck_T, ckn, not_false_eq_true, false_or, Nat.not_le, ite_self, ↓reduceIte, s_from0, s_from1, s_from2, s_drop1, s_drop2, s_put, s_putF, s_room1, s_room1F, s_take, s_rep, s_raise1, s_raise2, w_push, w_pop, f_X3_moveNumbers, f_X12_moves, b_X12_moves_21, h1]
    refine ST.m1 ⟨hT, rS.mk2 (by omega) (by omega) ?_, hY, hD, hQ, hK, rS.mk2 (by omega) (by omega) ?_, hC, hO⟩
    all_goals (intro i hi; try simp only [upd_at])
    all_goals repeat' split
    all_goals first | rfl | exact hf _ (by omega) | exact hh _ (by omega) | (exfalso; omega) | exact absurd trivial (by assumption) | (simp (disch := omega) only [hf, hh]; done)
  · simp (maxSteps := 500000) (decide := true) (disch := omega) only [f_X3_carryOutNext, f_X3_askFirst, b_X3_askFirst_20, b_X3_askFirst_40, Int32.reduceToNatClampNeg, gp_13, fc_13, tk_13, wi_13, od_13, sw_13, b_X12_done_52, b_X12_done_69, f_X12_isStarred, b_X12_isStarred_42, f_X12_wants, f_X12_wantsStore, b_X12_wantsStore_27, L_0, L_1, L_2, L_3, nlt30, cl_nI, nI_lt0, nI_sub1, nI_sub2, nI_sub3, nI_add1, nI_add2, e_30, Nat.sub_sub, Nat.reduceAdd, hf, hh, sb, ck_T, ckn, not_false_eq_true, false_or, Nat.not_le, ite_self, ↓reduceIte, s_from0, s_from1, s_from2, s_drop1, s_drop2, s_put, s_putF, s_room1, s_room1F, s_take, s_rep, s_raise1, s_raise2, w_push, w_pop, f_X3_moveNumbers, f_X12_moves, b_X12_moves_21, h1]
    refine ST.m1 ⟨hT, rS.mk2 (by omega) (by omega) ?_, hY, hD, hQ, hK, rS.mk2 (by omega) (by omega) ?_, hC, hO⟩
    all_goals (intro i hi; try simp only [upd_at])
    all_goals repeat' split
    all_goals first | rfl | exact hf _ (by omega) | exact hh _ (by omega) | (exfalso; omega) | exact absurd trivial (by assumption) | (simp (disch := omega) only [hf, hh]; done)
theorem wd_14 (hR : REL t s y d q k r c o T S R C Y D K Q O) (al st ca ov an th lf st' ca' re en : Int32) : ST (f_X3_carryOutNext t s y d q k r c o (al, st, ca, 14, ov, an)) (f_X12_done 14 T S R C Y D K Q O (th, lf, st', ca', -1, re, en)) al (st + 1) ca ov an th lf st' ca' re en := by
  obtain ⟨hT, ⟨n, f, F, hn, rfl, rfl, hf⟩, hY, hD, hQ, hK, ⟨p, h, G, hp, rfl, rfl, hh⟩, hC, hO⟩ := hR
  rw [dn_ge (by decide) (by decide) hC]
  by_cases h1 : 1 ≤ n
  · by_cases hv : f (n - 1) = 0
    · simp (maxSteps := 500000) (decide := true) (disch := omega) only [f_X3_carryOutNext, f_X3_askFirst, b_X3_askFirst_20, b_X3_askFirst_40, Int32.reduceToNatClampNeg, gp_14, fc_14, tk_14, wi_14, od_14, sw_14, b_X12_done_52, b_X12_done_69, f_X12_isStarred, b_X12_isStarred_42, f_X12_wants, f_X12_wantsStore, b_X12_wantsStore_27, L_0, L_1, L_2, L_3, nlt30, cl_nI, nI_lt0, nI_sub1, nI_sub2, nI_sub3, nI_add1, nI_add2, e_30, Nat.sub_sub, Nat.reduceAdd, hf, hh, sb, ck_T, ckn, not_false_eq_true, false_or, Nat.not_le, ite_self, ↓reduceIte, s_from0, s_from1, s_from2, s_drop1, s_drop2, s_put, s_putF, s_room1, s_room1F, s_take, s_rep, s_raise1, s_raise2, w_push, w_pop, f_X3_moveNumbers, f_X12_moves, b_X12_moves_21, h1, hv]
      refine ST.m1 ⟨hT, rS.mk2 (by omega) (by omega) ?_, hY, hD, hQ, hK, rS.mk2 (by omega) (by omega) ?_, hC, hO⟩
      all_goals (intro i hi; try simp only [upd_at])
      all_goals repeat' split
      all_goals first | rfl | exact hf _ (by omega) | exact hh _ (by omega) | (exfalso; omega) | exact absurd trivial (by assumption) | (simp (disch := omega) only [hf, hh]; done)
    · by_cases h2 : n < 30
      · simp (maxSteps := 500000) (decide := true) (disch := omega) only [f_X3_carryOutNext, f_X3_askFirst, b_X3_askFirst_20, b_X3_askFirst_40, Int32.reduceToNatClampNeg, gp_14, fc_14, tk_14, wi_14, od_14, sw_14, b_X12_done_52, b_X12_done_69, f_X12_isStarred, b_X12_isStarred_42, f_X12_wants, f_X12_wantsStore, b_X12_wantsStore_27, L_0, L_1, L_2, L_3, nlt30, cl_nI, nI_lt0, nI_sub1, nI_sub2, nI_sub3, nI_add1, nI_add2, e_30, Nat.sub_sub, Nat.reduceAdd, hf, hh, sb, ck_T, ckn, not_false_eq_true, false_or, Nat.not_le, ite_self, ↓reduceIte, s_from0, s_from1, s_from2, s_drop1, s_drop2, s_put, s_putF, s_room1, s_room1F, s_take, s_rep, s_raise1, s_raise2, w_push, w_pop, f_X3_moveNumbers, f_X12_moves, b_X12_moves_21, h1, hv, h2]
        refine ST.m1 ⟨hT, rS.mk2 (by omega) (by omega) ?_, hY, hD, hQ, hK, rS.mk2 (by omega) (by omega) ?_, hC, hO⟩
        all_goals (intro i hi; try simp only [upd_at])
        all_goals repeat' split
        all_goals first | rfl | exact hf _ (by omega) | exact hh _ (by omega) | (exfalso; omega) | exact absurd trivial (by assumption) | (simp (disch := omega) only [hf, hh]; done)
      · obtain rfl : n = 30 := by omega
        simp (maxSteps := 500000) (decide := true) (disch := omega) only [f_X3_carryOutNext, f_X3_askFirst, b_X3_askFirst_20, b_X3_askFirst_40, Int32.reduceToNatClampNeg, gp_14, fc_14, tk_14, wi_14, od_14, sw_14, b_X12_done_52, b_X12_done_69, f_X12_isStarred, b_X12_isStarred_42, f_X12_wants, f_X12_wantsStore, b_X12_wantsStore_27, L_0, L_1, L_2, L_3, nlt30, cl_nI, nI_lt0, nI_sub1, nI_sub2, nI_sub3, nI_add1, nI_add2, e_30, Nat.sub_sub, Nat.reduceAdd, hf, hh, sb, ck_T, ckn, not_false_eq_true, false_or, Nat.not_le, ite_self, ↓reduceIte, s_from0, s_from1, s_from2, s_drop1, s_drop2, s_put, s_putF, s_room1, s_room1F, s_take, s_rep, s_raise1, s_raise2, w_push, w_pop, f_X3_moveNumbers, f_X12_moves, b_X12_moves_21, h1, hv]
        refine ST.m1 ⟨hT, rS.mk2 (by omega) (by omega) ?_, hY, hD, hQ, hK, rS.mk2 (by omega) (by omega) ?_, hC, hO⟩
        all_goals (intro i hi; try simp only [upd_at])
        all_goals repeat' split
        all_goals first | rfl | exact hf _ (by omega) | exact hh _ (by omega) | (exfalso; omega) | exact absurd trivial (by assumption) | (simp (disch := omega) only [hf, hh]; done)
  · simp (maxSteps := 500000) (decide := true) (disch := omega) only [f_X3_carryOutNext, f_X3_askFirst, b_X3_askFirst_20, b_X3_askFirst_40, Int32.reduceToNatClampNeg, gp_14, fc_14, tk_14, wi_14, od_14, sw_14, b_X12_done_52, b_X12_done_69, f_X12_isStarred, b_X12_isStarred_42, f_X12_wants, f_X12_wantsStore, b_X12_wantsStore_27, L_0, L_1, L_2, L_3, nlt30, cl_nI, nI_lt0, nI_sub1, nI_sub2, nI_sub3, nI_add1, nI_add2, e_30, Nat.sub_sub, Nat.reduceAdd, hf, hh, sb, ck_T, ckn, not_false_eq_true, false_or, Nat.not_le, ite_self, ↓reduceIte, s_from0, s_from1, s_from2, s_drop1, s_drop2, s_put, s_putF, s_room1, s_room1F, s_take, s_rep, s_raise1, s_raise2, w_push, w_pop, f_X3_moveNumbers, f_X12_moves, b_X12_moves_21, h1]
    refine ST.m1 ⟨hT, rS.mk2 (by omega) (by omega) ?_, hY, hD, hQ, hK, rS.mk2 (by omega) (by omega) ?_, hC, hO⟩
    all_goals (intro i hi; try simp only [upd_at])
    all_goals repeat' split
    all_goals first | rfl | exact hf _ (by omega) | exact hh _ (by omega) | (exfalso; omega) | exact absurd trivial (by assumption) | (simp (disch := omega) only [hf, hh]; done)
theorem wd_15 (hR : REL t s y d q k r c o T S R C Y D K Q O) (al st ca ov an th lf st' ca' re en : Int32) : ST (f_X3_carryOutNext t s y d q k r c o (al, st, ca, 15, ov, an)) (f_X12_done 15 T S R C Y D K Q O (th, lf, st', ca', -1, re, en)) al (st + 1) ca ov an th lf st' ca' re en := by
  obtain ⟨hT, ⟨n, f, F, hn, rfl, rfl, hf⟩, hY, hD, hQ, hK, ⟨p, h, G, hp, rfl, rfl, hh⟩, hC, hO⟩ := hR
  rw [dn_ge (by decide) (by decide) hC]
  by_cases h2 : n < 30
  · simp (maxSteps := 500000) (decide := true) (disch := omega) only [f_X3_carryOutNext, f_X3_askFirst, b_X3_askFirst_20, b_X3_askFirst_40, Int32.reduceToNatClampNeg, gp_15, fc_15, tk_15, wi_15, od_15, sw_15, b_X12_done_52, b_X12_done_69, f_X12_isStarred, b_X12_isStarred_42, f_X12_wants, f_X12_wantsStore, b_X12_wantsStore_27, L_0, L_1, L_2, L_3, nlt30, cl_nI, nI_lt0, nI_sub1, nI_sub2, nI_sub3, nI_add1, nI_add2, e_30, Nat.sub_sub, Nat.reduceAdd, hf, hh, sb, ck_T, ckn, not_false_eq_true, false_or, Nat.not_le, ite_self, ↓reduceIte, s_from0, s_from1, s_from2, s_drop1, s_drop2, s_put, s_putF, s_room1, s_room1F, s_take, s_rep, s_raise1, s_raise2, w_push, w_pop, f_X3_moveNumbers, f_X12_moves, b_X12_moves_21, h2]
    refine ST.m1 ⟨hT, rS.mk2 (by omega) (by omega) ?_, hY, hD, hQ, hK, rS.mk2 (by omega) (by omega) ?_, hC, hO⟩
    all_goals (intro i hi; try simp only [upd_at])
    all_goals repeat' split
    all_goals first | rfl | exact hf _ (by omega) | exact hh _ (by omega) | (exfalso; omega) | exact absurd trivial (by assumption) | (simp (disch := omega) only [hf, hh]; done)
  · obtain rfl : n = 30 := by omega
    simp (maxSteps := 500000) (decide := true) (disch := omega) only [f_X3_carryOutNext, f_X3_askFirst, b_X3_askFirst_20, b_X3_askFirst_40, Int32.reduceToNatClampNeg, gp_15, fc_15, tk_15, wi_15, od_15, sw_15, b_X12_done_52, b_X12_done_69, f_X12_isStarred, b_X12_isStarred_42, f_X12_wants, f_X12_wantsStore, b_X12_wantsStore_27, L_0, L_1, L_2, L_3, nlt30, cl_nI, nI_lt0, nI_sub1, nI_sub2, nI_sub3, nI_add1, nI_add2, e_30, Nat.sub_sub, Nat.reduceAdd, hf, hh, sb, ck_T, ckn, not_false_eq_true, false_or, Nat.not_le, ite_self, ↓reduceIte, s_from0, s_from1, s_from2, s_drop1, s_drop2, s_put, s_putF, s_room1, s_room1F, s_take, s_rep, s_raise1, s_raise2, w_push, w_pop, f_X3_moveNumbers, f_X12_moves, b_X12_moves_21]
    refine ST.m1 ⟨hT, rS.mk2 (by omega) (by omega) ?_, hY, hD, hQ, hK, rS.mk2 (by omega) (by omega) ?_, hC, hO⟩
    all_goals (intro i hi; try simp only [upd_at])
    all_goals repeat' split
    all_goals first | rfl | exact hf _ (by omega) | exact hh _ (by omega) | (exfalso; omega) | exact absurd trivial (by assumption) | (simp (disch := omega) only [hf, hh]; done)
theorem wd_17 (hR : REL t s y d q k r c o T S R C Y D K Q O) (al st ca ov an th lf st' ca' re en : Int32) : ST (f_X3_carryOutNext t s y d q k r c o (al, st, ca, 17, ov, an)) (f_X12_done 17 T S R C Y D K Q O (th, lf, st', ca', -1, re, en)) al (st + 1) ca ov an th lf st' ca' re en := by
  obtain ⟨hT, ⟨n, f, F, hn, rfl, rfl, hf⟩, hY, hD, hQ, hK, ⟨p, h, G, hp, rfl, rfl, hh⟩, hC, hO⟩ := hR
  rw [dn_ge (by decide) (by decide) hC]
  by_cases h1 : 1 ≤ n
  · by_cases h4 : p < 30
    · simp (maxSteps := 500000) (decide := true) (disch := omega) only [f_X3_carryOutNext, f_X3_askFirst, b_X3_askFirst_20, b_X3_askFirst_40, Int32.reduceToNatClampNeg, gp_17, fc_17, tk_17, wi_17, od_17, sw_17, b_X12_done_52, b_X12_done_69, f_X12_isStarred, b_X12_isStarred_42, f_X12_wants, f_X12_wantsStore, b_X12_wantsStore_27, L_0, L_1, L_2, L_3, nlt30, cl_nI, nI_lt0, nI_sub1, nI_sub2, nI_sub3, nI_add1, nI_add2, e_30, Nat.sub_sub, Nat.reduceAdd, hf, hh, sb, ck_T, ckn, not_false_eq_true, false_or, Nat.not_le, ite_self, ↓reduceIte, s_from0, s_from1, s_from2, s_drop1, s_drop2, s_put, s_putF, s_room1, s_room1F, s_take, s_rep, s_raise1, s_raise2, w_push, w_pop, f_X3_moveNumbers, f_X12_moves, b_X12_moves_21, f_X3_useStore, f_X12_stores, h1, h4]
      refine ST.m1 ⟨hT, rS.mk2 (by omega) (by omega) ?_, hY, hD, hQ, hK, rS.mk2 (by omega) (by omega) ?_, hC, hO⟩
      all_goals (intro i hi; try simp only [upd_at])
      all_goals repeat' split
      all_goals first | rfl | exact hf _ (by omega) | exact hh _ (by omega) | (exfalso; omega) | exact absurd trivial (by assumption) | (simp (disch := omega) only [hf, hh]; done)
    · obtain rfl : p = 30 := by omega
      simp (maxSteps := 500000) (decide := true) (disch := omega) only [f_X3_carryOutNext, f_X3_askFirst, b_X3_askFirst_20, b_X3_askFirst_40, Int32.reduceToNatClampNeg, gp_17, fc_17, tk_17, wi_17, od_17, sw_17, b_X12_done_52, b_X12_done_69, f_X12_isStarred, b_X12_isStarred_42, f_X12_wants, f_X12_wantsStore, b_X12_wantsStore_27, L_0, L_1, L_2, L_3, nlt30, cl_nI, nI_lt0, nI_sub1, nI_sub2, nI_sub3, nI_add1, nI_add2, e_30, Nat.sub_sub, Nat.reduceAdd, hf, hh, sb, ck_T, ckn, not_false_eq_true, false_or, Nat.not_le, ite_self, ↓reduceIte, s_from0, s_from1, s_from2, s_drop1, s_drop2, s_put, s_putF, s_room1, s_room1F, s_take, s_rep, s_raise1, s_raise2, w_push, w_pop, f_X3_moveNumbers, f_X12_moves, b_X12_moves_21, f_X3_useStore, f_X12_stores, h1]
      refine ST.m1 ⟨hT, rS.mk2 (by omega) (by omega) ?_, hY, hD, hQ, hK, rS.mk2 (by omega) (by omega) ?_, hC, hO⟩
      all_goals (intro i hi; try simp only [upd_at])
      all_goals repeat' split
      all_goals first | rfl | exact hf _ (by omega) | exact hh _ (by omega) | (exfalso; omega) | exact absurd trivial (by assumption) | (simp (disch := omega) only [hf, hh]; done)
  · simp (maxSteps := 500000) (decide := true) (disch := omega) only [f_X3_carryOutNext, f_X3_askFirst, b_X3_askFirst_20, b_X3_askFirst_40, Int32.reduceToNatClampNeg, gp_17, fc_17, tk_17, wi_17, od_17, sw_17, b_X12_done_52, b_X12_done_69, f_X12_isStarred, b_X12_isStarred_42, f_X12_wants, f_X12_wantsStore, b_X12_wantsStore_27, L_0, L_1, L_2, L_3, nlt30, cl_nI, nI_lt0, nI_sub1, nI_sub2, nI_sub3, nI_add1, nI_add2, e_30, Nat.sub_sub, Nat.reduceAdd, hf, hh, sb, ck_T, ckn, not_false_eq_true, false_or, Nat.not_le, ite_self, ↓reduceIte, s_from0, s_from1, s_from2, s_drop1, s_drop2, s_put, s_putF, s_room1, s_room1F, s_take, s_rep, s_raise1, s_raise2, w_push, w_pop, f_X3_moveNumbers, f_X12_moves, b_X12_moves_21, f_X3_useStore, f_X12_stores, h1]
    refine ST.m1 ⟨hT, rS.mk2 (by omega) (by omega) ?_, hY, hD, hQ, hK, rS.mk2 (by omega) (by omega) ?_, hC, hO⟩
    all_goals (intro i hi; try simp only [upd_at])
    all_goals repeat' split
    all_goals first | rfl | exact hf _ (by omega) | exact hh _ (by omega) | (exfalso; omega) | exact absurd trivial (by assumption) | (simp (disch := omega) only [hf, hh]; done)
theorem wd_18 (hR : REL t s y d q k r c o T S R C Y D K Q O) (al st ca ov an th lf st' ca' re en : Int32) : ST (f_X3_carryOutNext t s y d q k r c o (al, st, ca, 18, ov, an)) (f_X12_done 18 T S R C Y D K Q O (th, lf, st', ca', -1, re, en)) al (st + 1) ca ov an th lf st' ca' re en := by
  obtain ⟨hT, ⟨n, f, F, hn, rfl, rfl, hf⟩, hY, hD, hQ, hK, ⟨p, h, G, hp, rfl, rfl, hh⟩, hC, hO⟩ := hR
  rw [dn_ge (by decide) (by decide) hC]
  by_cases h3 : 1 ≤ p
  · by_cases h2 : n < 30
    · simp (maxSteps := 500000) (decide := true) (disch := omega) only [f_X3_carryOutNext, f_X3_askFirst, b_X3_askFirst_20, b_X3_askFirst_40, Int32.reduceToNatClampNeg, gp_18, fc_18, tk_18, wi_18, od_18, sw_18, b_X12_done_52, b_X12_done_69, f_X12_isStarred, b_X12_isStarred_42, f_X12_wants, f_X12_wantsStore, b_X12_wantsStore_27, L_0, L_1, L_2, L_3, nlt30, cl_nI, nI_lt0, nI_sub1, nI_sub2, nI_sub3, nI_add1, nI_add2, e_30, Nat.sub_sub, Nat.reduceAdd, hf, hh, sb, ck_T, ckn, not_false_eq_true, false_or, Nat.not_le, ite_self, ↓reduceIte, s_from0, s_from1, s_from2, s_drop1, s_drop2, s_put, s_putF, s_room1, s_room1F, s_take, s_rep, s_raise1, s_raise2, w_push, w_pop, f_X3_moveNumbers, f_X12_moves, b_X12_moves_21, f_X3_useStore, f_X12_stores, h3, h2]
      refine ST.m1 ⟨hT, rS.mk2 (by omega) (by omega) ?_, hY, hD, hQ, hK, rS.mk2 (by omega) (by omega) ?_, hC, hO⟩
      all_goals (intro i hi; try simp only [upd_at])
      all_goals repeat' split
      all_goals first | rfl | exact hf _ (by omega) | exact hh _ (by omega) | (exfalso; omega) | exact absurd trivial (by assumption) | (simp (disch := omega) only [hf, hh]; done)
    · obtain rfl : n = 30 := by omega
      simp (maxSteps := 500000) (decide := true) (disch := omega) only [f_X3_carryOutNext, f_X3_askFirst, b_X3_askFirst_20, b_X3_askFirst_40, Int32.reduceToNatClampNeg, gp_18, fc_18, tk_18, wi_18, od_18, sw_18, b_X12_done_52, b_X12_done_69, f_X12_isStarred, b_X12_isStarred_42, f_X12_wants, f_X12_wantsStore, b_X12_wantsStore_27, L_0, L_1, L_2, L_3, nlt30, cl_nI, nI_lt0, nI_sub1, nI_sub2, nI_sub3, nI_add1, nI_add2, e_30, Nat.sub_sub, Nat.reduceAdd, hf, hh, sb, ck_T, ckn, not_false_eq_true, false_or, Nat.not_le, ite_self, ↓reduceIte, s_from0, s_from1, s_from2, s_drop1, s_drop2, s_put, s_putF, s_room1, s_room1F, s_take, s_rep, s_raise1, s_raise2, w_push, w_pop, f_X3_moveNumbers, f_X12_moves, b_X12_moves_21, f_X3_useStore, f_X12_stores, h3]
      refine ST.m1 ⟨hT, rS.mk2 (by omega) (by omega) ?_, hY, hD, hQ, hK, rS.mk2 (by omega) (by omega) ?_, hC, hO⟩
      all_goals (intro i hi; try simp only [upd_at])
      all_goals repeat' split
      all_goals first | rfl | exact hf _ (by omega) | exact hh _ (by omega) | (exfalso; omega) | exact absurd trivial (by assumption) | (simp (disch := omega) only [hf, hh]; done)
  · simp (maxSteps := 500000) (decide := true) (disch := omega) only [f_X3_carryOutNext, f_X3_askFirst, b_X3_askFirst_20, b_X3_askFirst_40, Int32.reduceToNatClampNeg, gp_18, fc_18, tk_18, wi_18, od_18, sw_18, b_X12_done_52, b_X12_done_69, f_X12_isStarred, b_X12_isStarred_42, f_X12_wants, f_X12_wantsStore, b_X12_wantsStore_27, L_0, L_1, L_2, L_3, nlt30, cl_nI, nI_lt0, nI_sub1, nI_sub2, nI_sub3, nI_add1, nI_add2, e_30, Nat.sub_sub, Nat.reduceAdd, hf, hh, sb, ck_T, ckn, not_false_eq_true, false_or, Nat.not_le, ite_self, ↓reduceIte, s_from0, s_from1, s_from2, s_drop1, s_drop2, s_put, s_putF, s_room1, s_room1F, s_take, s_rep, s_raise1, s_raise2, w_push, w_pop, f_X3_moveNumbers, f_X12_moves, b_X12_moves_21, f_X3_useStore, f_X12_stores, h3]
    refine ST.m1 ⟨hT, rS.mk2 (by omega) (by omega) ?_, hY, hD, hQ, hK, rS.mk2 (by omega) (by omega) ?_, hC, hO⟩
    all_goals (intro i hi; try simp only [upd_at])
    all_goals repeat' split
    all_goals first | rfl | exact hf _ (by omega) | exact hh _ (by omega) | (exfalso; omega) | exact absurd trivial (by assumption) | (simp (disch := omega) only [hf, hh]; done)
theorem wd_19 (hR : REL t s y d q k r c o T S R C Y D K Q O) (al st ca ov an th lf st' ca' re en : Int32) : ST (f_X3_carryOutNext t s y d q k r c o (al, st, ca, 19, ov, an)) (f_X12_done 19 T S R C Y D K Q O (th, lf, st', ca', -1, re, en)) al (st + 1) ca ov an th lf st' ca' re en := by
  obtain ⟨hT, ⟨n, f, F, hn, rfl, rfl, hf⟩, hY, hD, hQ, hK, ⟨p, h, G, hp, rfl, rfl, hh⟩, hC, hO⟩ := hR
  rw [dn_ge (by decide) (by decide) hC]
  by_cases h3 : 1 ≤ p
  · by_cases h2 : n < 30
    · simp (maxSteps := 500000) (decide := true) (disch := omega) only [f_X3_carryOutNext, f_X3_askFirst, b_X3_askFirst_20, b_X3_askFirst_40, Int32.reduceToNatClampNeg, gp_19, fc_19, tk_19, wi_19, od_19, sw_19, b_X12_done_52, b_X12_done_69, f_X12_isStarred, b_X12_isStarred_42, f_X12_wants, f_X12_wantsStore, b_X12_wantsStore_27, L_0, L_1, L_2, L_3, nlt30, cl_nI, nI_lt0, nI_sub1, nI_sub2, nI_sub3, nI_add1, nI_add2, e_30, Nat.sub_sub, Nat.reduceAdd, hf, hh, sb, ck_T, ckn, not_false_eq_true, false_or, Nat.not_le, ite_self, ↓reduceIte, s_from0, s_from1, s_from2, s_drop1, s_drop2, s_put, s_putF, s_room1, s_room1F, s_take, s_rep, s_raise1, s_raise2, w_push, w_pop, f_X3_moveNumbers, f_X12_moves, b_X12_moves_21, f_X3_useStore, f_X12_stores, h3, h2]
      refine ST.m1 ⟨hT, rS.mk2 (by omega) (by omega) ?_, hY, hD, hQ, hK, rS.mk2 (by omega) (by omega) ?_, hC, hO⟩
      all_goals (intro i hi; try simp only [upd_at])
      all_goals repeat' split
      all_goals first | rfl | exact hf _ (by omega) | exact hh _ (by omega) | (exfalso; omega) | exact absurd trivial (by assumption) | (simp (disch := omega) only [hf, hh]; done)
    · obtain rfl : n = 30 := by omega
      simp (maxSteps := 500000) (decide := true) (disch := omega) only [f_X3_carryOutNext, f_X3_askFirst, b_X3_askFirst_20, b_X3_askFirst_40, Int32.reduceToNatClampNeg, gp_19, fc_19, tk_19, wi_19, od_19, sw_19, b_X12_done_52, b_X12_done_69, f_X12_isStarred, b_X12_isStarred_42, f_X12_wants, f_X12_wantsStore, b_X12_wantsStore_27, L_0, L_1, L_2, L_3, nlt30, cl_nI, nI_lt0, nI_sub1, nI_sub2, nI_sub3, nI_add1, nI_add2, e_30, Nat.sub_sub, Nat.reduceAdd, hf, hh, sb, ck_T, ckn, not_false_eq_true, false_or, Nat.not_le, ite_self, ↓reduceIte, s_from0, s_from1, s_from2, s_drop1, s_drop2, s_put, s_putF, s_room1, s_room1F, s_take, s_rep, s_raise1, s_raise2, w_push, w_pop, f_X3_moveNumbers, f_X12_moves, b_X12_moves_21, f_X3_useStore, f_X12_stores, h3]
      refine ST.m1 ⟨hT, rS.mk2 (by omega) (by omega) ?_, hY, hD, hQ, hK, rS.mk2 (by omega) (by omega) ?_, hC, hO⟩
      all_goals (intro i hi; try simp only [upd_at])
      all_goals repeat' split
      all_goals first | rfl | exact hf _ (by omega) | exact hh _ (by omega) | (exfalso; omega) | exact absurd trivial (by assumption) | (simp (disch := omega) only [hf, hh]; done)
  · simp (maxSteps := 500000) (decide := true) (disch := omega) only [f_X3_carryOutNext, f_X3_askFirst, b_X3_askFirst_20, b_X3_askFirst_40, Int32.reduceToNatClampNeg, gp_19, fc_19, tk_19, wi_19, od_19, sw_19, b_X12_done_52, b_X12_done_69, f_X12_isStarred, b_X12_isStarred_42, f_X12_wants, f_X12_wantsStore, b_X12_wantsStore_27, L_0, L_1, L_2, L_3, nlt30, cl_nI, nI_lt0, nI_sub1, nI_sub2, nI_sub3, nI_add1, nI_add2, e_30, Nat.sub_sub, Nat.reduceAdd, hf, hh, sb, ck_T, ckn, not_false_eq_true, false_or, Nat.not_le, ite_self, ↓reduceIte, s_from0, s_from1, s_from2, s_drop1, s_drop2, s_put, s_putF, s_room1, s_room1F, s_take, s_rep, s_raise1, s_raise2, w_push, w_pop, f_X3_moveNumbers, f_X12_moves, b_X12_moves_21, f_X3_useStore, f_X12_stores, h3]
    refine ST.m1 ⟨hT, rS.mk2 (by omega) (by omega) ?_, hY, hD, hQ, hK, rS.mk2 (by omega) (by omega) ?_, hC, hO⟩
    all_goals (intro i hi; try simp only [upd_at])
    all_goals repeat' split
    all_goals first | rfl | exact hf _ (by omega) | exact hh _ (by omega) | (exfalso; omega) | exact absurd trivial (by assumption) | (simp (disch := omega) only [hf, hh]; done)
theorem wd_20 (hR : REL t s y d q k r c o T S R C Y D K Q O) (al st ca ov an th lf st' ca' re en : Int32) : ST (f_X3_carryOutNext t s y d q k r c o (al, st, ca, 20, ov, an)) (f_X12_done 20 T S R C Y D K Q O (th, lf, st', ca', -1, re, en)) al (st + 1) ca ov an th lf st' ca' re en := by
  obtain ⟨hT, ⟨n, f, F, hn, rfl, rfl, hf⟩, hY, hD, hQ, hK, ⟨p, h, G, hp, rfl, rfl, hh⟩, hC, hO⟩ := hR
  rw [dn_ge (by decide) (by decide) hC]
  by_cases h3 : 1 ≤ p
  · by_cases h2 : n < 30
    · simp (maxSteps := 500000) (decide := true) (disch := omega) only [f_X3_carryOutNext, f_X3_askFirst, b_X3_askFirst_20, b_X3_askFirst_40, Int32.reduceToNatClampNeg, gp_20, fc_20, tk_20, wi_20, od_20, sw_20, b_X12_done_52, b_X12_done_69, f_X12_isStarred, b_X12_isStarred_42, f_X12_wants, f_X12_wantsStore, b_X12_wantsStore_27, L_0, L_1, L_2, L_3, nlt30, cl_nI, nI_lt0, nI_sub1, nI_sub2, nI_sub3, nI_add1, nI_add2, e_30, Nat.sub_sub, Nat.reduceAdd, hf, hh, sb, ck_T, ckn, not_false_eq_true, false_or, Nat.not_le, ite_self, ↓reduceIte, s_from0, s_from1, s_from2, s_drop1, s_drop2, s_put, s_putF, s_room1, s_room1F, s_take, s_rep, s_raise1, s_raise2, w_push, w_pop, f_X3_moveNumbers, f_X12_moves, b_X12_moves_21, f_X3_useStore, f_X12_stores, h3, h2]
      refine ST.m1 ⟨hT, rS.mk2 (by omega) (by omega) ?_, hY, hD, hQ, hK, rS.mk2 (by omega) (by omega) ?_, hC, hO⟩
      all_goals (intro i hi; try simp only [upd_at])
      all_goals repeat' split
      all_goals first | rfl | exact hf _ (by omega) | exact hh _ (by omega) | (exfalso; omega) | exact absurd trivial (by assumption) | (simp (disch := omega) only [hf, hh]; done)
    · obtain rfl : n = 30 := by omega
      simp (maxSteps := 500000) (decide := true) (disch := omega) only [f_X3_carryOutNext, f_X3_askFirst, b_X3_askFirst_20, b_X3_askFirst_40, Int32.reduceToNatClampNeg, gp_20, fc_20, tk_20, wi_20, od_20, sw_20, b_X12_done_52, b_X12_done_69, f_X12_isStarred, b_X12_isStarred_42, f_X12_wants, f_X12_wantsStore, b_X12_wantsStore_27, L_0, L_1, L_2, L_3, nlt30, cl_nI, nI_lt0, nI_sub1, nI_sub2, nI_sub3, nI_add1, nI_add2, e_30, Nat.sub_sub, Nat.reduceAdd, hf, hh, sb, ck_T, ckn, not_false_eq_true, false_or, Nat.not_le, ite_self, ↓reduceIte, s_from0, s_from1, s_from2, s_drop1, s_drop2, s_put, s_putF, s_room1, s_room1F, s_take, s_rep, s_raise1, s_raise2, w_push, w_pop, f_X3_moveNumbers, f_X12_moves, b_X12_moves_21, f_X3_useStore, f_X12_stores, h3]
      refine ST.m1 ⟨hT, rS.mk2 (by omega) (by omega) ?_, hY, hD, hQ, hK, rS.mk2 (by omega) (by omega) ?_, hC, hO⟩
      all_goals (intro i hi; try simp only [upd_at])
      all_goals repeat' split
      all_goals first | rfl | exact hf _ (by omega) | exact hh _ (by omega) | (exfalso; omega) | exact absurd trivial (by assumption) | (simp (disch := omega) only [hf, hh]; done)
  · simp (maxSteps := 500000) (decide := true) (disch := omega) only [f_X3_carryOutNext, f_X3_askFirst, b_X3_askFirst_20, b_X3_askFirst_40, Int32.reduceToNatClampNeg, gp_20, fc_20, tk_20, wi_20, od_20, sw_20, b_X12_done_52, b_X12_done_69, f_X12_isStarred, b_X12_isStarred_42, f_X12_wants, f_X12_wantsStore, b_X12_wantsStore_27, L_0, L_1, L_2, L_3, nlt30, cl_nI, nI_lt0, nI_sub1, nI_sub2, nI_sub3, nI_add1, nI_add2, e_30, Nat.sub_sub, Nat.reduceAdd, hf, hh, sb, ck_T, ckn, not_false_eq_true, false_or, Nat.not_le, ite_self, ↓reduceIte, s_from0, s_from1, s_from2, s_drop1, s_drop2, s_put, s_putF, s_room1, s_room1F, s_take, s_rep, s_raise1, s_raise2, w_push, w_pop, f_X3_moveNumbers, f_X12_moves, b_X12_moves_21, f_X3_useStore, f_X12_stores, h3]
    refine ST.m1 ⟨hT, rS.mk2 (by omega) (by omega) ?_, hY, hD, hQ, hK, rS.mk2 (by omega) (by omega) ?_, hC, hO⟩
    all_goals (intro i hi; try simp only [upd_at])
    all_goals repeat' split
    all_goals first | rfl | exact hf _ (by omega) | exact hh _ (by omega) | (exfalso; omega) | exact absurd trivial (by assumption) | (simp (disch := omega) only [hf, hh]; done)
theorem wd_21 (hR : REL t s y d q k r c o T S R C Y D K Q O) (al st ca ov an th lf st' ca' re en : Int32) : ST (f_X3_carryOutNext t s y d q k r c o (al, st, ca, 21, ov, an)) (f_X12_done 21 T S R C Y D K Q O (th, lf, st', ca', -1, re, en)) al (st + 1) ca ov an th lf st' ca' re en := by
  obtain ⟨hT, ⟨n, f, F, hn, rfl, rfl, hf⟩, hY, hD, hQ, hK, ⟨p, h, G, hp, rfl, rfl, hh⟩, hC, hO⟩ := hR
  rw [dn_ge (by decide) (by decide) hC]
  by_cases h3 : 3 ≤ p
  · by_cases h2 : n < 30
    · simp (maxSteps := 500000) (decide := true) (disch := omega) only [f_X3_carryOutNext, f_X3_askFirst, b_X3_askFirst_20, b_X3_askFirst_40, Int32.reduceToNatClampNeg, gp_21, fc_21, tk_21, wi_21, od_21, sw_21, b_X12_done_52, b_X12_done_69, f_X12_isStarred, b_X12_isStarred_42, f_X12_wants, f_X12_wantsStore, b_X12_wantsStore_27, L_0, L_1, L_2, L_3, nlt30, cl_nI, nI_lt0, nI_sub1, nI_sub2, nI_sub3, nI_add1, nI_add2, e_30, Nat.sub_sub, Nat.reduceAdd, hf, hh, sb, ck_T, ckn, not_false_eq_true, false_or, Nat.not_le, ite_self, ↓reduceIte, s_from0, s_from1, s_from2, s_drop1, s_drop2, s_put, s_putF, s_room1, s_room1F, s_take, s_rep, s_raise1, s_raise2, w_push, w_pop, f_X3_moveNumbers, f_X12_moves, b_X12_moves_21, f_X3_useStore, f_X12_stores, h3, h2]
      refine ST.m1 ⟨hT, rS.mk2 (by omega) (by omega) ?_, hY, hD, hQ, hK, rS.mk2 (by omega) (by omega) ?_, hC, hO⟩
      all_goals (intro i hi; try simp only [upd_at])
      all_goals repeat' split
      all_goals first | rfl | exact hf _ (by omega) | exact hh _ (by omega) | (exfalso; omega) | exact absurd trivial (by assumption) | (simp (disch := omega) only [hf, hh]; done)
    · obtain rfl : n = 30 := by omega
      simp (maxSteps := 500000) (decide := true) (disch := omega) only [f_X3_carryOutNext, f_X3_askFirst, b_X3_askFirst_20, b_X3_askFirst_40, Int32.reduceToNatClampNeg, gp_21, fc_21, tk_21, wi_21, od_21, sw_21, b_X12_done_52, b_X12_done_69, f_X12_isStarred, b_X12_isStarred_42, f_X12_wants, f_X12_wantsStore, b_X12_wantsStore_27, L_0, L_1, L_2, L_3, nlt30, cl_nI, nI_lt0, nI_sub1, nI_sub2, nI_sub3, nI_add1, nI_add2, e_30, Nat.sub_sub, Nat.reduceAdd, hf, hh, sb, ck_T, ckn, not_false_eq_true, false_or, Nat.not_le, ite_self, ↓reduceIte, s_from0, s_from1, s_from2, s_drop1, s_drop2, s_put, s_putF, s_room1, s_room1F, s_take, s_rep, s_raise1, s_raise2, w_push, w_pop, f_X3_moveNumbers, f_X12_moves, b_X12_moves_21, f_X3_useStore, f_X12_stores, h3]
      refine ST.m1 ⟨hT, rS.mk2 (by omega) (by omega) ?_, hY, hD, hQ, hK, rS.mk2 (by omega) (by omega) ?_, hC, hO⟩
      all_goals (intro i hi; try simp only [upd_at])
      all_goals repeat' split
      all_goals first | rfl | exact hf _ (by omega) | exact hh _ (by omega) | (exfalso; omega) | exact absurd trivial (by assumption) | (simp (disch := omega) only [hf, hh]; done)
  · simp (maxSteps := 500000) (decide := true) (disch := omega) only [f_X3_carryOutNext, f_X3_askFirst, b_X3_askFirst_20, b_X3_askFirst_40, Int32.reduceToNatClampNeg, gp_21, fc_21, tk_21, wi_21, od_21, sw_21, b_X12_done_52, b_X12_done_69, f_X12_isStarred, b_X12_isStarred_42, f_X12_wants, f_X12_wantsStore, b_X12_wantsStore_27, L_0, L_1, L_2, L_3, nlt30, cl_nI, nI_lt0, nI_sub1, nI_sub2, nI_sub3, nI_add1, nI_add2, e_30, Nat.sub_sub, Nat.reduceAdd, hf, hh, sb, ck_T, ckn, not_false_eq_true, false_or, Nat.not_le, ite_self, ↓reduceIte, s_from0, s_from1, s_from2, s_drop1, s_drop2, s_put, s_putF, s_room1, s_room1F, s_take, s_rep, s_raise1, s_raise2, w_push, w_pop, f_X3_moveNumbers, f_X12_moves, b_X12_moves_21, f_X3_useStore, f_X12_stores, h3]
    refine ST.m1 ⟨hT, rS.mk2 (by omega) (by omega) ?_, hY, hD, hQ, hK, rS.mk2 (by omega) (by omega) ?_, hC, hO⟩
    all_goals (intro i hi; try simp only [upd_at])
    all_goals repeat' split
    all_goals first | rfl | exact hf _ (by omega) | exact hh _ (by omega) | (exfalso; omega) | exact absurd trivial (by assumption) | (simp (disch := omega) only [hf, hh]; done)
theorem wd_22 (hR : REL t s y d q k r c o T S R C Y D K Q O) (al st ca ov an th lf st' ca' re en : Int32) : ST (f_X3_carryOutNext t s y d q k r c o (al, st, ca, 22, ov, an)) (f_X12_done 22 T S R C Y D K Q O (th, lf, st', ca', -1, re, en)) al (st + 1) ca ov an th lf st' ca' re en := by
  obtain ⟨hT, ⟨n, f, F, hn, rfl, rfl, hf⟩, hY, hD, hQ, hK, ⟨p, h, G, hp, rfl, rfl, hh⟩, hC, hO⟩ := hR
  rw [dn_ge (by decide) (by decide) hC]
  by_cases h3 : 2 ≤ p
  · simp (maxSteps := 500000) (decide := true) (disch := omega) only [f_X3_carryOutNext, f_X3_askFirst, b_X3_askFirst_20, b_X3_askFirst_40, Int32.reduceToNatClampNeg, gp_22, fc_22, tk_22, wi_22, od_22, sw_22, b_X12_done_52, b_X12_done_69, f_X12_isStarred, b_X12_isStarred_42, f_X12_wants, f_X12_wantsStore, b_X12_wantsStore_27, L_0, L_1, L_2, L_3, nlt30, cl_nI, nI_lt0, nI_sub1, nI_sub2, nI_sub3, nI_add1, nI_add2, e_30, Nat.sub_sub, Nat.reduceAdd, hf, hh, sb, ck_T, ckn, not_false_eq_true, false_or, Nat.not_le, ite_self, ↓reduceIte, s_from0, s_from1, s_from2, s_drop1, s_drop2, s_put, s_putF, s_room1, s_room1F, s_take, s_rep, s_raise1, s_raise2, w_push, w_pop, f_X3_moveNumbers, f_X12_moves, b_X12_moves_21, f_X3_useStore, f_X12_stores, h3]
    refine ST.m1 ⟨hT, rS.mk2 (by omega) (by omega) ?_, hY, hD, hQ, hK, rS.mk2 (by omega) (by omega) ?_, hC, hO⟩
    all_goals (intro i hi; try simp only [upd_at])
    all_goals repeat' split
    all_goals first | rfl | exact hf _ (by omega) | exact hh _ (by omega) | (exfalso; omega) | exact absurd trivial (by assumption) | (simp (disch := omega) only [hf, hh]; done)
  · simp (maxSteps := 500000) (decide := true) (disch := omega) only [f_X3_carryOutNext, f_X3_askFirst, b_X3_askFirst_20, b_X3_askFirst_40, Int32.reduceToNatClampNeg, gp_22, fc_22, tk_22, wi_22, od_22, sw_22, b_X12_done_52, b_X12_done_69, f_X12_isStarred, b_X12_isStarred_42, f_X12_wants, f_X12_wantsStore, b_X12_wantsStore_27, L_0, L_1, L_2, L_3, nlt30, cl_nI, nI_lt0, nI_sub1, nI_sub2, nI_sub3, nI_add1, nI_add2, e_30, Nat.sub_sub, Nat.reduceAdd, hf, hh, sb, ck_T, ckn, not_false_eq_true, false_or, Nat.not_le, ite_self, ↓reduceIte, s_from0, s_from1, s_from2, s_drop1, s_drop2, s_put, s_putF, s_room1, s_room1F, s_take, s_rep, s_raise1, s_raise2, w_push, w_pop, f_X3_moveNumbers, f_X12_moves, b_X12_moves_21, f_X3_useStore, f_X12_stores, h3]
    refine ST.m1 ⟨hT, rS.mk2 (by omega) (by omega) ?_, hY, hD, hQ, hK, rS.mk2 (by omega) (by omega) ?_, hC, hO⟩
    all_goals (intro i hi; try simp only [upd_at])
    all_goals repeat' split
    all_goals first | rfl | exact hf _ (by omega) | exact hh _ (by omega) | (exfalso; omega) | exact absurd trivial (by assumption) | (simp (disch := omega) only [hf, hh]; done)
end MOVES
