/-! calls: facts -/
section CALLS
variable {l : Nat} {pa ic ns nr PA HS HR : Nat → Int32}
theorem rC.same (hl : l ≤ 30) (hc : ∀ i, i < l → rC1 pa ic ns nr PA HS HR i) : rC (nI l, pa, ic, ns, nr) (nI l, PA, HS, HR) := ⟨l, pa, ic, ns, nr, PA, HS, HR, hl, rfl, rfl, hc⟩
theorem rC.back (hl : l ≤ 30) (hc : ∀ i, i < l → rC1 pa ic ns nr PA HS HR i) : rC (nI (l - 1), pa, ic, ns, nr) (nI (l - 1), PA, HS, HR) := rC.same (by omega) fun i hi => hc i (by omega)
theorem rC.go (hl : l ≤ 30) (hz : ¬ l = 0) (i1 : ic (l - 1) = 0) (i2 : HS (l - 1) = -1) (hc : ∀ i, i < l → rC1 pa ic ns nr PA HS HR i) {v : Int32} : rC (nI l, upd pa (l - 1) v, ic, ns, nr) (nI l, upd PA (l - 1) v, HS, HR) := rC.same hl fun i hi => by
  by_cases q : i = l - 1
  · subst q; exact .inl ⟨i1, i2, by rw [upd_at, upd_at, if_pos rfl, if_pos rfl]⟩
  · rcases hc i hi with ⟨j1, j2, j3⟩ | j
    · exact .inl ⟨j1, j2, by rw [upd_at, upd_at, if_neg q, if_neg q]; exact j3⟩
    · exact .inr j
theorem rC.call (hl : l < 30) (hc : ∀ i, i < l → rC1 pa ic ns nr PA HS HR i) {v w : Int32} : rC (nI (l + 1), upd pa l v, upd ic l 0, ns, nr) (nI (l + 1), upd PA l v, upd HS l (-1), upd HR l w) := rC.same (by omega) fun i hi => by
  by_cases q : i = l
  · subst q; exact .inl ⟨by rw [upd_at, if_pos rfl], by rw [upd_at, if_pos rfl], by rw [upd_at, upd_at, if_pos rfl, if_pos rfl]⟩
  · rcases hc i (by omega) with ⟨j1, j2, j3⟩ | ⟨j1, u, v', hu, hv, j2, j3, j4, j5⟩
    · exact .inl ⟨by rw [upd_at, if_neg q]; exact j1, by rw [upd_at, if_neg q]; exact j2, by rw [upd_at, upd_at, if_neg q, if_neg q]; exact j3⟩
    · exact .inr ⟨by rw [upd_at, if_neg q]; exact j1, u, v', hu, hv, j2, by rw [upd_at, if_neg q]; exact j3, j4, by rw [upd_at, if_neg q]; exact j5⟩
theorem rC.catc (hl : l < 30) (hc : ∀ i, i < l → rC1 pa ic ns nr PA HS HR i) {x : Int32} {u v : Nat} (hu : u ≤ 29) (hv : v ≤ 30) : rC (nI (l + 1), pa, upd ic l 1, upd ns l (nI u), upd nr l (nI v)) (nI (l + 1), upd PA l x, upd HS l (nI u), upd HR l (nI v)) := rC.same (by omega) fun i hi => by
  by_cases q : i = l
  · subst q; exact .inr ⟨by rw [upd_at, if_pos rfl], u, v, hu, hv, by rw [upd_at, if_pos rfl], by rw [upd_at, if_pos rfl], by rw [upd_at, if_pos rfl], by rw [upd_at, if_pos rfl]⟩
  · rcases hc i (by omega) with ⟨j1, j2, j3⟩ | ⟨j1, u', v', hu', hv', j2, j3, j4, j5⟩
    · exact .inl ⟨by rw [upd_at, if_neg q]; exact j1, by rw [upd_at, if_neg q]; exact j2, by rw [upd_at, if_neg q]; exact j3⟩
    · exact .inr ⟨by rw [upd_at, if_neg q]; exact j1, u', v', hu', hv', by rw [upd_at, if_neg q]; exact j2, by rw [upd_at, if_neg q]; exact j3, by rw [upd_at, if_neg q]; exact j4, by rw [upd_at, if_neg q]; exact j5⟩
end CALLS
theorem s_room2 {n : Nat} {er : Int32} {f : Nat → Int32} (hn : n ≤ 30) : f_X8_hasRoom 2 er (nI n, f) = some (if n ≤ 28 then 1 else 0) := by
  rw [show ((2 : Int32)) = nI 2 from rfl, v_hasRoom hn 2 (by omega)]
  by_cases q : n ≤ 28
  · rw [if_pos q, if_pos (by omega)]
  · rw [if_neg q, if_neg (by omega)]
theorem U28 {n : Nat} (h : n < 2 ^ 31) : (nI n ≤ (28 : Int32)) = (n ≤ 28) := propext ⟨fun q => Nat.not_lt.mp fun z => absurd q (show ¬ nI n ≤ (28 : Int32) from nI_ge (a := 28) z h), fun q => nI_le (b := 28) q (by omega)⟩
section DICT
variable {e : Nat} {bg : Int32} {le ln pl so be im fi : Nat → Int32}
theorem rD.same (he : e ≤ 40) (hbg : mkf e fi = 1 → bg = pl (e - 1)) (hW : WD e ln pl so be im fi) : rD (nI e, le, ln, pl, so, be, im, fi) (nI e, mkf e fi, bg, pl, so, be, im, fi, le, ln) := ⟨e, bg, le, ln, pl, so, be, im, fi, he, rfl, rfl, hbg, hW⟩
theorem rD.beh (he : e ≤ 40) (hbg : mkf e fi = 1 → bg = pl (e - 1)) (hW : WD e ln pl so be im fi) {u : Nat} (hu : u ≤ 400) : rD (nI e, le, ln, pl, so, upd be (e - 1) (nI u), im, fi) (nI e, mkf e fi, bg, pl, so, upd be (e - 1) (nI u), im, fi, le, ln) := rD.same he hbg fun i hi => by
  obtain ⟨w1, w2, w3⟩ := hW i hi
  refine ⟨w1, ?_, w3⟩
  rw [upd_at]
  by_cases q : i = e - 1
  · rw [if_pos q]; exact .inr ⟨u, hu, rfl⟩
  · rw [if_neg q]; exact w2
end DICT
/-! words 0 to 7 -/
section INNER
variable {t : tT} {s : tR} {y : tY} {d : tD} {q : tP} {k : tK} {r : tR} {c : tC} {o : tO} {T : mT} {S : mS} {R : mR} {C : mC} {Y : mY} {D : mD} {K : mK} {Q : mP} {O : mO}

theorem wd_0 (hR : REL t s y d q k r c o T S R C Y D K Q O) (al st ca ov an th lf st' ca' re en : Int32) : ST (f_X3_carryOutNext t s y d q k r c o (al, st, ca, 0, ov, an)) (f_X12_done 0 T S R C Y D K Q O (th, lf, st', ca', -1, re, en)) al (st + 1) ca ov an th lf st' ca' re en := by
  obtain ⟨hT, ⟨n, f, F, hn, rfl, rfl, hf⟩, hY, hD, hQ, hK, ⟨p, h, G, hp, rfl, rfl, hh⟩, hC, hO⟩ := hR
  obtain ⟨l, pa, ic, ns, nr, PA, HS, HR, hl, rfl, rfl, hc⟩ := hC
  obtain ⟨rfl, a, z, ha, rfl⟩ := hY
  by_cases hz : l = 0
  · subst hz
    simp (maxSteps := 500000) (decide := true) (disch := omega) only [f_X3_carryOutNext, f_X3_askFirst, b_X3_askFirst_20, b_X3_askFirst_40, Int32.reduceToNatClampNeg, gp_0, fc_0, tk_0, wi_0, od_0, sw_0, b_X12_done_52, b_X12_done_69, f_X12_isStarred, b_X12_isStarred_42, f_X12_wants, f_X12_wantsStore, b_X12_wantsStore_27, L_0, L_1, L_2, L_3, nlt30, cl_nI, nI_lt0, nI_sub1, nI_sub2, nI_sub3, nI_add1, nI_add2, e_30, Nat.sub_sub, Nat.reduceAdd, hf, hh, sb, ck_T, ckn, not_false_eq_true, false_or, Nat.not_le, ite_self, ↓reduceIte, s_from0, s_from1, s_from2, s_drop1, s_drop2, s_put, s_putF, s_room1, s_room1F, s_take, s_rep, s_raise1, s_raise2, w_push, w_pop, f_X12_done, b_X12_done_40, b_X12_done_41, f_X3_carryOutInner, f_X3_useNumberBehind, f_X3_putAndPass, b_X3_useNumberBehind_98, b_X3_useNumberBehind_122, b_X3_useNumberBehind_152, f_X3_loopEnds, b_X3_loopEnds_31, b_X3_loopEnds_40, f_X3_enterLoop, s_room2, U28, f_X5_isCell, v_at, v_cCall, v_cPlace, v_cGo, v_cBack, f_X12_inner, b_X12_inner_290, b_X12_inner_268, b_X12_inner_241, b_X12_inner_260, f_X12_turns, b_X12_turns_52, b_X12_turns_61, b_X12_turns_69, U_0, nz, LE400, LT400, or_true, true_or]
    refine ST.m1 ⟨hT, rS.mk2 (by omega) (by omega) ?_, rY.mk2 (by omega) rfl (by omega), hD, hQ, hK, rS.mk2 (by omega) (by omega) ?_, ?_, hO⟩
    all_goals try exact rC.same hl hc
    all_goals try exact rC.back hl hc
    all_goals try exact rC.go hl hz i1 i2 hc
    all_goals (intro i hi; try simp only [upd_at])
    all_goals repeat' split
    all_goals first | rfl | exact hf _ (by omega) | exact hh _ (by omega) | (exfalso; omega) | exact absurd trivial (by assumption) | (simp (disch := omega) only [hf, hh]; done)
  · rcases hc (l - 1) (by omega) with ⟨i1, i2, i3⟩ | ⟨i1, u, v, hu, hv, i2, i3, i4, i5⟩
    · simp (maxSteps := 500000) (decide := true) (disch := omega) only [f_X3_carryOutNext, f_X3_askFirst, b_X3_askFirst_20, b_X3_askFirst_40, Int32.reduceToNatClampNeg, gp_0, fc_0, tk_0, wi_0, od_0, sw_0, b_X12_done_52, b_X12_done_69, f_X12_isStarred, b_X12_isStarred_42, f_X12_wants, f_X12_wantsStore, b_X12_wantsStore_27, L_0, L_1, L_2, L_3, nlt30, cl_nI, nI_lt0, nI_sub1, nI_sub2, nI_sub3, nI_add1, nI_add2, e_30, Nat.sub_sub, Nat.reduceAdd, hf, hh, sb, ck_T, ckn, not_false_eq_true, false_or, Nat.not_le, ite_self, ↓reduceIte, s_from0, s_from1, s_from2, s_drop1, s_drop2, s_put, s_putF, s_room1, s_room1F, s_take, s_rep, s_raise1, s_raise2, w_push, w_pop, f_X12_done, b_X12_done_40, b_X12_done_41, f_X3_carryOutInner, f_X3_useNumberBehind, f_X3_putAndPass, b_X3_useNumberBehind_98, b_X3_useNumberBehind_122, b_X3_useNumberBehind_152, f_X3_loopEnds, b_X3_loopEnds_31, b_X3_loopEnds_40, f_X3_enterLoop, s_room2, U28, f_X5_isCell, v_at, v_cCall, v_cPlace, v_cGo, v_cBack, f_X12_inner, b_X12_inner_290, b_X12_inner_268, b_X12_inner_241, b_X12_inner_260, f_X12_turns, b_X12_turns_52, b_X12_turns_61, b_X12_turns_69, U_0, nz, LE400, LT400, or_true, true_or, hz, i1, i2, i3]
      refine ST.m1 ⟨hT, rS.mk2 (by omega) (by omega) ?_, rY.mk2 (by omega) rfl (by omega), hD, hQ, hK, rS.mk2 (by omega) (by omega) ?_, ?_, hO⟩
      all_goals try exact rC.same hl hc
      all_goals try exact rC.back hl hc
      all_goals try exact rC.go hl hz i1 i2 hc
      all_goals (intro i hi; try simp only [upd_at])
      all_goals repeat' split
      all_goals first | rfl | exact hf _ (by omega) | exact hh _ (by omega) | (exfalso; omega) | exact absurd trivial (by assumption) | (simp (disch := omega) only [hf, hh]; done)
    · simp (maxSteps := 500000) (decide := true) (disch := omega) only [f_X3_carryOutNext, f_X3_askFirst, b_X3_askFirst_20, b_X3_askFirst_40, Int32.reduceToNatClampNeg, gp_0, fc_0, tk_0, wi_0, od_0, sw_0, b_X12_done_52, b_X12_done_69, f_X12_isStarred, b_X12_isStarred_42, f_X12_wants, f_X12_wantsStore, b_X12_wantsStore_27, L_0, L_1, L_2, L_3, nlt30, cl_nI, nI_lt0, nI_sub1, nI_sub2, nI_sub3, nI_add1, nI_add2, e_30, Nat.sub_sub, Nat.reduceAdd, hf, hh, sb, ck_T, ckn, not_false_eq_true, false_or, Nat.not_le, ite_self, ↓reduceIte, s_from0, s_from1, s_from2, s_drop1, s_drop2, s_put, s_putF, s_room1, s_room1F, s_take, s_rep, s_raise1, s_raise2, w_push, w_pop, f_X12_done, b_X12_done_40, b_X12_done_41, f_X3_carryOutInner, f_X3_useNumberBehind, f_X3_putAndPass, b_X3_useNumberBehind_98, b_X3_useNumberBehind_122, b_X3_useNumberBehind_152, f_X3_loopEnds, b_X3_loopEnds_31, b_X3_loopEnds_40, f_X3_enterLoop, s_room2, U28, f_X5_isCell, v_at, v_cCall, v_cPlace, v_cGo, v_cBack, f_X12_inner, b_X12_inner_290, b_X12_inner_268, b_X12_inner_241, b_X12_inner_260, f_X12_turns, b_X12_turns_52, b_X12_turns_61, b_X12_turns_69, U_0, nz, LE400, LT400, or_true, true_or, hz, i1, i3]
      refine ST.m1 ⟨hT, rS.mk2 (by omega) (by omega) ?_, rY.mk2 (by omega) rfl (by omega), hD, hQ, hK, rS.mk2 (by omega) (by omega) ?_, ?_, hO⟩
      all_goals try exact rC.same hl hc
      all_goals try exact rC.back hl hc
      all_goals try exact rC.go hl hz i1 i2 hc
      all_goals (intro i hi; try simp only [upd_at])
      all_goals repeat' split
      all_goals first | rfl | exact hf _ (by omega) | exact hh _ (by omega) | (exfalso; omega) | exact absurd trivial (by assumption) | (simp (disch := omega) only [hf, hh]; done)
theorem wd_1 (hR : REL t s y d q k r c o T S R C Y D K Q O) (al st ca ov an th lf st' ca' re en : Int32) : ST (f_X3_carryOutNext t s y d q k r c o (al, st, ca, 1, ov, an)) (f_X12_done 1 T S R C Y D K Q O (th, lf, st', ca', -1, re, en)) al (st + 1) ca ov an th lf st' ca' re en := by
  obtain ⟨hT, ⟨n, f, F, hn, rfl, rfl, hf⟩, hY, hD, hQ, hK, ⟨p, h, G, hp, rfl, rfl, hh⟩, hC, hO⟩ := hR
  obtain ⟨l, pa, ic, ns, nr, PA, HS, HR, hl, rfl, rfl, hc⟩ := hC
  obtain ⟨rfl, a, z, ha, rfl⟩ := hY
  by_cases hz : l = 0
  · subst hz
    simp (maxSteps := 500000) (decide := true) (disch := omega) only [f_X3_carryOutNext, f_X3_askFirst, b_X3_askFirst_20, b_X3_askFirst_40, Int32.reduceToNatClampNeg, gp_1, fc_1, tk_1, wi_1, od_1, sw_1, b_X12_done_52, b_X12_done_69, f_X12_isStarred, b_X12_isStarred_42, f_X12_wants, f_X12_wantsStore, b_X12_wantsStore_27, L_0, L_1, L_2, L_3, nlt30, cl_nI, nI_lt0, nI_sub1, nI_sub2, nI_sub3, nI_add1, nI_add2, e_30, Nat.sub_sub, Nat.reduceAdd, hf, hh, sb, ck_T, ckn, not_false_eq_true, false_or, Nat.not_le, ite_self, ↓reduceIte, s_from0, s_from1, s_from2, s_drop1, s_drop2, s_put, s_putF, s_room1, s_room1F, s_take, s_rep, s_raise1, s_raise2, w_push, w_pop, f_X12_done, b_X12_done_40, b_X12_done_41, f_X3_carryOutInner, f_X3_useNumberBehind, f_X3_putAndPass, b_X3_useNumberBehind_98, b_X3_useNumberBehind_122, b_X3_useNumberBehind_152, f_X3_loopEnds, b_X3_loopEnds_31, b_X3_loopEnds_40, f_X3_enterLoop, s_room2, U28, f_X5_isCell, v_at, v_cCall, v_cPlace, v_cGo, v_cBack, f_X12_inner, b_X12_inner_290, b_X12_inner_268, b_X12_inner_241, b_X12_inner_260, f_X12_turns, b_X12_turns_52, b_X12_turns_61, b_X12_turns_69, U_0, nz, LE400, LT400, or_true, true_or]
    refine ST.m1 ⟨hT, rS.mk2 (by omega) (by omega) ?_, rY.mk2 (by omega) rfl (by omega), hD, hQ, hK, rS.mk2 (by omega) (by omega) ?_, ?_, hO⟩
    all_goals try exact rC.same hl hc
    all_goals try exact rC.back hl hc
    all_goals try exact rC.go hl hz i1 i2 hc
    all_goals (intro i hi; try simp only [upd_at])
    all_goals repeat' split
    all_goals first | rfl | exact hf _ (by omega) | exact hh _ (by omega) | (exfalso; omega) | exact absurd trivial (by assumption) | (simp (disch := omega) only [hf, hh]; done)
  · rcases hc (l - 1) (by omega) with ⟨i1, i2, i3⟩ | ⟨i1, u, v, hu, hv, i2, i3, i4, i5⟩
    · rcases pk_ix (pa (l - 1)) (n := 400) (by omega) with hx | hx | ⟨j, hj, hx⟩
      · simp (maxSteps := 500000) (decide := true) (disch := omega) only [f_X3_carryOutNext, f_X3_askFirst, b_X3_askFirst_20, b_X3_askFirst_40, Int32.reduceToNatClampNeg, gp_1, fc_1, tk_1, wi_1, od_1, sw_1, b_X12_done_52, b_X12_done_69, f_X12_isStarred, b_X12_isStarred_42, f_X12_wants, f_X12_wantsStore, b_X12_wantsStore_27, L_0, L_1, L_2, L_3, nlt30, cl_nI, nI_lt0, nI_sub1, nI_sub2, nI_sub3, nI_add1, nI_add2, e_30, Nat.sub_sub, Nat.reduceAdd, hf, hh, sb, ck_T, ckn, not_false_eq_true, false_or, Nat.not_le, ite_self, ↓reduceIte, s_from0, s_from1, s_from2, s_drop1, s_drop2, s_put, s_putF, s_room1, s_room1F, s_take, s_rep, s_raise1, s_raise2, w_push, w_pop, f_X12_done, b_X12_done_40, b_X12_done_41, f_X3_carryOutInner, f_X3_useNumberBehind, f_X3_putAndPass, b_X3_useNumberBehind_98, b_X3_useNumberBehind_122, b_X3_useNumberBehind_152, f_X3_loopEnds, b_X3_loopEnds_31, b_X3_loopEnds_40, f_X3_enterLoop, s_room2, U28, f_X5_isCell, v_at, v_cCall, v_cPlace, v_cGo, v_cBack, f_X12_inner, b_X12_inner_290, b_X12_inner_268, b_X12_inner_241, b_X12_inner_260, f_X12_turns, b_X12_turns_52, b_X12_turns_61, b_X12_turns_69, U_0, nz, LE400, LT400, or_true, true_or, hz, i1, i2, i3, hx]
        refine ST.m1 ⟨hT, rS.mk2 (by omega) (by omega) ?_, rY.mk2 (by omega) rfl (by omega), hD, hQ, hK, rS.mk2 (by omega) (by omega) ?_, ?_, hO⟩
        all_goals try exact rC.same hl hc
        all_goals try exact rC.back hl hc
        all_goals try exact rC.go hl hz i1 i2 hc
        all_goals (intro i hi; try simp only [upd_at])
        all_goals repeat' split
        all_goals first | rfl | exact hf _ (by omega) | exact hh _ (by omega) | (exfalso; omega) | exact absurd trivial (by assumption) | (simp (disch := omega) only [hf, hh]; done)
      · have hx1 : (400 : Int32) ≤ pa (l - 1) := hx
        have hx0 := ge0 hx1
        have hx2 := lt_of_nle hx1
        simp (maxSteps := 500000) (decide := true) (disch := omega) only [f_X3_carryOutNext, f_X3_askFirst, b_X3_askFirst_20, b_X3_askFirst_40, Int32.reduceToNatClampNeg, gp_1, fc_1, tk_1, wi_1, od_1, sw_1, b_X12_done_52, b_X12_done_69, f_X12_isStarred, b_X12_isStarred_42, f_X12_wants, f_X12_wantsStore, b_X12_wantsStore_27, L_0, L_1, L_2, L_3, nlt30, cl_nI, nI_lt0, nI_sub1, nI_sub2, nI_sub3, nI_add1, nI_add2, e_30, Nat.sub_sub, Nat.reduceAdd, hf, hh, sb, ck_T, ckn, not_false_eq_true, false_or, Nat.not_le, ite_self, ↓reduceIte, s_from0, s_from1, s_from2, s_drop1, s_drop2, s_put, s_putF, s_room1, s_room1F, s_take, s_rep, s_raise1, s_raise2, w_push, w_pop, f_X12_done, b_X12_done_40, b_X12_done_41, f_X3_carryOutInner, f_X3_useNumberBehind, f_X3_putAndPass, b_X3_useNumberBehind_98, b_X3_useNumberBehind_122, b_X3_useNumberBehind_152, f_X3_loopEnds, b_X3_loopEnds_31, b_X3_loopEnds_40, f_X3_enterLoop, s_room2, U28, f_X5_isCell, v_at, v_cCall, v_cPlace, v_cGo, v_cBack, f_X12_inner, b_X12_inner_290, b_X12_inner_268, b_X12_inner_241, b_X12_inner_260, f_X12_turns, b_X12_turns_52, b_X12_turns_61, b_X12_turns_69, U_0, nz, LE400, LT400, or_true, true_or, hz, i1, i2, i3, hx0, hx1, hx2]
        refine ST.m1 ⟨hT, rS.mk2 (by omega) (by omega) ?_, rY.mk2 (by omega) rfl (by omega), hD, hQ, hK, rS.mk2 (by omega) (by omega) ?_, ?_, hO⟩
        all_goals try exact rC.same hl hc
        all_goals try exact rC.back hl hc
        all_goals try exact rC.go hl hz i1 i2 hc
        all_goals (intro i hi; try simp only [upd_at])
        all_goals repeat' split
        all_goals first | rfl | exact hf _ (by omega) | exact hh _ (by omega) | (exfalso; omega) | exact absurd trivial (by assumption) | (simp (disch := omega) only [hf, hh]; done)
      · by_cases h2 : n < 30
        · simp (maxSteps := 500000) (decide := true) (disch := omega) only [f_X3_carryOutNext, f_X3_askFirst, b_X3_askFirst_20, b_X3_askFirst_40, Int32.reduceToNatClampNeg, gp_1, fc_1, tk_1, wi_1, od_1, sw_1, b_X12_done_52, b_X12_done_69, f_X12_isStarred, b_X12_isStarred_42, f_X12_wants, f_X12_wantsStore, b_X12_wantsStore_27, L_0, L_1, L_2, L_3, nlt30, cl_nI, nI_lt0, nI_sub1, nI_sub2, nI_sub3, nI_add1, nI_add2, e_30, Nat.sub_sub, Nat.reduceAdd, hf, hh, sb, ck_T, ckn, not_false_eq_true, false_or, Nat.not_le, ite_self, ↓reduceIte, s_from0, s_from1, s_from2, s_drop1, s_drop2, s_put, s_putF, s_room1, s_room1F, s_take, s_rep, s_raise1, s_raise2, w_push, w_pop, f_X12_done, b_X12_done_40, b_X12_done_41, f_X3_carryOutInner, f_X3_useNumberBehind, f_X3_putAndPass, b_X3_useNumberBehind_98, b_X3_useNumberBehind_122, b_X3_useNumberBehind_152, f_X3_loopEnds, b_X3_loopEnds_31, b_X3_loopEnds_40, f_X3_enterLoop, s_room2, U28, f_X5_isCell, v_at, v_cCall, v_cPlace, v_cGo, v_cBack, f_X12_inner, b_X12_inner_290, b_X12_inner_268, b_X12_inner_241, b_X12_inner_260, f_X12_turns, b_X12_turns_52, b_X12_turns_61, b_X12_turns_69, U_0, nz, LE400, LT400, or_true, true_or, hz, i1, i2, i3, hx, h2]
          refine ST.m1 ⟨hT, rS.mk2 (by omega) (by omega) ?_, rY.mk2 (by omega) rfl (by omega), hD, hQ, hK, rS.mk2 (by omega) (by omega) ?_, ?_, hO⟩
          all_goals try exact rC.same hl hc
          all_goals try exact rC.back hl hc
          all_goals try exact rC.go hl hz i1 i2 hc
          all_goals (intro i hi; try simp only [upd_at])
          all_goals repeat' split
          all_goals first | rfl | exact hf _ (by omega) | exact hh _ (by omega) | (exfalso; omega) | exact absurd trivial (by assumption) | (simp (disch := omega) only [hf, hh]; done)
        · obtain rfl : n = 30 := by omega
          simp (maxSteps := 500000) (decide := true) (disch := omega) only [f_X3_carryOutNext, f_X3_askFirst, b_X3_askFirst_20, b_X3_askFirst_40, Int32.reduceToNatClampNeg, gp_1, fc_1, tk_1, wi_1, od_1, sw_1, b_X12_done_52, b_X12_done_69, f_X12_isStarred, b_X12_isStarred_42, f_X12_wants, f_X12_wantsStore, b_X12_wantsStore_27, L_0, L_1, L_2, L_3, nlt30, cl_nI, nI_lt0, nI_sub1, nI_sub2, nI_sub3, nI_add1, nI_add2, e_30, Nat.sub_sub, Nat.reduceAdd, hf, hh, sb, ck_T, ckn, not_false_eq_true, false_or, Nat.not_le, ite_self, ↓reduceIte, s_from0, s_from1, s_from2, s_drop1, s_drop2, s_put, s_putF, s_room1, s_room1F, s_take, s_rep, s_raise1, s_raise2, w_push, w_pop, f_X12_done, b_X12_done_40, b_X12_done_41, f_X3_carryOutInner, f_X3_useNumberBehind, f_X3_putAndPass, b_X3_useNumberBehind_98, b_X3_useNumberBehind_122, b_X3_useNumberBehind_152, f_X3_loopEnds, b_X3_loopEnds_31, b_X3_loopEnds_40, f_X3_enterLoop, s_room2, U28, f_X5_isCell, v_at, v_cCall, v_cPlace, v_cGo, v_cBack, f_X12_inner, b_X12_inner_290, b_X12_inner_268, b_X12_inner_241, b_X12_inner_260, f_X12_turns, b_X12_turns_52, b_X12_turns_61, b_X12_turns_69, U_0, nz, LE400, LT400, or_true, true_or, hz, i1, i2, i3, hx]
          refine ST.m1 ⟨hT, rS.mk2 (by omega) (by omega) ?_, rY.mk2 (by omega) rfl (by omega), hD, hQ, hK, rS.mk2 (by omega) (by omega) ?_, ?_, hO⟩
          all_goals try exact rC.same hl hc
          all_goals try exact rC.back hl hc
          all_goals try exact rC.go hl hz i1 i2 hc
          all_goals (intro i hi; try simp only [upd_at])
          all_goals repeat' split
          all_goals first | rfl | exact hf _ (by omega) | exact hh _ (by omega) | (exfalso; omega) | exact absurd trivial (by assumption) | (simp (disch := omega) only [hf, hh]; done)
    · simp (maxSteps := 500000) (decide := true) (disch := omega) only [f_X3_carryOutNext, f_X3_askFirst, b_X3_askFirst_20, b_X3_askFirst_40, Int32.reduceToNatClampNeg, gp_1, fc_1, tk_1, wi_1, od_1, sw_1, b_X12_done_52, b_X12_done_69, f_X12_isStarred, b_X12_isStarred_42, f_X12_wants, f_X12_wantsStore, b_X12_wantsStore_27, L_0, L_1, L_2, L_3, nlt30, cl_nI, nI_lt0, nI_sub1, nI_sub2, nI_sub3, nI_add1, nI_add2, e_30, Nat.sub_sub, Nat.reduceAdd, hf, hh, sb, ck_T, ckn, not_false_eq_true, false_or, Nat.not_le, ite_self, ↓reduceIte, s_from0, s_from1, s_from2, s_drop1, s_drop2, s_put, s_putF, s_room1, s_room1F, s_take, s_rep, s_raise1, s_raise2, w_push, w_pop, f_X12_done, b_X12_done_40, b_X12_done_41, f_X3_carryOutInner, f_X3_useNumberBehind, f_X3_putAndPass, b_X3_useNumberBehind_98, b_X3_useNumberBehind_122, b_X3_useNumberBehind_152, f_X3_loopEnds, b_X3_loopEnds_31, b_X3_loopEnds_40, f_X3_enterLoop, s_room2, U28, f_X5_isCell, v_at, v_cCall, v_cPlace, v_cGo, v_cBack, f_X12_inner, b_X12_inner_290, b_X12_inner_268, b_X12_inner_241, b_X12_inner_260, f_X12_turns, b_X12_turns_52, b_X12_turns_61, b_X12_turns_69, U_0, nz, LE400, LT400, or_true, true_or, hz, i1, i3]
      refine ST.m1 ⟨hT, rS.mk2 (by omega) (by omega) ?_, rY.mk2 (by omega) rfl (by omega), hD, hQ, hK, rS.mk2 (by omega) (by omega) ?_, ?_, hO⟩
      all_goals try exact rC.same hl hc
      all_goals try exact rC.back hl hc
      all_goals try exact rC.go hl hz i1 i2 hc
      all_goals (intro i hi; try simp only [upd_at])
      all_goals repeat' split
      all_goals first | rfl | exact hf _ (by omega) | exact hh _ (by omega) | (exfalso; omega) | exact absurd trivial (by assumption) | (simp (disch := omega) only [hf, hh]; done)
theorem wd_2 (hR : REL t s y d q k r c o T S R C Y D K Q O) (al st ca ov an th lf st' ca' re en : Int32) : ST (f_X3_carryOutNext t s y d q k r c o (al, st, ca, 2, ov, an)) (f_X12_done 2 T S R C Y D K Q O (th, lf, st', ca', -1, re, en)) al (st + 1) ca ov an th lf st' ca' re en := by
  obtain ⟨hT, ⟨n, f, F, hn, rfl, rfl, hf⟩, hY, hD, hQ, hK, ⟨p, h, G, hp, rfl, rfl, hh⟩, hC, hO⟩ := hR
  obtain ⟨l, pa, ic, ns, nr, PA, HS, HR, hl, rfl, rfl, hc⟩ := hC
  obtain ⟨rfl, a, z, ha, rfl⟩ := hY
  by_cases hz : l = 0
  · subst hz
    simp (maxSteps := 500000) (decide := true) (disch := omega) only [f_X3_carryOutNext, f_X3_askFirst, b_X3_askFirst_20, b_X3_askFirst_40, Int32.reduceToNatClampNeg, gp_2, fc_2, tk_2, wi_2, od_2, sw_2, b_X12_done_52, b_X12_done_69, f_X12_isStarred, b_X12_isStarred_42, f_X12_wants, f_X12_wantsStore, b_X12_wantsStore_27, L_0, L_1, L_2, L_3, nlt30, cl_nI, nI_lt0, nI_sub1, nI_sub2, nI_sub3, nI_add1, nI_add2, e_30, Nat.sub_sub, Nat.reduceAdd, hf, hh, sb, ck_T, ckn, not_false_eq_true, false_or, Nat.not_le, ite_self, ↓reduceIte, s_from0, s_from1, s_from2, s_drop1, s_drop2, s_put, s_putF, s_room1, s_room1F, s_take, s_rep, s_raise1, s_raise2, w_push, w_pop, f_X12_done, b_X12_done_40, b_X12_done_41, f_X3_carryOutInner, f_X3_useNumberBehind, f_X3_putAndPass, b_X3_useNumberBehind_98, b_X3_useNumberBehind_122, b_X3_useNumberBehind_152, f_X3_loopEnds, b_X3_loopEnds_31, b_X3_loopEnds_40, f_X3_enterLoop, s_room2, U28, f_X5_isCell, v_at, v_cCall, v_cPlace, v_cGo, v_cBack, f_X12_inner, b_X12_inner_290, b_X12_inner_268, b_X12_inner_241, b_X12_inner_260, f_X12_turns, b_X12_turns_52, b_X12_turns_61, b_X12_turns_69, U_0, nz, LE400, LT400, or_true, true_or]
    refine ST.m1 ⟨hT, rS.mk2 (by omega) (by omega) ?_, rY.mk2 (by omega) rfl (by omega), hD, hQ, hK, rS.mk2 (by omega) (by omega) ?_, ?_, hO⟩
    all_goals try exact rC.same hl hc
    all_goals try exact rC.back hl hc
    all_goals try exact rC.go hl hz i1 i2 hc
    all_goals (intro i hi; try simp only [upd_at])
    all_goals repeat' split
    all_goals first | rfl | exact hf _ (by omega) | exact hh _ (by omega) | (exfalso; omega) | exact absurd trivial (by assumption) | (simp (disch := omega) only [hf, hh]; done)
  · rcases hc (l - 1) (by omega) with ⟨i1, i2, i3⟩ | ⟨i1, u, v, hu, hv, i2, i3, i4, i5⟩
    · rcases pk_ix (pa (l - 1)) (n := 400) (by omega) with hx | hx | ⟨j, hj, hx⟩
      · simp (maxSteps := 500000) (decide := true) (disch := omega) only [f_X3_carryOutNext, f_X3_askFirst, b_X3_askFirst_20, b_X3_askFirst_40, Int32.reduceToNatClampNeg, gp_2, fc_2, tk_2, wi_2, od_2, sw_2, b_X12_done_52, b_X12_done_69, f_X12_isStarred, b_X12_isStarred_42, f_X12_wants, f_X12_wantsStore, b_X12_wantsStore_27, L_0, L_1, L_2, L_3, nlt30, cl_nI, nI_lt0, nI_sub1, nI_sub2, nI_sub3, nI_add1, nI_add2, e_30, Nat.sub_sub, Nat.reduceAdd, hf, hh, sb, ck_T, ckn, not_false_eq_true, false_or, Nat.not_le, ite_self, ↓reduceIte, s_from0, s_from1, s_from2, s_drop1, s_drop2, s_put, s_putF, s_room1, s_room1F, s_take, s_rep, s_raise1, s_raise2, w_push, w_pop, f_X12_done, b_X12_done_40, b_X12_done_41, f_X3_carryOutInner, f_X3_useNumberBehind, f_X3_putAndPass, b_X3_useNumberBehind_98, b_X3_useNumberBehind_122, b_X3_useNumberBehind_152, f_X3_loopEnds, b_X3_loopEnds_31, b_X3_loopEnds_40, f_X3_enterLoop, s_room2, U28, f_X5_isCell, v_at, v_cCall, v_cPlace, v_cGo, v_cBack, f_X12_inner, b_X12_inner_290, b_X12_inner_268, b_X12_inner_241, b_X12_inner_260, f_X12_turns, b_X12_turns_52, b_X12_turns_61, b_X12_turns_69, U_0, nz, LE400, LT400, or_true, true_or, hz, i1, i2, i3, hx]
        refine ST.m1 ⟨hT, rS.mk2 (by omega) (by omega) ?_, rY.mk2 (by omega) rfl (by omega), hD, hQ, hK, rS.mk2 (by omega) (by omega) ?_, ?_, hO⟩
        all_goals try exact rC.same hl hc
        all_goals try exact rC.back hl hc
        all_goals try exact rC.go hl hz i1 i2 hc
        all_goals (intro i hi; try simp only [upd_at])
        all_goals repeat' split
        all_goals first | rfl | exact hf _ (by omega) | exact hh _ (by omega) | (exfalso; omega) | exact absurd trivial (by assumption) | (simp (disch := omega) only [hf, hh]; done)
      · have hx1 : (400 : Int32) ≤ pa (l - 1) := hx
        have hx0 := ge0 hx1
        have hx2 := lt_of_nle hx1
        simp (maxSteps := 500000) (decide := true) (disch := omega) only [f_X3_carryOutNext, f_X3_askFirst, b_X3_askFirst_20, b_X3_askFirst_40, Int32.reduceToNatClampNeg, gp_2, fc_2, tk_2, wi_2, od_2, sw_2, b_X12_done_52, b_X12_done_69, f_X12_isStarred, b_X12_isStarred_42, f_X12_wants, f_X12_wantsStore, b_X12_wantsStore_27, L_0, L_1, L_2, L_3, nlt30, cl_nI, nI_lt0, nI_sub1, nI_sub2, nI_sub3, nI_add1, nI_add2, e_30, Nat.sub_sub, Nat.reduceAdd, hf, hh, sb, ck_T, ckn, not_false_eq_true, false_or, Nat.not_le, ite_self, ↓reduceIte, s_from0, s_from1, s_from2, s_drop1, s_drop2, s_put, s_putF, s_room1, s_room1F, s_take, s_rep, s_raise1, s_raise2, w_push, w_pop, f_X12_done, b_X12_done_40, b_X12_done_41, f_X3_carryOutInner, f_X3_useNumberBehind, f_X3_putAndPass, b_X3_useNumberBehind_98, b_X3_useNumberBehind_122, b_X3_useNumberBehind_152, f_X3_loopEnds, b_X3_loopEnds_31, b_X3_loopEnds_40, f_X3_enterLoop, s_room2, U28, f_X5_isCell, v_at, v_cCall, v_cPlace, v_cGo, v_cBack, f_X12_inner, b_X12_inner_290, b_X12_inner_268, b_X12_inner_241, b_X12_inner_260, f_X12_turns, b_X12_turns_52, b_X12_turns_61, b_X12_turns_69, U_0, nz, LE400, LT400, or_true, true_or, hz, i1, i2, i3, hx0, hx1, hx2]
        refine ST.m1 ⟨hT, rS.mk2 (by omega) (by omega) ?_, rY.mk2 (by omega) rfl (by omega), hD, hQ, hK, rS.mk2 (by omega) (by omega) ?_, ?_, hO⟩
        all_goals try exact rC.same hl hc
        all_goals try exact rC.back hl hc
        all_goals try exact rC.go hl hz i1 i2 hc
        all_goals (intro i hi; try simp only [upd_at])
        all_goals repeat' split
        all_goals first | rfl | exact hf _ (by omega) | exact hh _ (by omega) | (exfalso; omega) | exact absurd trivial (by assumption) | (simp (disch := omega) only [hf, hh]; done)
      · simp (maxSteps := 500000) (decide := true) (disch := omega) only [f_X3_carryOutNext, f_X3_askFirst, b_X3_askFirst_20, b_X3_askFirst_40, Int32.reduceToNatClampNeg, gp_2, fc_2, tk_2, wi_2, od_2, sw_2, b_X12_done_52, b_X12_done_69, f_X12_isStarred, b_X12_isStarred_42, f_X12_wants, f_X12_wantsStore, b_X12_wantsStore_27, L_0, L_1, L_2, L_3, nlt30, cl_nI, nI_lt0, nI_sub1, nI_sub2, nI_sub3, nI_add1, nI_add2, e_30, Nat.sub_sub, Nat.reduceAdd, hf, hh, sb, ck_T, ckn, not_false_eq_true, false_or, Nat.not_le, ite_self, ↓reduceIte, s_from0, s_from1, s_from2, s_drop1, s_drop2, s_put, s_putF, s_room1, s_room1F, s_take, s_rep, s_raise1, s_raise2, w_push, w_pop, f_X12_done, b_X12_done_40, b_X12_done_41, f_X3_carryOutInner, f_X3_useNumberBehind, f_X3_putAndPass, b_X3_useNumberBehind_98, b_X3_useNumberBehind_122, b_X3_useNumberBehind_152, f_X3_loopEnds, b_X3_loopEnds_31, b_X3_loopEnds_40, f_X3_enterLoop, s_room2, U28, f_X5_isCell, v_at, v_cCall, v_cPlace, v_cGo, v_cBack, f_X12_inner, b_X12_inner_290, b_X12_inner_268, b_X12_inner_241, b_X12_inner_260, f_X12_turns, b_X12_turns_52, b_X12_turns_61, b_X12_turns_69, U_0, nz, LE400, LT400, or_true, true_or, hz, i1, i2, i3, hx]
        refine ST.m1 ⟨hT, rS.mk2 (by omega) (by omega) ?_, rY.mk2 (by omega) rfl (by omega), hD, hQ, hK, rS.mk2 (by omega) (by omega) ?_, ?_, hO⟩
        all_goals try exact rC.same hl hc
        all_goals try exact rC.back hl hc
        all_goals try exact rC.go hl hz i1 i2 hc
        all_goals (intro i hi; try simp only [upd_at])
        all_goals repeat' split
        all_goals first | rfl | exact hf _ (by omega) | exact hh _ (by omega) | (exfalso; omega) | exact absurd trivial (by assumption) | (simp (disch := omega) only [hf, hh]; done)
    · simp (maxSteps := 500000) (decide := true) (disch := omega) only [f_X3_carryOutNext, f_X3_askFirst, b_X3_askFirst_20, b_X3_askFirst_40, Int32.reduceToNatClampNeg, gp_2, fc_2, tk_2, wi_2, od_2, sw_2, b_X12_done_52, b_X12_done_69, f_X12_isStarred, b_X12_isStarred_42, f_X12_wants, f_X12_wantsStore, b_X12_wantsStore_27, L_0, L_1, L_2, L_3, nlt30, cl_nI, nI_lt0, nI_sub1, nI_sub2, nI_sub3, nI_add1, nI_add2, e_30, Nat.sub_sub, Nat.reduceAdd, hf, hh, sb, ck_T, ckn, not_false_eq_true, false_or, Nat.not_le, ite_self, ↓reduceIte, s_from0, s_from1, s_from2, s_drop1, s_drop2, s_put, s_putF, s_room1, s_room1F, s_take, s_rep, s_raise1, s_raise2, w_push, w_pop, f_X12_done, b_X12_done_40, b_X12_done_41, f_X3_carryOutInner, f_X3_useNumberBehind, f_X3_putAndPass, b_X3_useNumberBehind_98, b_X3_useNumberBehind_122, b_X3_useNumberBehind_152, f_X3_loopEnds, b_X3_loopEnds_31, b_X3_loopEnds_40, f_X3_enterLoop, s_room2, U28, f_X5_isCell, v_at, v_cCall, v_cPlace, v_cGo, v_cBack, f_X12_inner, b_X12_inner_290, b_X12_inner_268, b_X12_inner_241, b_X12_inner_260, f_X12_turns, b_X12_turns_52, b_X12_turns_61, b_X12_turns_69, U_0, nz, LE400, LT400, or_true, true_or, hz, i1, i3]
      refine ST.m1 ⟨hT, rS.mk2 (by omega) (by omega) ?_, rY.mk2 (by omega) rfl (by omega), hD, hQ, hK, rS.mk2 (by omega) (by omega) ?_, ?_, hO⟩
      all_goals try exact rC.same hl hc
      all_goals try exact rC.back hl hc
      all_goals try exact rC.go hl hz i1 i2 hc
      all_goals (intro i hi; try simp only [upd_at])
      all_goals repeat' split
      all_goals first | rfl | exact hf _ (by omega) | exact hh _ (by omega) | (exfalso; omega) | exact absurd trivial (by assumption) | (simp (disch := omega) only [hf, hh]; done)
theorem wd_3 (hR : REL t s y d q k r c o T S R C Y D K Q O) (al st ca ov an th lf st' ca' re en : Int32) : ST (f_X3_carryOutNext t s y d q k r c o (al, st, ca, 3, ov, an)) (f_X12_done 3 T S R C Y D K Q O (th, lf, st', ca', -1, re, en)) al (st + 1) ca ov an th lf st' ca' re en := by
  obtain ⟨hT, ⟨n, f, F, hn, rfl, rfl, hf⟩, hY, hD, hQ, hK, ⟨p, h, G, hp, rfl, rfl, hh⟩, hC, hO⟩ := hR
  obtain ⟨l, pa, ic, ns, nr, PA, HS, HR, hl, rfl, rfl, hc⟩ := hC
  obtain ⟨rfl, a, z, ha, rfl⟩ := hY
  by_cases hz : l = 0
  · subst hz
    simp (maxSteps := 500000) (decide := true) (disch := omega) only [f_X3_carryOutNext, f_X3_askFirst, b_X3_askFirst_20, b_X3_askFirst_40, Int32.reduceToNatClampNeg, gp_3, fc_3, tk_3, wi_3, od_3, sw_3, b_X12_done_52, b_X12_done_69, f_X12_isStarred, b_X12_isStarred_42, f_X12_wants, f_X12_wantsStore, b_X12_wantsStore_27, L_0, L_1, L_2, L_3, nlt30, cl_nI, nI_lt0, nI_sub1, nI_sub2, nI_sub3, nI_add1, nI_add2, e_30, Nat.sub_sub, Nat.reduceAdd, hf, hh, sb, ck_T, ckn, not_false_eq_true, false_or, Nat.not_le, ite_self, ↓reduceIte, s_from0, s_from1, s_from2, s_drop1, s_drop2, s_put, s_putF, s_room1, s_room1F, s_take, s_rep, s_raise1, s_raise2, w_push, w_pop, f_X12_done, b_X12_done_40, b_X12_done_41, f_X3_carryOutInner, f_X3_useNumberBehind, f_X3_putAndPass, b_X3_useNumberBehind_98, b_X3_useNumberBehind_122, b_X3_useNumberBehind_152, f_X3_loopEnds, b_X3_loopEnds_31, b_X3_loopEnds_40, f_X3_enterLoop, s_room2, U28, f_X5_isCell, v_at, v_cCall, v_cPlace, v_cGo, v_cBack, f_X12_inner, b_X12_inner_290, b_X12_inner_268, b_X12_inner_241, b_X12_inner_260, f_X12_turns, b_X12_turns_52, b_X12_turns_61, b_X12_turns_69, U_0, nz, LE400, LT400, or_true, true_or]
    refine ST.m1 ⟨hT, rS.mk2 (by omega) (by omega) ?_, rY.mk2 (by omega) rfl (by omega), hD, hQ, hK, rS.mk2 (by omega) (by omega) ?_, ?_, hO⟩
    all_goals try exact rC.same hl hc
    all_goals try exact rC.back hl hc
    all_goals try exact rC.go hl hz i1 i2 hc
    all_goals (intro i hi; try simp only [upd_at])
    all_goals repeat' split
    all_goals first | rfl | exact hf _ (by omega) | exact hh _ (by omega) | (exfalso; omega) | exact absurd trivial (by assumption) | (simp (disch := omega) only [hf, hh]; done)
  · rcases hc (l - 1) (by omega) with ⟨i1, i2, i3⟩ | ⟨i1, u, v, hu, hv, i2, i3, i4, i5⟩
    · by_cases h1 : 1 ≤ n
      · rcases pk_ix (pa (l - 1)) (n := 400) (by omega) with hx | hx | ⟨j, hj, hx⟩
        · simp (maxSteps := 500000) (decide := true) (disch := omega) only [f_X3_carryOutNext, f_X3_askFirst, b_X3_askFirst_20, b_X3_askFirst_40, Int32.reduceToNatClampNeg, gp_3, fc_3, tk_3, wi_3, od_3, sw_3, b_X12_done_52, b_X12_done_69, f_X12_isStarred, b_X12_isStarred_42, f_X12_wants, f_X12_wantsStore, b_X12_wantsStore_27, L_0, L_1, L_2, L_3, nlt30, cl_nI, nI_lt0, nI_sub1, nI_sub2, nI_sub3, nI_add1, nI_add2, e_30, Nat.sub_sub, Nat.reduceAdd, hf, hh, sb, ck_T, ckn, not_false_eq_true, false_or, Nat.not_le, ite_self, ↓reduceIte, s_from0, s_from1, s_from2, s_drop1, s_drop2, s_put, s_putF, s_room1, s_room1F, s_take, s_rep, s_raise1, s_raise2, w_push, w_pop, f_X12_done, b_X12_done_40, b_X12_done_41, f_X3_carryOutInner, f_X3_useNumberBehind, f_X3_putAndPass, b_X3_useNumberBehind_98, b_X3_useNumberBehind_122, b_X3_useNumberBehind_152, f_X3_loopEnds, b_X3_loopEnds_31, b_X3_loopEnds_40, f_X3_enterLoop, s_room2, U28, f_X5_isCell, v_at, v_cCall, v_cPlace, v_cGo, v_cBack, f_X12_inner, b_X12_inner_290, b_X12_inner_268, b_X12_inner_241, b_X12_inner_260, f_X12_turns, b_X12_turns_52, b_X12_turns_61, b_X12_turns_69, U_0, nz, LE400, LT400, or_true, true_or, hz, i1, i2, i3, h1, hx]
          refine ST.m1 ⟨hT, rS.mk2 (by omega) (by omega) ?_, rY.mk2 (by omega) rfl (by omega), hD, hQ, hK, rS.mk2 (by omega) (by omega) ?_, ?_, hO⟩
          all_goals try exact rC.same hl hc
          all_goals try exact rC.back hl hc
          all_goals try exact rC.go hl hz i1 i2 hc
          all_goals (intro i hi; try simp only [upd_at])
          all_goals repeat' split
          all_goals first | rfl | exact hf _ (by omega) | exact hh _ (by omega) | (exfalso; omega) | exact absurd trivial (by assumption) | (simp (disch := omega) only [hf, hh]; done)
        · have hx1 : (400 : Int32) ≤ pa (l - 1) := hx
          have hx0 := ge0 hx1
          have hx2 := lt_of_nle hx1
          simp (maxSteps := 500000) (decide := true) (disch := omega) only [f_X3_carryOutNext, f_X3_askFirst, b_X3_askFirst_20, b_X3_askFirst_40, Int32.reduceToNatClampNeg, gp_3, fc_3, tk_3, wi_3, od_3, sw_3, b_X12_done_52, b_X12_done_69, f_X12_isStarred, b_X12_isStarred_42, f_X12_wants, f_X12_wantsStore, b_X12_wantsStore_27, L_0, L_1, L_2, L_3, nlt30, cl_nI, nI_lt0, nI_sub1, nI_sub2, nI_sub3, nI_add1, nI_add2, e_30, Nat.sub_sub, Nat.reduceAdd, hf, hh, sb, ck_T, ckn, not_false_eq_true, false_or, Nat.not_le, ite_self, ↓reduceIte, s_from0, s_from1, s_from2, s_drop1, s_drop2, s_put, s_putF, s_room1, s_room1F, s_take, s_rep, s_raise1, s_raise2, w_push, w_pop, f_X12_done, b_X12_done_40, b_X12_done_41, f_X3_carryOutInner, f_X3_useNumberBehind, f_X3_putAndPass, b_X3_useNumberBehind_98, b_X3_useNumberBehind_122, b_X3_useNumberBehind_152, f_X3_loopEnds, b_X3_loopEnds_31, b_X3_loopEnds_40, f_X3_enterLoop, s_room2, U28, f_X5_isCell, v_at, v_cCall, v_cPlace, v_cGo, v_cBack, f_X12_inner, b_X12_inner_290, b_X12_inner_268, b_X12_inner_241, b_X12_inner_260, f_X12_turns, b_X12_turns_52, b_X12_turns_61, b_X12_turns_69, U_0, nz, LE400, LT400, or_true, true_or, hz, i1, i2, i3, h1, hx0, hx1, hx2]
          refine ST.m1 ⟨hT, rS.mk2 (by omega) (by omega) ?_, rY.mk2 (by omega) rfl (by omega), hD, hQ, hK, rS.mk2 (by omega) (by omega) ?_, ?_, hO⟩
          all_goals try exact rC.same hl hc
          all_goals try exact rC.back hl hc
          all_goals try exact rC.go hl hz i1 i2 hc
          all_goals (intro i hi; try simp only [upd_at])
          all_goals repeat' split
          all_goals first | rfl | exact hf _ (by omega) | exact hh _ (by omega) | (exfalso; omega) | exact absurd trivial (by assumption) | (simp (disch := omega) only [hf, hh]; done)
        · by_cases hv : f (n - 1) = 0
          · simp (maxSteps := 500000) (decide := true) (disch := omega) only [f_X3_carryOutNext, f_X3_askFirst, b_X3_askFirst_20, b_X3_askFirst_40, Int32.reduceToNatClampNeg, gp_3, fc_3, tk_3, wi_3, od_3, sw_3, b_X12_done_52, b_X12_done_69, f_X12_isStarred, b_X12_isStarred_42, f_X12_wants, f_X12_wantsStore, b_X12_wantsStore_27, L_0, L_1, L_2, L_3, nlt30, cl_nI, nI_lt0, nI_sub1, nI_sub2, nI_sub3, nI_add1, nI_add2, e_30, Nat.sub_sub, Nat.reduceAdd, hf, hh, sb, ck_T, ckn, not_false_eq_true, false_or, Nat.not_le, ite_self, ↓reduceIte, s_from0, s_from1, s_from2, s_drop1, s_drop2, s_put, s_putF, s_room1, s_room1F, s_take, s_rep, s_raise1, s_raise2, w_push, w_pop, f_X12_done, b_X12_done_40, b_X12_done_41, f_X3_carryOutInner, f_X3_useNumberBehind, f_X3_putAndPass, b_X3_useNumberBehind_98, b_X3_useNumberBehind_122, b_X3_useNumberBehind_152, f_X3_loopEnds, b_X3_loopEnds_31, b_X3_loopEnds_40, f_X3_enterLoop, s_room2, U28, f_X5_isCell, v_at, v_cCall, v_cPlace, v_cGo, v_cBack, f_X12_inner, b_X12_inner_290, b_X12_inner_268, b_X12_inner_241, b_X12_inner_260, f_X12_turns, b_X12_turns_52, b_X12_turns_61, b_X12_turns_69, U_0, nz, LE400, LT400, or_true, true_or, hz, i1, i2, i3, h1, hx, hv]
            refine ST.m1 ⟨hT, rS.mk2 (by omega) (by omega) ?_, rY.mk2 (by omega) rfl (by omega), hD, hQ, hK, rS.mk2 (by omega) (by omega) ?_, ?_, hO⟩
            all_goals try exact rC.same hl hc
            all_goals try exact rC.back hl hc
            all_goals try exact rC.go hl hz i1 i2 hc
            all_goals (intro i hi; try simp only [upd_at])
            all_goals repeat' split
            all_goals first | rfl | exact hf _ (by omega) | exact hh _ (by omega) | (exfalso; omega) | exact absurd trivial (by assumption) | (simp (disch := omega) only [hf, hh]; done)
          · simp (maxSteps := 500000) (decide := true) (disch := omega) only [f_X3_carryOutNext, f_X3_askFirst, b_X3_askFirst_20, b_X3_askFirst_40, Int32.reduceToNatClampNeg, gp_3, fc_3, tk_3, wi_3, od_3, sw_3, b_X12_done_52, b_X12_done_69, f_X12_isStarred, b_X12_isStarred_42, f_X12_wants, f_X12_wantsStore, b_X12_wantsStore_27, L_0, L_1, L_2, L_3, nlt30, cl_nI, nI_lt0, nI_sub1, nI_sub2, nI_sub3, nI_add1, nI_add2, e_30, Nat.sub_sub, Nat.reduceAdd, hf, hh, sb, ck_T, ckn, not_false_eq_true, false_or, Nat.not_le, ite_self, ↓reduceIte, s_from0, s_from1, s_from2, s_drop1, s_drop2, s_put, s_putF, s_room1, s_room1F, s_take, s_rep, s_raise1, s_raise2, w_push, w_pop, f_X12_done, b_X12_done_40, b_X12_done_41, f_X3_carryOutInner, f_X3_useNumberBehind, f_X3_putAndPass, b_X3_useNumberBehind_98, b_X3_useNumberBehind_122, b_X3_useNumberBehind_152, f_X3_loopEnds, b_X3_loopEnds_31, b_X3_loopEnds_40, f_X3_enterLoop, s_room2, U28, f_X5_isCell, v_at, v_cCall, v_cPlace, v_cGo, v_cBack, f_X12_inner, b_X12_inner_290, b_X12_inner_268, b_X12_inner_241, b_X12_inner_260, f_X12_turns, b_X12_turns_52, b_X12_turns_61, b_X12_turns_69, U_0, nz, LE400, LT400, or_true, true_or, hz, i1, i2, i3, h1, hx, hv]
            refine ST.m1 ⟨hT, rS.mk2 (by omega) (by omega) ?_, rY.mk2 (by omega) rfl (by omega), hD, hQ, hK, rS.mk2 (by omega) (by omega) ?_, ?_, hO⟩
            all_goals try exact rC.same hl hc
            all_goals try exact rC.back hl hc
            all_goals try exact rC.go hl hz i1 i2 hc
            all_goals (intro i hi; try simp only [upd_at])
            all_goals repeat' split
            all_goals first | rfl | exact hf _ (by omega) | exact hh _ (by omega) | (exfalso; omega) | exact absurd trivial (by assumption) | (simp (disch := omega) only [hf, hh]; done)
      · simp (maxSteps := 500000) (decide := true) (disch := omega) only [f_X3_carryOutNext, f_X3_askFirst, b_X3_askFirst_20, b_X3_askFirst_40, Int32.reduceToNatClampNeg, gp_3, fc_3, tk_3, wi_3, od_3, sw_3, b_X12_done_52, b_X12_done_69, f_X12_isStarred, b_X12_isStarred_42, f_X12_wants, f_X12_wantsStore, b_X12_wantsStore_27, L_0, L_1, L_2, L_3, nlt30, cl_nI, nI_lt0, nI_sub1, nI_sub2, nI_sub3, nI_add1, nI_add2, e_30, Nat.sub_sub, Nat.reduceAdd, hf, hh, sb, ck_T, ckn, not_false_eq_true, false_or, Nat.not_le, ite_self, ↓reduceIte, s_from0, s_from1, s_from2, s_drop1, s_drop2, s_put, s_putF, s_room1, s_room1F, s_take, s_rep, s_raise1, s_raise2, w_push, w_pop, f_X12_done, b_X12_done_40, b_X12_done_41, f_X3_carryOutInner, f_X3_useNumberBehind, f_X3_putAndPass, b_X3_useNumberBehind_98, b_X3_useNumberBehind_122, b_X3_useNumberBehind_152, f_X3_loopEnds, b_X3_loopEnds_31, b_X3_loopEnds_40, f_X3_enterLoop, s_room2, U28, f_X5_isCell, v_at, v_cCall, v_cPlace, v_cGo, v_cBack, f_X12_inner, b_X12_inner_290, b_X12_inner_268, b_X12_inner_241, b_X12_inner_260, f_X12_turns, b_X12_turns_52, b_X12_turns_61, b_X12_turns_69, U_0, nz, LE400, LT400, or_true, true_or, hz, i1, i2, i3, h1]
        refine ST.m1 ⟨hT, rS.mk2 (by omega) (by omega) ?_, rY.mk2 (by omega) rfl (by omega), hD, hQ, hK, rS.mk2 (by omega) (by omega) ?_, ?_, hO⟩
        all_goals try exact rC.same hl hc
        all_goals try exact rC.back hl hc
        all_goals try exact rC.go hl hz i1 i2 hc
        all_goals (intro i hi; try simp only [upd_at])
        all_goals repeat' split
        all_goals first | rfl | exact hf _ (by omega) | exact hh _ (by omega) | (exfalso; omega) | exact absurd trivial (by assumption) | (simp (disch := omega) only [hf, hh]; done)
    · simp (maxSteps := 500000) (decide := true) (disch := omega) only [f_X3_carryOutNext, f_X3_askFirst, b_X3_askFirst_20, b_X3_askFirst_40, Int32.reduceToNatClampNeg, gp_3, fc_3, tk_3, wi_3, od_3, sw_3, b_X12_done_52, b_X12_done_69, f_X12_isStarred, b_X12_isStarred_42, f_X12_wants, f_X12_wantsStore, b_X12_wantsStore_27, L_0, L_1, L_2, L_3, nlt30, cl_nI, nI_lt0, nI_sub1, nI_sub2, nI_sub3, nI_add1, nI_add2, e_30, Nat.sub_sub, Nat.reduceAdd, hf, hh, sb, ck_T, ckn, not_false_eq_true, false_or, Nat.not_le, ite_self, ↓reduceIte, s_from0, s_from1, s_from2, s_drop1, s_drop2, s_put, s_putF, s_room1, s_room1F, s_take, s_rep, s_raise1, s_raise2, w_push, w_pop, f_X12_done, b_X12_done_40, b_X12_done_41, f_X3_carryOutInner, f_X3_useNumberBehind, f_X3_putAndPass, b_X3_useNumberBehind_98, b_X3_useNumberBehind_122, b_X3_useNumberBehind_152, f_X3_loopEnds, b_X3_loopEnds_31, b_X3_loopEnds_40, f_X3_enterLoop, s_room2, U28, f_X5_isCell, v_at, v_cCall, v_cPlace, v_cGo, v_cBack, f_X12_inner, b_X12_inner_290, b_X12_inner_268, b_X12_inner_241, b_X12_inner_260, f_X12_turns, b_X12_turns_52, b_X12_turns_61, b_X12_turns_69, U_0, nz, LE400, LT400, or_true, true_or, hz, i1, i3]
      refine ST.m1 ⟨hT, rS.mk2 (by omega) (by omega) ?_, rY.mk2 (by omega) rfl (by omega), hD, hQ, hK, rS.mk2 (by omega) (by omega) ?_, ?_, hO⟩
      all_goals try exact rC.same hl hc
      all_goals try exact rC.back hl hc
      all_goals try exact rC.go hl hz i1 i2 hc
      all_goals (intro i hi; try simp only [upd_at])
      all_goals repeat' split
      all_goals first | rfl | exact hf _ (by omega) | exact hh _ (by omega) | (exfalso; omega) | exact absurd trivial (by assumption) | (simp (disch := omega) only [hf, hh]; done)
theorem wd_4 (hR : REL t s y d q k r c o T S R C Y D K Q O) (al st ca ov an th lf st' ca' re en : Int32) : ST (f_X3_carryOutNext t s y d q k r c o (al, st, ca, 4, ov, an)) (f_X12_done 4 T S R C Y D K Q O (th, lf, st', ca', -1, re, en)) al (st + 1) ca ov an th lf st' ca' re en := by
  obtain ⟨hT, ⟨n, f, F, hn, rfl, rfl, hf⟩, hY, hD, hQ, hK, ⟨p, h, G, hp, rfl, rfl, hh⟩, hC, hO⟩ := hR
  obtain ⟨l, pa, ic, ns, nr, PA, HS, HR, hl, rfl, rfl, hc⟩ := hC
  obtain ⟨rfl, a, z, ha, rfl⟩ := hY
  by_cases hz : l = 0
  · subst hz
    simp (maxSteps := 500000) (decide := true) (disch := omega) only [f_X3_carryOutNext, f_X3_askFirst, b_X3_askFirst_20, b_X3_askFirst_40, Int32.reduceToNatClampNeg, gp_4, fc_4, tk_4, wi_4, od_4, sw_4, b_X12_done_52, b_X12_done_69, f_X12_isStarred, b_X12_isStarred_42, f_X12_wants, f_X12_wantsStore, b_X12_wantsStore_27, L_0, L_1, L_2, L_3, nlt30, cl_nI, nI_lt0, nI_sub1, nI_sub2, nI_sub3, nI_add1, nI_add2, e_30, Nat.sub_sub, Nat.reduceAdd, hf, hh, sb, ck_T, ckn, not_false_eq_true, false_or, Nat.not_le, ite_self, ↓reduceIte, s_from0, s_from1, s_from2, s_drop1, s_drop2, s_put, s_putF, s_room1, s_room1F, s_take, s_rep, s_raise1, s_raise2, w_push, w_pop, f_X12_done, b_X12_done_40, b_X12_done_41, f_X3_carryOutInner, f_X3_useNumberBehind, f_X3_putAndPass, b_X3_useNumberBehind_98, b_X3_useNumberBehind_122, b_X3_useNumberBehind_152, f_X3_loopEnds, b_X3_loopEnds_31, b_X3_loopEnds_40, f_X3_enterLoop, s_room2, U28, f_X5_isCell, v_at, v_cCall, v_cPlace, v_cGo, v_cBack, f_X12_inner, b_X12_inner_290, b_X12_inner_268, b_X12_inner_241, b_X12_inner_260, f_X12_turns, b_X12_turns_52, b_X12_turns_61, b_X12_turns_69, U_0, nz, LE400, LT400, or_true, true_or]
    refine ST.m1 ⟨hT, rS.mk2 (by omega) (by omega) ?_, rY.mk2 (by omega) rfl (by omega), hD, hQ, hK, rS.mk2 (by omega) (by omega) ?_, ?_, hO⟩
    all_goals try exact rC.same hl hc
    all_goals try exact rC.back hl hc
    all_goals try exact rC.go hl hz i1 i2 hc
    all_goals (intro i hi; try simp only [upd_at])
    all_goals repeat' split
    all_goals first | rfl | exact hf _ (by omega) | exact hh _ (by omega) | (exfalso; omega) | exact absurd trivial (by assumption) | (simp (disch := omega) only [hf, hh]; done)
  · rcases hc (l - 1) (by omega) with ⟨i1, i2, i3⟩ | ⟨i1, u, v, hu, hv, i2, i3, i4, i5⟩
    · by_cases h1 : 2 ≤ n
      · by_cases h4 : p ≤ 28
        · simp (maxSteps := 500000) (decide := true) (disch := omega) only [f_X3_carryOutNext, f_X3_askFirst, b_X3_askFirst_20, b_X3_askFirst_40, Int32.reduceToNatClampNeg, gp_4, fc_4, tk_4, wi_4, od_4, sw_4, b_X12_done_52, b_X12_done_69, f_X12_isStarred, b_X12_isStarred_42, f_X12_wants, f_X12_wantsStore, b_X12_wantsStore_27, L_0, L_1, L_2, L_3, nlt30, cl_nI, nI_lt0, nI_sub1, nI_sub2, nI_sub3, nI_add1, nI_add2, e_30, Nat.sub_sub, Nat.reduceAdd, hf, hh, sb, ck_T, ckn, not_false_eq_true, false_or, Nat.not_le, ite_self, ↓reduceIte, s_from0, s_from1, s_from2, s_drop1, s_drop2, s_put, s_putF, s_room1, s_room1F, s_take, s_rep, s_raise1, s_raise2, w_push, w_pop, f_X12_done, b_X12_done_40, b_X12_done_41, f_X3_carryOutInner, f_X3_useNumberBehind, f_X3_putAndPass, b_X3_useNumberBehind_98, b_X3_useNumberBehind_122, b_X3_useNumberBehind_152, f_X3_loopEnds, b_X3_loopEnds_31, b_X3_loopEnds_40, f_X3_enterLoop, s_room2, U28, f_X5_isCell, v_at, v_cCall, v_cPlace, v_cGo, v_cBack, f_X12_inner, b_X12_inner_290, b_X12_inner_268, b_X12_inner_241, b_X12_inner_260, f_X12_turns, b_X12_turns_52, b_X12_turns_61, b_X12_turns_69, U_0, nz, LE400, LT400, or_true, true_or, hz, i1, i2, i3, h1, h4]
          refine ST.m1 ⟨hT, rS.mk2 (by omega) (by omega) ?_, rY.mk2 (by omega) rfl (by omega), hD, hQ, hK, rS.mk2 (by omega) (by omega) ?_, ?_, hO⟩
          all_goals try exact rC.same hl hc
          all_goals try exact rC.back hl hc
          all_goals try exact rC.go hl hz i1 i2 hc
          all_goals (intro i hi; try simp only [upd_at])
          all_goals repeat' split
          all_goals first | rfl | exact hf _ (by omega) | exact hh _ (by omega) | (exfalso; omega) | exact absurd trivial (by assumption) | (simp (disch := omega) only [hf, hh]; done)
        · simp (maxSteps := 500000) (decide := true) (disch := omega) only [f_X3_carryOutNext, f_X3_askFirst, b_X3_askFirst_20, b_X3_askFirst_40, Int32.reduceToNatClampNeg, gp_4, fc_4, tk_4, wi_4, od_4, sw_4, b_X12_done_52, b_X12_done_69, f_X12_isStarred, b_X12_isStarred_42, f_X12_wants, f_X12_wantsStore, b_X12_wantsStore_27, L_0, L_1, L_2, L_3, nlt30, cl_nI, nI_lt0, nI_sub1, nI_sub2, nI_sub3, nI_add1, nI_add2, e_30, Nat.sub_sub, Nat.reduceAdd, hf, hh, sb, ck_T, ckn, not_false_eq_true, false_or, Nat.not_le, ite_self, ↓reduceIte, s_from0, s_from1, s_from2, s_drop1, s_drop2, s_put, s_putF, s_room1, s_room1F, s_take, s_rep, s_raise1, s_raise2, w_push, w_pop, f_X12_done, b_X12_done_40, b_X12_done_41, f_X3_carryOutInner, f_X3_useNumberBehind, f_X3_putAndPass, b_X3_useNumberBehind_98, b_X3_useNumberBehind_122, b_X3_useNumberBehind_152, f_X3_loopEnds, b_X3_loopEnds_31, b_X3_loopEnds_40, f_X3_enterLoop, s_room2, U28, f_X5_isCell, v_at, v_cCall, v_cPlace, v_cGo, v_cBack, f_X12_inner, b_X12_inner_290, b_X12_inner_268, b_X12_inner_241, b_X12_inner_260, f_X12_turns, b_X12_turns_52, b_X12_turns_61, b_X12_turns_69, U_0, nz, LE400, LT400, or_true, true_or, hz, i1, i2, i3, h1, h4]
          refine ST.m1 ⟨hT, rS.mk2 (by omega) (by omega) ?_, rY.mk2 (by omega) rfl (by omega), hD, hQ, hK, rS.mk2 (by omega) (by omega) ?_, ?_, hO⟩
          all_goals try exact rC.same hl hc
          all_goals try exact rC.back hl hc
          all_goals try exact rC.go hl hz i1 i2 hc
          all_goals (intro i hi; try simp only [upd_at])
          all_goals repeat' split
          all_goals first | rfl | exact hf _ (by omega) | exact hh _ (by omega) | (exfalso; omega) | exact absurd trivial (by assumption) | (simp (disch := omega) only [hf, hh]; done)
      · simp (maxSteps := 500000) (decide := true) (disch := omega) only [f_X3_carryOutNext, f_X3_askFirst, b_X3_askFirst_20, b_X3_askFirst_40, Int32.reduceToNatClampNeg, gp_4, fc_4, tk_4, wi_4, od_4, sw_4, b_X12_done_52, b_X12_done_69, f_X12_isStarred, b_X12_isStarred_42, f_X12_wants, f_X12_wantsStore, b_X12_wantsStore_27, L_0, L_1, L_2, L_3, nlt30, cl_nI, nI_lt0, nI_sub1, nI_sub2, nI_sub3, nI_add1, nI_add2, e_30, Nat.sub_sub, Nat.reduceAdd, hf, hh, sb, ck_T, ckn, not_false_eq_true, false_or, Nat.not_le, ite_self, ↓reduceIte, s_from0, s_from1, s_from2, s_drop1, s_drop2, s_put, s_putF, s_room1, s_room1F, s_take, s_rep, s_raise1, s_raise2, w_push, w_pop, f_X12_done, b_X12_done_40, b_X12_done_41, f_X3_carryOutInner, f_X3_useNumberBehind, f_X3_putAndPass, b_X3_useNumberBehind_98, b_X3_useNumberBehind_122, b_X3_useNumberBehind_152, f_X3_loopEnds, b_X3_loopEnds_31, b_X3_loopEnds_40, f_X3_enterLoop, s_room2, U28, f_X5_isCell, v_at, v_cCall, v_cPlace, v_cGo, v_cBack, f_X12_inner, b_X12_inner_290, b_X12_inner_268, b_X12_inner_241, b_X12_inner_260, f_X12_turns, b_X12_turns_52, b_X12_turns_61, b_X12_turns_69, U_0, nz, LE400, LT400, or_true, true_or, hz, i1, i2, i3, h1]
        refine ST.m1 ⟨hT, rS.mk2 (by omega) (by omega) ?_, rY.mk2 (by omega) rfl (by omega), hD, hQ, hK, rS.mk2 (by omega) (by omega) ?_, ?_, hO⟩
        all_goals try exact rC.same hl hc
        all_goals try exact rC.back hl hc
        all_goals try exact rC.go hl hz i1 i2 hc
        all_goals (intro i hi; try simp only [upd_at])
        all_goals repeat' split
        all_goals first | rfl | exact hf _ (by omega) | exact hh _ (by omega) | (exfalso; omega) | exact absurd trivial (by assumption) | (simp (disch := omega) only [hf, hh]; done)
    · simp (maxSteps := 500000) (decide := true) (disch := omega) only [f_X3_carryOutNext, f_X3_askFirst, b_X3_askFirst_20, b_X3_askFirst_40, Int32.reduceToNatClampNeg, gp_4, fc_4, tk_4, wi_4, od_4, sw_4, b_X12_done_52, b_X12_done_69, f_X12_isStarred, b_X12_isStarred_42, f_X12_wants, f_X12_wantsStore, b_X12_wantsStore_27, L_0, L_1, L_2, L_3, nlt30, cl_nI, nI_lt0, nI_sub1, nI_sub2, nI_sub3, nI_add1, nI_add2, e_30, Nat.sub_sub, Nat.reduceAdd, hf, hh, sb, ck_T, ckn, not_false_eq_true, false_or, Nat.not_le, ite_self, ↓reduceIte, s_from0, s_from1, s_from2, s_drop1, s_drop2, s_put, s_putF, s_room1, s_room1F, s_take, s_rep, s_raise1, s_raise2, w_push, w_pop, f_X12_done, b_X12_done_40, b_X12_done_41, f_X3_carryOutInner, f_X3_useNumberBehind, f_X3_putAndPass, b_X3_useNumberBehind_98, b_X3_useNumberBehind_122, b_X3_useNumberBehind_152, f_X3_loopEnds, b_X3_loopEnds_31, b_X3_loopEnds_40, f_X3_enterLoop, s_room2, U28, f_X5_isCell, v_at, v_cCall, v_cPlace, v_cGo, v_cBack, f_X12_inner, b_X12_inner_290, b_X12_inner_268, b_X12_inner_241, b_X12_inner_260, f_X12_turns, b_X12_turns_52, b_X12_turns_61, b_X12_turns_69, U_0, nz, LE400, LT400, or_true, true_or, hz, i1, i3]
      refine ST.m1 ⟨hT, rS.mk2 (by omega) (by omega) ?_, rY.mk2 (by omega) rfl (by omega), hD, hQ, hK, rS.mk2 (by omega) (by omega) ?_, ?_, hO⟩
      all_goals try exact rC.same hl hc
      all_goals try exact rC.back hl hc
      all_goals try exact rC.go hl hz i1 i2 hc
      all_goals (intro i hi; try simp only [upd_at])
      all_goals repeat' split
      all_goals first | rfl | exact hf _ (by omega) | exact hh _ (by omega) | (exfalso; omega) | exact absurd trivial (by assumption) | (simp (disch := omega) only [hf, hh]; done)
theorem wd_5 (hR : REL t s y d q k r c o T S R C Y D K Q O) (al st ca ov an th lf st' ca' re en : Int32) : ST (f_X3_carryOutNext t s y d q k r c o (al, st, ca, 5, ov, an)) (f_X12_done 5 T S R C Y D K Q O (th, lf, st', ca', -1, re, en)) al (st + 1) ca ov an th lf st' ca' re en := by
  obtain ⟨hT, ⟨n, f, F, hn, rfl, rfl, hf⟩, hY, hD, hQ, hK, ⟨p, h, G, hp, rfl, rfl, hh⟩, hC, hO⟩ := hR
  obtain ⟨l, pa, ic, ns, nr, PA, HS, HR, hl, rfl, rfl, hc⟩ := hC
  obtain ⟨rfl, a, z, ha, rfl⟩ := hY
  by_cases hz : l = 0
  · subst hz
    simp (maxSteps := 500000) (decide := true) (disch := omega) only [f_X3_carryOutNext, f_X3_askFirst, b_X3_askFirst_20, b_X3_askFirst_40, Int32.reduceToNatClampNeg, gp_5, fc_5, tk_5, wi_5, od_5, sw_5, b_X12_done_52, b_X12_done_69, f_X12_isStarred, b_X12_isStarred_42, f_X12_wants, f_X12_wantsStore, b_X12_wantsStore_27, L_0, L_1, L_2, L_3, nlt30, cl_nI, nI_lt0, nI_sub1, nI_sub2, nI_sub3, nI_add1, nI_add2, e_30, Nat.sub_sub, Nat.reduceAdd, hf, hh, sb, ck_T, ckn, not_false_eq_true, false_or, Nat.not_le, ite_self, ↓reduceIte, s_from0, s_from1, s_from2, s_drop1, s_drop2, s_put, s_putF, s_room1, s_room1F, s_take, s_rep, s_raise1, s_raise2, w_push, w_pop, f_X12_done, b_X12_done_40, b_X12_done_41, f_X3_carryOutInner, f_X3_useNumberBehind, f_X3_putAndPass, b_X3_useNumberBehind_98, b_X3_useNumberBehind_122, b_X3_useNumberBehind_152, f_X3_loopEnds, b_X3_loopEnds_31, b_X3_loopEnds_40, f_X3_enterLoop, s_room2, U28, f_X5_isCell, v_at, v_cCall, v_cPlace, v_cGo, v_cBack, f_X12_inner, b_X12_inner_290, b_X12_inner_268, b_X12_inner_241, b_X12_inner_260, f_X12_turns, b_X12_turns_52, b_X12_turns_61, b_X12_turns_69, U_0, nz, LE400, LT400, or_true, true_or]
    refine ST.m1 ⟨hT, rS.mk2 (by omega) (by omega) ?_, rY.mk2 (by omega) rfl (by omega), hD, hQ, hK, rS.mk2 (by omega) (by omega) ?_, ?_, hO⟩
    all_goals try exact rC.same hl hc
    all_goals try exact rC.back hl hc
    all_goals try exact rC.go hl hz i1 i2 hc
    all_goals (intro i hi; try simp only [upd_at])
    all_goals repeat' split
    all_goals first | rfl | exact hf _ (by omega) | exact hh _ (by omega) | (exfalso; omega) | exact absurd trivial (by assumption) | (simp (disch := omega) only [hf, hh]; done)
  · rcases hc (l - 1) (by omega) with ⟨i1, i2, i3⟩ | ⟨i1, u, v, hu, hv, i2, i3, i4, i5⟩
    · by_cases h3 : 2 ≤ p
      · rcases pk_ix (pa (l - 1)) (n := 400) (by omega) with hx | hx | ⟨j, hj, hx⟩
        · simp (maxSteps := 500000) (decide := true) (disch := omega) only [f_X3_carryOutNext, f_X3_askFirst, b_X3_askFirst_20, b_X3_askFirst_40, Int32.reduceToNatClampNeg, gp_5, fc_5, tk_5, wi_5, od_5, sw_5, b_X12_done_52, b_X12_done_69, f_X12_isStarred, b_X12_isStarred_42, f_X12_wants, f_X12_wantsStore, b_X12_wantsStore_27, L_0, L_1, L_2, L_3, nlt30, cl_nI, nI_lt0, nI_sub1, nI_sub2, nI_sub3, nI_add1, nI_add2, e_30, Nat.sub_sub, Nat.reduceAdd, hf, hh, sb, ck_T, ckn, not_false_eq_true, false_or, Nat.not_le, ite_self, ↓reduceIte, s_from0, s_from1, s_from2, s_drop1, s_drop2, s_put, s_putF, s_room1, s_room1F, s_take, s_rep, s_raise1, s_raise2, w_push, w_pop, f_X12_done, b_X12_done_40, b_X12_done_41, f_X3_carryOutInner, f_X3_useNumberBehind, f_X3_putAndPass, b_X3_useNumberBehind_98, b_X3_useNumberBehind_122, b_X3_useNumberBehind_152, f_X3_loopEnds, b_X3_loopEnds_31, b_X3_loopEnds_40, f_X3_enterLoop, s_room2, U28, f_X5_isCell, v_at, v_cCall, v_cPlace, v_cGo, v_cBack, f_X12_inner, b_X12_inner_290, b_X12_inner_268, b_X12_inner_241, b_X12_inner_260, f_X12_turns, b_X12_turns_52, b_X12_turns_61, b_X12_turns_69, U_0, nz, LE400, LT400, or_true, true_or, hz, i1, i2, i3, h3, hx]
          refine ST.m1 ⟨hT, rS.mk2 (by omega) (by omega) ?_, rY.mk2 (by omega) rfl (by omega), hD, hQ, hK, rS.mk2 (by omega) (by omega) ?_, ?_, hO⟩
          all_goals try exact rC.same hl hc
          all_goals try exact rC.back hl hc
          all_goals try exact rC.go hl hz i1 i2 hc
          all_goals (intro i hi; try simp only [upd_at])
          all_goals repeat' split
          all_goals first | rfl | exact hf _ (by omega) | exact hh _ (by omega) | (exfalso; omega) | exact absurd trivial (by assumption) | (simp (disch := omega) only [hf, hh]; done)
        · have hx1 : (400 : Int32) ≤ pa (l - 1) := hx
          have hx0 := ge0 hx1
          have hx2 := lt_of_nle hx1
          simp (maxSteps := 500000) (decide := true) (disch := omega) only [f_X3_carryOutNext, f_X3_askFirst, b_X3_askFirst_20, b_X3_askFirst_40, Int32.reduceToNatClampNeg, gp_5, fc_5, tk_5, wi_5, od_5, sw_5, b_X12_done_52, b_X12_done_69, f_X12_isStarred, b_X12_isStarred_42, f_X12_wants, f_X12_wantsStore, b_X12_wantsStore_27, L_0, L_1, L_2, L_3, nlt30, cl_nI, nI_lt0, nI_sub1, nI_sub2, nI_sub3, nI_add1, nI_add2, e_30, Nat.sub_sub, Nat.reduceAdd, hf, hh, sb, ck_T, ckn, not_false_eq_true, false_or, Nat.not_le, ite_self, ↓reduceIte, s_from0, s_from1, s_from2, s_drop1, s_drop2, s_put, s_putF, s_room1, s_room1F, s_take, s_rep, s_raise1, s_raise2, w_push, w_pop, f_X12_done, b_X12_done_40, b_X12_done_41, f_X3_carryOutInner, f_X3_useNumberBehind, f_X3_putAndPass, b_X3_useNumberBehind_98, b_X3_useNumberBehind_122, b_X3_useNumberBehind_152, f_X3_loopEnds, b_X3_loopEnds_31, b_X3_loopEnds_40, f_X3_enterLoop, s_room2, U28, f_X5_isCell, v_at, v_cCall, v_cPlace, v_cGo, v_cBack, f_X12_inner, b_X12_inner_290, b_X12_inner_268, b_X12_inner_241, b_X12_inner_260, f_X12_turns, b_X12_turns_52, b_X12_turns_61, b_X12_turns_69, U_0, nz, LE400, LT400, or_true, true_or, hz, i1, i2, i3, h3, hx0, hx1, hx2]
          refine ST.m1 ⟨hT, rS.mk2 (by omega) (by omega) ?_, rY.mk2 (by omega) rfl (by omega), hD, hQ, hK, rS.mk2 (by omega) (by omega) ?_, ?_, hO⟩
          all_goals try exact rC.same hl hc
          all_goals try exact rC.back hl hc
          all_goals try exact rC.go hl hz i1 i2 hc
          all_goals (intro i hi; try simp only [upd_at])
          all_goals repeat' split
          all_goals first | rfl | exact hf _ (by omega) | exact hh _ (by omega) | (exfalso; omega) | exact absurd trivial (by assumption) | (simp (disch := omega) only [hf, hh]; done)
        · by_cases s1 : 0 ≤ h (p - 1) - h (p - 2)
          · by_cases s2 : 0 ≤ h (p - 1) - h (p - 2) + 1
            · simp (maxSteps := 500000) (decide := true) (disch := omega) only [f_X3_carryOutNext, f_X3_askFirst, b_X3_askFirst_20, b_X3_askFirst_40, Int32.reduceToNatClampNeg, gp_5, fc_5, tk_5, wi_5, od_5, sw_5, b_X12_done_52, b_X12_done_69, f_X12_isStarred, b_X12_isStarred_42, f_X12_wants, f_X12_wantsStore, b_X12_wantsStore_27, L_0, L_1, L_2, L_3, nlt30, cl_nI, nI_lt0, nI_sub1, nI_sub2, nI_sub3, nI_add1, nI_add2, e_30, Nat.sub_sub, Nat.reduceAdd, hf, hh, sb, ck_T, ckn, not_false_eq_true, false_or, Nat.not_le, ite_self, ↓reduceIte, s_from0, s_from1, s_from2, s_drop1, s_drop2, s_put, s_putF, s_room1, s_room1F, s_take, s_rep, s_raise1, s_raise2, w_push, w_pop, f_X12_done, b_X12_done_40, b_X12_done_41, f_X3_carryOutInner, f_X3_useNumberBehind, f_X3_putAndPass, b_X3_useNumberBehind_98, b_X3_useNumberBehind_122, b_X3_useNumberBehind_152, f_X3_loopEnds, b_X3_loopEnds_31, b_X3_loopEnds_40, f_X3_enterLoop, s_room2, U28, f_X5_isCell, v_at, v_cCall, v_cPlace, v_cGo, v_cBack, f_X12_inner, b_X12_inner_290, b_X12_inner_268, b_X12_inner_241, b_X12_inner_260, f_X12_turns, b_X12_turns_52, b_X12_turns_61, b_X12_turns_69, U_0, nz, LE400, LT400, or_true, true_or, hz, i1, i2, i3, h3, hx, s1, s2]
              refine ST.m1 ⟨hT, rS.mk2 (by omega) (by omega) ?_, rY.mk2 (by omega) rfl (by omega), hD, hQ, hK, rS.mk2 (by omega) (by omega) ?_, ?_, hO⟩
              all_goals try exact rC.same hl hc
              all_goals try exact rC.back hl hc
              all_goals try exact rC.go hl hz i1 i2 hc
              all_goals (intro i hi; try simp only [upd_at])
              all_goals repeat' split
              all_goals first | rfl | exact hf _ (by omega) | exact hh _ (by omega) | (exfalso; omega) | exact absurd trivial (by assumption) | (simp (disch := omega) only [hf, hh]; done)
            · simp (maxSteps := 500000) (decide := true) (disch := omega) only [f_X3_carryOutNext, f_X3_askFirst, b_X3_askFirst_20, b_X3_askFirst_40, Int32.reduceToNatClampNeg, gp_5, fc_5, tk_5, wi_5, od_5, sw_5, b_X12_done_52, b_X12_done_69, f_X12_isStarred, b_X12_isStarred_42, f_X12_wants, f_X12_wantsStore, b_X12_wantsStore_27, L_0, L_1, L_2, L_3, nlt30, cl_nI, nI_lt0, nI_sub1, nI_sub2, nI_sub3, nI_add1, nI_add2, e_30, Nat.sub_sub, Nat.reduceAdd, hf, hh, sb, ck_T, ckn, not_false_eq_true, false_or, Nat.not_le, ite_self, ↓reduceIte, s_from0, s_from1, s_from2, s_drop1, s_drop2, s_put, s_putF, s_room1, s_room1F, s_take, s_rep, s_raise1, s_raise2, w_push, w_pop, f_X12_done, b_X12_done_40, b_X12_done_41, f_X3_carryOutInner, f_X3_useNumberBehind, f_X3_putAndPass, b_X3_useNumberBehind_98, b_X3_useNumberBehind_122, b_X3_useNumberBehind_152, f_X3_loopEnds, b_X3_loopEnds_31, b_X3_loopEnds_40, f_X3_enterLoop, s_room2, U28, f_X5_isCell, v_at, v_cCall, v_cPlace, v_cGo, v_cBack, f_X12_inner, b_X12_inner_290, b_X12_inner_268, b_X12_inner_241, b_X12_inner_260, f_X12_turns, b_X12_turns_52, b_X12_turns_61, b_X12_turns_69, U_0, nz, LE400, LT400, or_true, true_or, hz, i1, i2, i3, h3, hx, s1, s2]
              refine ST.m1 ⟨hT, rS.mk2 (by omega) (by omega) ?_, rY.mk2 (by omega) rfl (by omega), hD, hQ, hK, rS.mk2 (by omega) (by omega) ?_, ?_, hO⟩
              all_goals try exact rC.same hl hc
              all_goals try exact rC.back hl hc
              all_goals try exact rC.go hl hz i1 i2 hc
              all_goals (intro i hi; try simp only [upd_at])
              all_goals repeat' split
              all_goals first | rfl | exact hf _ (by omega) | exact hh _ (by omega) | (exfalso; omega) | exact absurd trivial (by assumption) | (simp (disch := omega) only [hf, hh]; done)
          · by_cases s2 : 0 ≤ h (p - 1) - h (p - 2) + 1
            · simp (maxSteps := 500000) (decide := true) (disch := omega) only [f_X3_carryOutNext, f_X3_askFirst, b_X3_askFirst_20, b_X3_askFirst_40, Int32.reduceToNatClampNeg, gp_5, fc_5, tk_5, wi_5, od_5, sw_5, b_X12_done_52, b_X12_done_69, f_X12_isStarred, b_X12_isStarred_42, f_X12_wants, f_X12_wantsStore, b_X12_wantsStore_27, L_0, L_1, L_2, L_3, nlt30, cl_nI, nI_lt0, nI_sub1, nI_sub2, nI_sub3, nI_add1, nI_add2, e_30, Nat.sub_sub, Nat.reduceAdd, hf, hh, sb, ck_T, ckn, not_false_eq_true, false_or, Nat.not_le, ite_self, ↓reduceIte, s_from0, s_from1, s_from2, s_drop1, s_drop2, s_put, s_putF, s_room1, s_room1F, s_take, s_rep, s_raise1, s_raise2, w_push, w_pop, f_X12_done, b_X12_done_40, b_X12_done_41, f_X3_carryOutInner, f_X3_useNumberBehind, f_X3_putAndPass, b_X3_useNumberBehind_98, b_X3_useNumberBehind_122, b_X3_useNumberBehind_152, f_X3_loopEnds, b_X3_loopEnds_31, b_X3_loopEnds_40, f_X3_enterLoop, s_room2, U28, f_X5_isCell, v_at, v_cCall, v_cPlace, v_cGo, v_cBack, f_X12_inner, b_X12_inner_290, b_X12_inner_268, b_X12_inner_241, b_X12_inner_260, f_X12_turns, b_X12_turns_52, b_X12_turns_61, b_X12_turns_69, U_0, nz, LE400, LT400, or_true, true_or, hz, i1, i2, i3, h3, hx, s1, s2]
              refine ST.m1 ⟨hT, rS.mk2 (by omega) (by omega) ?_, rY.mk2 (by omega) rfl (by omega), hD, hQ, hK, rS.mk2 (by omega) (by omega) ?_, ?_, hO⟩
              all_goals try exact rC.same hl hc
              all_goals try exact rC.back hl hc
              all_goals try exact rC.go hl hz i1 i2 hc
              all_goals (intro i hi; try simp only [upd_at])
              all_goals repeat' split
              all_goals first | rfl | exact hf _ (by omega) | exact hh _ (by omega) | (exfalso; omega) | exact absurd trivial (by assumption) | (simp (disch := omega) only [hf, hh]; done)
            · simp (maxSteps := 500000) (decide := true) (disch := omega) only [f_X3_carryOutNext, f_X3_askFirst, b_X3_askFirst_20, b_X3_askFirst_40, Int32.reduceToNatClampNeg, gp_5, fc_5, tk_5, wi_5, od_5, sw_5, b_X12_done_52, b_X12_done_69, f_X12_isStarred, b_X12_isStarred_42, f_X12_wants, f_X12_wantsStore, b_X12_wantsStore_27, L_0, L_1, L_2, L_3, nlt30, cl_nI, nI_lt0, nI_sub1, nI_sub2, nI_sub3, nI_add1, nI_add2, e_30, Nat.sub_sub, Nat.reduceAdd, hf, hh, sb, ck_T, ckn, not_false_eq_true, false_or, Nat.not_le, ite_self, ↓reduceIte, s_from0, s_from1, s_from2, s_drop1, s_drop2, s_put, s_putF, s_room1, s_room1F, s_take, s_rep, s_raise1, s_raise2, w_push, w_pop, f_X12_done, b_X12_done_40, b_X12_done_41, f_X3_carryOutInner, f_X3_useNumberBehind, f_X3_putAndPass, b_X3_useNumberBehind_98, b_X3_useNumberBehind_122, b_X3_useNumberBehind_152, f_X3_loopEnds, b_X3_loopEnds_31, b_X3_loopEnds_40, f_X3_enterLoop, s_room2, U28, f_X5_isCell, v_at, v_cCall, v_cPlace, v_cGo, v_cBack, f_X12_inner, b_X12_inner_290, b_X12_inner_268, b_X12_inner_241, b_X12_inner_260, f_X12_turns, b_X12_turns_52, b_X12_turns_61, b_X12_turns_69, U_0, nz, LE400, LT400, or_true, true_or, hz, i1, i2, i3, h3, hx, s1, s2]
              refine ST.m1 ⟨hT, rS.mk2 (by omega) (by omega) ?_, rY.mk2 (by omega) rfl (by omega), hD, hQ, hK, rS.mk2 (by omega) (by omega) ?_, ?_, hO⟩
              all_goals try exact rC.same hl hc
              all_goals try exact rC.back hl hc
              all_goals try exact rC.go hl hz i1 i2 hc
              all_goals (intro i hi; try simp only [upd_at])
              all_goals repeat' split
              all_goals first | rfl | exact hf _ (by omega) | exact hh _ (by omega) | (exfalso; omega) | exact absurd trivial (by assumption) | (simp (disch := omega) only [hf, hh]; done)
      · simp (maxSteps := 500000) (decide := true) (disch := omega) only [f_X3_carryOutNext, f_X3_askFirst, b_X3_askFirst_20, b_X3_askFirst_40, Int32.reduceToNatClampNeg, gp_5, fc_5, tk_5, wi_5, od_5, sw_5, b_X12_done_52, b_X12_done_69, f_X12_isStarred, b_X12_isStarred_42, f_X12_wants, f_X12_wantsStore, b_X12_wantsStore_27, L_0, L_1, L_2, L_3, nlt30, cl_nI, nI_lt0, nI_sub1, nI_sub2, nI_sub3, nI_add1, nI_add2, e_30, Nat.sub_sub, Nat.reduceAdd, hf, hh, sb, ck_T, ckn, not_false_eq_true, false_or, Nat.not_le, ite_self, ↓reduceIte, s_from0, s_from1, s_from2, s_drop1, s_drop2, s_put, s_putF, s_room1, s_room1F, s_take, s_rep, s_raise1, s_raise2, w_push, w_pop, f_X12_done, b_X12_done_40, b_X12_done_41, f_X3_carryOutInner, f_X3_useNumberBehind, f_X3_putAndPass, b_X3_useNumberBehind_98, b_X3_useNumberBehind_122, b_X3_useNumberBehind_152, f_X3_loopEnds, b_X3_loopEnds_31, b_X3_loopEnds_40, f_X3_enterLoop, s_room2, U28, f_X5_isCell, v_at, v_cCall, v_cPlace, v_cGo, v_cBack, f_X12_inner, b_X12_inner_290, b_X12_inner_268, b_X12_inner_241, b_X12_inner_260, f_X12_turns, b_X12_turns_52, b_X12_turns_61, b_X12_turns_69, U_0, nz, LE400, LT400, or_true, true_or, hz, i1, i2, i3, h3]
        refine ST.m1 ⟨hT, rS.mk2 (by omega) (by omega) ?_, rY.mk2 (by omega) rfl (by omega), hD, hQ, hK, rS.mk2 (by omega) (by omega) ?_, ?_, hO⟩
        all_goals try exact rC.same hl hc
        all_goals try exact rC.back hl hc
        all_goals try exact rC.go hl hz i1 i2 hc
        all_goals (intro i hi; try simp only [upd_at])
        all_goals repeat' split
        all_goals first | rfl | exact hf _ (by omega) | exact hh _ (by omega) | (exfalso; omega) | exact absurd trivial (by assumption) | (simp (disch := omega) only [hf, hh]; done)
    · simp (maxSteps := 500000) (decide := true) (disch := omega) only [f_X3_carryOutNext, f_X3_askFirst, b_X3_askFirst_20, b_X3_askFirst_40, Int32.reduceToNatClampNeg, gp_5, fc_5, tk_5, wi_5, od_5, sw_5, b_X12_done_52, b_X12_done_69, f_X12_isStarred, b_X12_isStarred_42, f_X12_wants, f_X12_wantsStore, b_X12_wantsStore_27, L_0, L_1, L_2, L_3, nlt30, cl_nI, nI_lt0, nI_sub1, nI_sub2, nI_sub3, nI_add1, nI_add2, e_30, Nat.sub_sub, Nat.reduceAdd, hf, hh, sb, ck_T, ckn, not_false_eq_true, false_or, Nat.not_le, ite_self, ↓reduceIte, s_from0, s_from1, s_from2, s_drop1, s_drop2, s_put, s_putF, s_room1, s_room1F, s_take, s_rep, s_raise1, s_raise2, w_push, w_pop, f_X12_done, b_X12_done_40, b_X12_done_41, f_X3_carryOutInner, f_X3_useNumberBehind, f_X3_putAndPass, b_X3_useNumberBehind_98, b_X3_useNumberBehind_122, b_X3_useNumberBehind_152, f_X3_loopEnds, b_X3_loopEnds_31, b_X3_loopEnds_40, f_X3_enterLoop, s_room2, U28, f_X5_isCell, v_at, v_cCall, v_cPlace, v_cGo, v_cBack, f_X12_inner, b_X12_inner_290, b_X12_inner_268, b_X12_inner_241, b_X12_inner_260, f_X12_turns, b_X12_turns_52, b_X12_turns_61, b_X12_turns_69, U_0, nz, LE400, LT400, or_true, true_or, hz, i1, i3]
      refine ST.m1 ⟨hT, rS.mk2 (by omega) (by omega) ?_, rY.mk2 (by omega) rfl (by omega), hD, hQ, hK, rS.mk2 (by omega) (by omega) ?_, ?_, hO⟩
      all_goals try exact rC.same hl hc
      all_goals try exact rC.back hl hc
      all_goals try exact rC.go hl hz i1 i2 hc
      all_goals (intro i hi; try simp only [upd_at])
      all_goals repeat' split
      all_goals first | rfl | exact hf _ (by omega) | exact hh _ (by omega) | (exfalso; omega) | exact absurd trivial (by assumption) | (simp (disch := omega) only [hf, hh]; done)
theorem wd_6 (hR : REL t s y d q k r c o T S R C Y D K Q O) (al st ca ov an th lf st' ca' re en : Int32) : ST (f_X3_carryOutNext t s y d q k r c o (al, st, ca, 6, ov, an)) (f_X12_done 6 T S R C Y D K Q O (th, lf, st', ca', -1, re, en)) al (st + 1) ca ov an th lf st' ca' re en := by
  obtain ⟨hT, ⟨n, f, F, hn, rfl, rfl, hf⟩, hY, hD, hQ, hK, ⟨p, h, G, hp, rfl, rfl, hh⟩, hC, hO⟩ := hR
  obtain ⟨l, pa, ic, ns, nr, PA, HS, HR, hl, rfl, rfl, hc⟩ := hC
  obtain ⟨rfl, a, z, ha, rfl⟩ := hY
  by_cases hz : l = 0
  · subst hz
    simp (maxSteps := 500000) (decide := true) (disch := omega) only [f_X3_carryOutNext, f_X3_askFirst, b_X3_askFirst_20, b_X3_askFirst_40, Int32.reduceToNatClampNeg, gp_6, fc_6, tk_6, wi_6, od_6, sw_6, b_X12_done_52, b_X12_done_69, f_X12_isStarred, b_X12_isStarred_42, f_X12_wants, f_X12_wantsStore, b_X12_wantsStore_27, L_0, L_1, L_2, L_3, nlt30, cl_nI, nI_lt0, nI_sub1, nI_sub2, nI_sub3, nI_add1, nI_add2, e_30, Nat.sub_sub, Nat.reduceAdd, hf, hh, sb, ck_T, ckn, not_false_eq_true, false_or, Nat.not_le, ite_self, ↓reduceIte, s_from0, s_from1, s_from2, s_drop1, s_drop2, s_put, s_putF, s_room1, s_room1F, s_take, s_rep, s_raise1, s_raise2, w_push, w_pop, f_X12_done, b_X12_done_40, b_X12_done_41, f_X3_carryOutInner, f_X3_useNumberBehind, f_X3_putAndPass, b_X3_useNumberBehind_98, b_X3_useNumberBehind_122, b_X3_useNumberBehind_152, f_X3_loopEnds, b_X3_loopEnds_31, b_X3_loopEnds_40, f_X3_enterLoop, s_room2, U28, f_X5_isCell, v_at, v_cCall, v_cPlace, v_cGo, v_cBack, f_X12_inner, b_X12_inner_290, b_X12_inner_268, b_X12_inner_241, b_X12_inner_260, f_X12_turns, b_X12_turns_52, b_X12_turns_61, b_X12_turns_69, U_0, nz, LE400, LT400, or_true, true_or]
    refine ST.m1 ⟨hT, rS.mk2 (by omega) (by omega) ?_, rY.mk2 (by omega) rfl (by omega), hD, hQ, hK, rS.mk2 (by omega) (by omega) ?_, ?_, hO⟩
    all_goals try exact rC.same hl hc
    all_goals try exact rC.back hl hc
    all_goals try exact rC.go hl hz i1 i2 hc
    all_goals (intro i hi; try simp only [upd_at])
    all_goals repeat' split
    all_goals first | rfl | exact hf _ (by omega) | exact hh _ (by omega) | (exfalso; omega) | exact absurd trivial (by assumption) | (simp (disch := omega) only [hf, hh]; done)
  · rcases hc (l - 1) (by omega) with ⟨i1, i2, i3⟩ | ⟨i1, u, v, hu, hv, i2, i3, i4, i5⟩
    · by_cases h1 : 1 ≤ n
      · by_cases h3 : 2 ≤ p
        · rcases pk_ix (pa (l - 1)) (n := 400) (by omega) with hx | hx | ⟨j, hj, hx⟩
          · simp (maxSteps := 500000) (decide := true) (disch := omega) only [f_X3_carryOutNext, f_X3_askFirst, b_X3_askFirst_20, b_X3_askFirst_40, Int32.reduceToNatClampNeg, gp_6, fc_6, tk_6, wi_6, od_6, sw_6, b_X12_done_52, b_X12_done_69, f_X12_isStarred, b_X12_isStarred_42, f_X12_wants, f_X12_wantsStore, b_X12_wantsStore_27, L_0, L_1, L_2, L_3, nlt30, cl_nI, nI_lt0, nI_sub1, nI_sub2, nI_sub3, nI_add1, nI_add2, e_30, Nat.sub_sub, Nat.reduceAdd, hf, hh, sb, ck_T, ckn, not_false_eq_true, false_or, Nat.not_le, ite_self, ↓reduceIte, s_from0, s_from1, s_from2, s_drop1, s_drop2, s_put, s_putF, s_room1, s_room1F, s_take, s_rep, s_raise1, s_raise2, w_push, w_pop, f_X12_done, b_X12_done_40, b_X12_done_41, f_X3_carryOutInner, f_X3_useNumberBehind, f_X3_putAndPass, b_X3_useNumberBehind_98, b_X3_useNumberBehind_122, b_X3_useNumberBehind_152, f_X3_loopEnds, b_X3_loopEnds_31, b_X3_loopEnds_40, f_X3_enterLoop, s_room2, U28, f_X5_isCell, v_at, v_cCall, v_cPlace, v_cGo, v_cBack, f_X12_inner, b_X12_inner_290, b_X12_inner_268, b_X12_inner_241, b_X12_inner_260, f_X12_turns, b_X12_turns_52, b_X12_turns_61, b_X12_turns_69, U_0, nz, LE400, LT400, or_true, true_or, hz, i1, i2, i3, h1, h3, hx]
            refine ST.m1 ⟨hT, rS.mk2 (by omega) (by omega) ?_, rY.mk2 (by omega) rfl (by omega), hD, hQ, hK, rS.mk2 (by omega) (by omega) ?_, ?_, hO⟩
            all_goals try exact rC.same hl hc
            all_goals try exact rC.back hl hc
            all_goals try exact rC.go hl hz i1 i2 hc
            all_goals (intro i hi; try simp only [upd_at])
            all_goals repeat' split
            all_goals first | rfl | exact hf _ (by omega) | exact hh _ (by omega) | (exfalso; omega) | exact absurd trivial (by assumption) | (simp (disch := omega) only [hf, hh]; done)
          · have hx1 : (400 : Int32) ≤ pa (l - 1) := hx
            have hx0 := ge0 hx1
            have hx2 := lt_of_nle hx1
            simp (maxSteps := 500000) (decide := true) (disch := omega) only [f_X3_carryOutNext, f_X3_askFirst, b_X3_askFirst_20, b_X3_askFirst_40, Int32.reduceToNatClampNeg, gp_6, fc_6, tk_6, wi_6, od_6, sw_6, b_X12_done_52, b_X12_done_69, f_X12_isStarred, b_X12_isStarred_42, f_X12_wants, f_X12_wantsStore, b_X12_wantsStore_27, L_0, L_1, L_2, L_3, nlt30, cl_nI, nI_lt0, nI_sub1, nI_sub2, nI_sub3, nI_add1, nI_add2, e_30, Nat.sub_sub, Nat.reduceAdd, hf, hh, sb, ck_T, ckn, not_false_eq_true, false_or, Nat.not_le, ite_self, ↓reduceIte, s_from0, s_from1, s_from2, s_drop1, s_drop2, s_put, s_putF, s_room1, s_room1F, s_take, s_rep, s_raise1, s_raise2, w_push, w_pop, f_X12_done, b_X12_done_40, b_X12_done_41, f_X3_carryOutInner, f_X3_useNumberBehind, f_X3_putAndPass, b_X3_useNumberBehind_98, b_X3_useNumberBehind_122, b_X3_useNumberBehind_152, f_X3_loopEnds, b_X3_loopEnds_31, b_X3_loopEnds_40, f_X3_enterLoop, s_room2, U28, f_X5_isCell, v_at, v_cCall, v_cPlace, v_cGo, v_cBack, f_X12_inner, b_X12_inner_290, b_X12_inner_268, b_X12_inner_241, b_X12_inner_260, f_X12_turns, b_X12_turns_52, b_X12_turns_61, b_X12_turns_69, U_0, nz, LE400, LT400, or_true, true_or, hz, i1, i2, i3, h1, h3, hx0, hx1, hx2]
            refine ST.m1 ⟨hT, rS.mk2 (by omega) (by omega) ?_, rY.mk2 (by omega) rfl (by omega), hD, hQ, hK, rS.mk2 (by omega) (by omega) ?_, ?_, hO⟩
            all_goals try exact rC.same hl hc
            all_goals try exact rC.back hl hc
            all_goals try exact rC.go hl hz i1 i2 hc
            all_goals (intro i hi; try simp only [upd_at])
            all_goals repeat' split
            all_goals first | rfl | exact hf _ (by omega) | exact hh _ (by omega) | (exfalso; omega) | exact absurd trivial (by assumption) | (simp (disch := omega) only [hf, hh]; done)
          · by_cases s1 : 0 ≤ h (p - 1) - h (p - 2)
            · by_cases s2 : 0 ≤ h (p - 1) - h (p - 2) + f (n - 1)
              · simp (maxSteps := 500000) (decide := true) (disch := omega) only [f_X3_carryOutNext, f_X3_askFirst, b_X3_askFirst_20, b_X3_askFirst_40, Int32.reduceToNatClampNeg, gp_6, fc_6, tk_6, wi_6, od_6, sw_6, b_X12_done_52, b_X12_done_69, f_X12_isStarred, b_X12_isStarred_42, f_X12_wants, f_X12_wantsStore, b_X12_wantsStore_27, L_0, L_1, L_2, L_3, nlt30, cl_nI, nI_lt0, nI_sub1, nI_sub2, nI_sub3, nI_add1, nI_add2, e_30, Nat.sub_sub, Nat.reduceAdd, hf, hh, sb, ck_T, ckn, not_false_eq_true, false_or, Nat.not_le, ite_self, ↓reduceIte, s_from0, s_from1, s_from2, s_drop1, s_drop2, s_put, s_putF, s_room1, s_room1F, s_take, s_rep, s_raise1, s_raise2, w_push, w_pop, f_X12_done, b_X12_done_40, b_X12_done_41, f_X3_carryOutInner, f_X3_useNumberBehind, f_X3_putAndPass, b_X3_useNumberBehind_98, b_X3_useNumberBehind_122, b_X3_useNumberBehind_152, f_X3_loopEnds, b_X3_loopEnds_31, b_X3_loopEnds_40, f_X3_enterLoop, s_room2, U28, f_X5_isCell, v_at, v_cCall, v_cPlace, v_cGo, v_cBack, f_X12_inner, b_X12_inner_290, b_X12_inner_268, b_X12_inner_241, b_X12_inner_260, f_X12_turns, b_X12_turns_52, b_X12_turns_61, b_X12_turns_69, U_0, nz, LE400, LT400, or_true, true_or, hz, i1, i2, i3, h1, h3, hx, s1, s2]
                refine ST.m1 ⟨hT, rS.mk2 (by omega) (by omega) ?_, rY.mk2 (by omega) rfl (by omega), hD, hQ, hK, rS.mk2 (by omega) (by omega) ?_, ?_, hO⟩
                all_goals try exact rC.same hl hc
                all_goals try exact rC.back hl hc
                all_goals try exact rC.go hl hz i1 i2 hc
                all_goals (intro i hi; try simp only [upd_at])
                all_goals repeat' split
                all_goals first | rfl | exact hf _ (by omega) | exact hh _ (by omega) | (exfalso; omega) | exact absurd trivial (by assumption) | (simp (disch := omega) only [hf, hh]; done)
              · simp (maxSteps := 500000) (decide := true) (disch := omega) only [f_X3_carryOutNext, f_X3_askFirst, b_X3_askFirst_20, b_X3_askFirst_40, Int32.reduceToNatClampNeg, gp_6, fc_6, tk_6, wi_6, od_6, sw_6, b_X12_done_52, b_X12_done_69, f_X12_isStarred, b_X12_isStarred_42, f_X12_wants, f_X12_wantsStore, b_X12_wantsStore_27, L_0, L_1, L_2, L_3, nlt30, cl_nI, nI_lt0, nI_sub1, nI_sub2, nI_sub3, nI_add1, nI_add2, e_30, Nat.sub_sub, Nat.reduceAdd, hf, hh, sb, ck_T, ckn, not_false_eq_true, false_or, Nat.not_le, ite_self, ↓reduceIte, s_from0, s_from1, s_from2, s_drop1, s_drop2, s_put, s_putF, s_room1, s_room1F, s_take, s_rep, s_raise1, s_raise2, w_push, w_pop, f_X12_done, b_X12_done_40, b_X12_done_41, f_X3_carryOutInner, f_X3_useNumberBehind, f_X3_putAndPass, b_X3_useNumberBehind_98, b_X3_useNumberBehind_122, b_X3_useNumberBehind_152, f_X3_loopEnds, b_X3_loopEnds_31, b_X3_loopEnds_40, f_X3_enterLoop, s_room2, U28, f_X5_isCell, v_at, v_cCall, v_cPlace, v_cGo, v_cBack, f_X12_inner, b_X12_inner_290, b_X12_inner_268, b_X12_inner_241, b_X12_inner_260, f_X12_turns, b_X12_turns_52, b_X12_turns_61, b_X12_turns_69, U_0, nz, LE400, LT400, or_true, true_or, hz, i1, i2, i3, h1, h3, hx, s1, s2]
                refine ST.m1 ⟨hT, rS.mk2 (by omega) (by omega) ?_, rY.mk2 (by omega) rfl (by omega), hD, hQ, hK, rS.mk2 (by omega) (by omega) ?_, ?_, hO⟩
                all_goals try exact rC.same hl hc
                all_goals try exact rC.back hl hc
                all_goals try exact rC.go hl hz i1 i2 hc
                all_goals (intro i hi; try simp only [upd_at])
                all_goals repeat' split
                all_goals first | rfl | exact hf _ (by omega) | exact hh _ (by omega) | (exfalso; omega) | exact absurd trivial (by assumption) | (simp (disch := omega) only [hf, hh]; done)
            · by_cases s2 : 0 ≤ h (p - 1) - h (p - 2) + f (n - 1)
              · simp (maxSteps := 500000) (decide := true) (disch := omega) only [f_X3_carryOutNext, f_X3_askFirst, b_X3_askFirst_20, b_X3_askFirst_40, Int32.reduceToNatClampNeg, gp_6, fc_6, tk_6, wi_6, od_6, sw_6, b_X12_done_52, b_X12_done_69, f_X12_isStarred, b_X12_isStarred_42, f_X12_wants, f_X12_wantsStore, b_X12_wantsStore_27, L_0, L_1, L_2, L_3, nlt30, cl_nI, nI_lt0, nI_sub1, nI_sub2, nI_sub3, nI_add1, nI_add2, e_30, Nat.sub_sub, Nat.reduceAdd, hf, hh, sb, ck_T, ckn, not_false_eq_true, false_or, Nat.not_le, ite_self, ↓reduceIte, s_from0, s_from1, s_from2, s_drop1, s_drop2, s_put, s_putF, s_room1, s_room1F, s_take, s_rep, s_raise1, s_raise2, w_push, w_pop, f_X12_done, b_X12_done_40, b_X12_done_41, f_X3_carryOutInner, f_X3_useNumberBehind, f_X3_putAndPass, b_X3_useNumberBehind_98, b_X3_useNumberBehind_122, b_X3_useNumberBehind_152, f_X3_loopEnds, b_X3_loopEnds_31, b_X3_loopEnds_40, f_X3_enterLoop, s_room2, U28, f_X5_isCell, v_at, v_cCall, v_cPlace, v_cGo, v_cBack, f_X12_inner, b_X12_inner_290, b_X12_inner_268, b_X12_inner_241, b_X12_inner_260, f_X12_turns, b_X12_turns_52, b_X12_turns_61, b_X12_turns_69, U_0, nz, LE400, LT400, or_true, true_or, hz, i1, i2, i3, h1, h3, hx, s1, s2]
                refine ST.m1 ⟨hT, rS.mk2 (by omega) (by omega) ?_, rY.mk2 (by omega) rfl (by omega), hD, hQ, hK, rS.mk2 (by omega) (by omega) ?_, ?_, hO⟩
                all_goals try exact rC.same hl hc
                all_goals try exact rC.back hl hc
                all_goals try exact rC.go hl hz i1 i2 hc
                all_goals (intro i hi; try simp only [upd_at])
                all_goals repeat' split
                all_goals first | rfl | exact hf _ (by omega) | exact hh _ (by omega) | (exfalso; omega) | exact absurd trivial (by assumption) | (simp (disch := omega) only [hf, hh]; done)
              · simp (maxSteps := 500000) (decide := true) (disch := omega) only [f_X3_carryOutNext, f_X3_askFirst, b_X3_askFirst_20, b_X3_askFirst_40, Int32.reduceToNatClampNeg, gp_6, fc_6, tk_6, wi_6, od_6, sw_6, b_X12_done_52, b_X12_done_69, f_X12_isStarred, b_X12_isStarred_42, f_X12_wants, f_X12_wantsStore, b_X12_wantsStore_27, L_0, L_1, L_2, L_3, nlt30, cl_nI, nI_lt0, nI_sub1, nI_sub2, nI_sub3, nI_add1, nI_add2, e_30, Nat.sub_sub, Nat.reduceAdd, hf, hh, sb, ck_T, ckn, not_false_eq_true, false_or, Nat.not_le, ite_self, ↓reduceIte, s_from0, s_from1, s_from2, s_drop1, s_drop2, s_put, s_putF, s_room1, s_room1F, s_take, s_rep, s_raise1, s_raise2, w_push, w_pop, f_X12_done, b_X12_done_40, b_X12_done_41, f_X3_carryOutInner, f_X3_useNumberBehind, f_X3_putAndPass, b_X3_useNumberBehind_98, b_X3_useNumberBehind_122, b_X3_useNumberBehind_152, f_X3_loopEnds, b_X3_loopEnds_31, b_X3_loopEnds_40, f_X3_enterLoop, s_room2, U28, f_X5_isCell, v_at, v_cCall, v_cPlace, v_cGo, v_cBack, f_X12_inner, b_X12_inner_290, b_X12_inner_268, b_X12_inner_241, b_X12_inner_260, f_X12_turns, b_X12_turns_52, b_X12_turns_61, b_X12_turns_69, U_0, nz, LE400, LT400, or_true, true_or, hz, i1, i2, i3, h1, h3, hx, s1, s2]
                refine ST.m1 ⟨hT, rS.mk2 (by omega) (by omega) ?_, rY.mk2 (by omega) rfl (by omega), hD, hQ, hK, rS.mk2 (by omega) (by omega) ?_, ?_, hO⟩
                all_goals try exact rC.same hl hc
                all_goals try exact rC.back hl hc
                all_goals try exact rC.go hl hz i1 i2 hc
                all_goals (intro i hi; try simp only [upd_at])
                all_goals repeat' split
                all_goals first | rfl | exact hf _ (by omega) | exact hh _ (by omega) | (exfalso; omega) | exact absurd trivial (by assumption) | (simp (disch := omega) only [hf, hh]; done)
        · simp (maxSteps := 500000) (decide := true) (disch := omega) only [f_X3_carryOutNext, f_X3_askFirst, b_X3_askFirst_20, b_X3_askFirst_40, Int32.reduceToNatClampNeg, gp_6, fc_6, tk_6, wi_6, od_6, sw_6, b_X12_done_52, b_X12_done_69, f_X12_isStarred, b_X12_isStarred_42, f_X12_wants, f_X12_wantsStore, b_X12_wantsStore_27, L_0, L_1, L_2, L_3, nlt30, cl_nI, nI_lt0, nI_sub1, nI_sub2, nI_sub3, nI_add1, nI_add2, e_30, Nat.sub_sub, Nat.reduceAdd, hf, hh, sb, ck_T, ckn, not_false_eq_true, false_or, Nat.not_le, ite_self, ↓reduceIte, s_from0, s_from1, s_from2, s_drop1, s_drop2, s_put, s_putF, s_room1, s_room1F, s_take, s_rep, s_raise1, s_raise2, w_push, w_pop, f_X12_done, b_X12_done_40, b_X12_done_41, f_X3_carryOutInner, f_X3_useNumberBehind, f_X3_putAndPass, b_X3_useNumberBehind_98, b_X3_useNumberBehind_122, b_X3_useNumberBehind_152, f_X3_loopEnds, b_X3_loopEnds_31, b_X3_loopEnds_40, f_X3_enterLoop, s_room2, U28, f_X5_isCell, v_at, v_cCall, v_cPlace, v_cGo, v_cBack, f_X12_inner, b_X12_inner_290, b_X12_inner_268, b_X12_inner_241, b_X12_inner_260, f_X12_turns, b_X12_turns_52, b_X12_turns_61, b_X12_turns_69, U_0, nz, LE400, LT400, or_true, true_or, hz, i1, i2, i3, h1, h3]
          refine ST.m1 ⟨hT, rS.mk2 (by omega) (by omega) ?_, rY.mk2 (by omega) rfl (by omega), hD, hQ, hK, rS.mk2 (by omega) (by omega) ?_, ?_, hO⟩
          all_goals try exact rC.same hl hc
          all_goals try exact rC.back hl hc
          all_goals try exact rC.go hl hz i1 i2 hc
          all_goals (intro i hi; try simp only [upd_at])
          all_goals repeat' split
          all_goals first | rfl | exact hf _ (by omega) | exact hh _ (by omega) | (exfalso; omega) | exact absurd trivial (by assumption) | (simp (disch := omega) only [hf, hh]; done)
      · simp (maxSteps := 500000) (decide := true) (disch := omega) only [f_X3_carryOutNext, f_X3_askFirst, b_X3_askFirst_20, b_X3_askFirst_40, Int32.reduceToNatClampNeg, gp_6, fc_6, tk_6, wi_6, od_6, sw_6, b_X12_done_52, b_X12_done_69, f_X12_isStarred, b_X12_isStarred_42, f_X12_wants, f_X12_wantsStore, b_X12_wantsStore_27, L_0, L_1, L_2, L_3, nlt30, cl_nI, nI_lt0, nI_sub1, nI_sub2, nI_sub3, nI_add1, nI_add2, e_30, Nat.sub_sub, Nat.reduceAdd, hf, hh, sb, ck_T, ckn, not_false_eq_true, false_or, Nat.not_le, ite_self, ↓reduceIte, s_from0, s_from1, s_from2, s_drop1, s_drop2, s_put, s_putF, s_room1, s_room1F, s_take, s_rep, s_raise1, s_raise2, w_push, w_pop, f_X12_done, b_X12_done_40, b_X12_done_41, f_X3_carryOutInner, f_X3_useNumberBehind, f_X3_putAndPass, b_X3_useNumberBehind_98, b_X3_useNumberBehind_122, b_X3_useNumberBehind_152, f_X3_loopEnds, b_X3_loopEnds_31, b_X3_loopEnds_40, f_X3_enterLoop, s_room2, U28, f_X5_isCell, v_at, v_cCall, v_cPlace, v_cGo, v_cBack, f_X12_inner, b_X12_inner_290, b_X12_inner_268, b_X12_inner_241, b_X12_inner_260, f_X12_turns, b_X12_turns_52, b_X12_turns_61, b_X12_turns_69, U_0, nz, LE400, LT400, or_true, true_or, hz, i1, i2, i3, h1]
        refine ST.m1 ⟨hT, rS.mk2 (by omega) (by omega) ?_, rY.mk2 (by omega) rfl (by omega), hD, hQ, hK, rS.mk2 (by omega) (by omega) ?_, ?_, hO⟩
        all_goals try exact rC.same hl hc
        all_goals try exact rC.back hl hc
        all_goals try exact rC.go hl hz i1 i2 hc
        all_goals (intro i hi; try simp only [upd_at])
        all_goals repeat' split
        all_goals first | rfl | exact hf _ (by omega) | exact hh _ (by omega) | (exfalso; omega) | exact absurd trivial (by assumption) | (simp (disch := omega) only [hf, hh]; done)
    · simp (maxSteps := 500000) (decide := true) (disch := omega) only [f_X3_carryOutNext, f_X3_askFirst, b_X3_askFirst_20, b_X3_askFirst_40, Int32.reduceToNatClampNeg, gp_6, fc_6, tk_6, wi_6, od_6, sw_6, b_X12_done_52, b_X12_done_69, f_X12_isStarred, b_X12_isStarred_42, f_X12_wants, f_X12_wantsStore, b_X12_wantsStore_27, L_0, L_1, L_2, L_3, nlt30, cl_nI, nI_lt0, nI_sub1, nI_sub2, nI_sub3, nI_add1, nI_add2, e_30, Nat.sub_sub, Nat.reduceAdd, hf, hh, sb, ck_T, ckn, not_false_eq_true, false_or, Nat.not_le, ite_self, ↓reduceIte, s_from0, s_from1, s_from2, s_drop1, s_drop2, s_put, s_putF, s_room1, s_room1F, s_take, s_rep, s_raise1, s_raise2, w_push, w_pop, f_X12_done, b_X12_done_40, b_X12_done_41, f_X3_carryOutInner, f_X3_useNumberBehind, f_X3_putAndPass, b_X3_useNumberBehind_98, b_X3_useNumberBehind_122, b_X3_useNumberBehind_152, f_X3_loopEnds, b_X3_loopEnds_31, b_X3_loopEnds_40, f_X3_enterLoop, s_room2, U28, f_X5_isCell, v_at, v_cCall, v_cPlace, v_cGo, v_cBack, f_X12_inner, b_X12_inner_290, b_X12_inner_268, b_X12_inner_241, b_X12_inner_260, f_X12_turns, b_X12_turns_52, b_X12_turns_61, b_X12_turns_69, U_0, nz, LE400, LT400, or_true, true_or, hz, i1, i3]
      refine ST.m1 ⟨hT, rS.mk2 (by omega) (by omega) ?_, rY.mk2 (by omega) rfl (by omega), hD, hQ, hK, rS.mk2 (by omega) (by omega) ?_, ?_, hO⟩
      all_goals try exact rC.same hl hc
      all_goals try exact rC.back hl hc
      all_goals try exact rC.go hl hz i1 i2 hc
      all_goals (intro i hi; try simp only [upd_at])
      all_goals repeat' split
      all_goals first | rfl | exact hf _ (by omega) | exact hh _ (by omega) | (exfalso; omega) | exact absurd trivial (by assumption) | (simp (disch := omega) only [hf, hh]; done)
theorem wd_7 (hR : REL t s y d q k r c o T S R C Y D K Q O) (hP : PL c) (al st ca ov an th lf st' ca' re en : Int32) : ST (f_X3_carryOutNext t s y d q k r c o (al, st, ca, 7, ov, an)) (f_X12_done 7 T S R C Y D K Q O (th, lf, st', ca', -1, re, en)) al (st + 1) ca ov an th lf st' ca' re en := by
  obtain ⟨hT, ⟨n, f, F, hn, rfl, rfl, hf⟩, hY, hD, hQ, hK, ⟨p, h, G, hp, rfl, rfl, hh⟩, hC, hO⟩ := hR
  obtain ⟨l, pa, ic, ns, nr, PA, HS, HR, hl, rfl, rfl, hc⟩ := hC
  obtain ⟨rfl, a, z, ha, rfl⟩ := hY
  obtain ⟨e, bg, le, ln, pl, so, be, im, fi, he, rfl, rfl, hbg, hW⟩ := hD
  by_cases hz : l = 0
  · subst hz
    simp (maxSteps := 500000) (decide := true) (disch := omega) only [f_X3_carryOutNext, f_X3_askFirst, b_X3_askFirst_20, b_X3_askFirst_40, Int32.reduceToNatClampNeg, gp_7, fc_7, tk_7, wi_7, od_7, sw_7, b_X12_done_52, b_X12_done_69, f_X12_isStarred, b_X12_isStarred_42, f_X12_wants, f_X12_wantsStore, b_X12_wantsStore_27, L_0, L_1, L_2, L_3, nlt30, cl_nI, nI_lt0, nI_sub1, nI_sub2, nI_sub3, nI_add1, nI_add2, e_30, Nat.sub_sub, Nat.reduceAdd, hf, hh, sb, ck_T, ckn, not_false_eq_true, false_or, Nat.not_le, ite_self, ↓reduceIte, s_from0, s_from1, s_from2, s_drop1, s_drop2, s_put, s_putF, s_room1, s_room1F, s_take, s_rep, s_raise1, s_raise2, w_push, w_pop, f_X12_done, b_X12_done_40, b_X12_done_41, f_X3_carryOutInner, f_X3_useNumberBehind, f_X3_putAndPass, b_X3_useNumberBehind_98, b_X3_useNumberBehind_122, b_X3_useNumberBehind_152, f_X3_loopEnds, b_X3_loopEnds_31, b_X3_loopEnds_40, f_X3_enterLoop, s_room2, U28, f_X5_isCell, v_at, v_cCall, v_cPlace, v_cGo, v_cBack, f_X12_inner, b_X12_inner_290, b_X12_inner_268, b_X12_inner_241, b_X12_inner_260, f_X12_turns, b_X12_turns_52, b_X12_turns_61, b_X12_turns_69, U_0, nz, LE400, LT400, or_true, true_or, f_X3_giveBehaviour, f_X2_giveBehaviourToLatest, e_0]
    refine ST.m1 ⟨hT, rS.mk2 (by omega) (by omega) ?_, rY.mk2 (by omega) rfl (by omega), ?_, hQ, hK, rS.mk2 (by omega) (by omega) ?_, ?_, hO⟩
    all_goals try exact rD.same he hbg hW
    all_goals try exact rD.beh he hbg hW hu
    all_goals try exact rC.same hl hc
    all_goals try exact rC.back hl hc
    all_goals try exact rC.go hl hz i1 i2 hc
    all_goals (intro i hi; try simp only [upd_at])
    all_goals repeat' split
    all_goals first | rfl | exact hf _ (by omega) | exact hh _ (by omega) | (exfalso; omega) | exact absurd trivial (by assumption) | (simp (disch := omega) only [hf, hh]; done)
  · rcases hc (l - 1) (by omega) with ⟨i1, i2, i3⟩ | ⟨i1, u, v, hu, hv, i2, i3, i4, i5⟩
    · obtain ⟨u, hu, hpu⟩ : ∃ u : Nat, u ≤ 400 ∧ pa (l - 1) = nI u := hP (l - 1) (by rw [Nat.sub_add_cancel (by omega)]) (by omega) i1
      by_cases he0 : e = 0
      · subst he0
        simp (maxSteps := 500000) (decide := true) (disch := omega) only [f_X3_carryOutNext, f_X3_askFirst, b_X3_askFirst_20, b_X3_askFirst_40, Int32.reduceToNatClampNeg, gp_7, fc_7, tk_7, wi_7, od_7, sw_7, b_X12_done_52, b_X12_done_69, f_X12_isStarred, b_X12_isStarred_42, f_X12_wants, f_X12_wantsStore, b_X12_wantsStore_27, L_0, L_1, L_2, L_3, nlt30, cl_nI, nI_lt0, nI_sub1, nI_sub2, nI_sub3, nI_add1, nI_add2, e_30, Nat.sub_sub, Nat.reduceAdd, hf, hh, sb, ck_T, ckn, not_false_eq_true, false_or, Nat.not_le, ite_self, ↓reduceIte, s_from0, s_from1, s_from2, s_drop1, s_drop2, s_put, s_putF, s_room1, s_room1F, s_take, s_rep, s_raise1, s_raise2, w_push, w_pop, f_X12_done, b_X12_done_40, b_X12_done_41, f_X3_carryOutInner, f_X3_useNumberBehind, f_X3_putAndPass, b_X3_useNumberBehind_98, b_X3_useNumberBehind_122, b_X3_useNumberBehind_152, f_X3_loopEnds, b_X3_loopEnds_31, b_X3_loopEnds_40, f_X3_enterLoop, s_room2, U28, f_X5_isCell, v_at, v_cCall, v_cPlace, v_cGo, v_cBack, f_X12_inner, b_X12_inner_290, b_X12_inner_268, b_X12_inner_241, b_X12_inner_260, f_X12_turns, b_X12_turns_52, b_X12_turns_61, b_X12_turns_69, U_0, nz, LE400, LT400, or_true, true_or, f_X3_giveBehaviour, f_X2_giveBehaviourToLatest, e_0, hz, i1, i2, i3, hpu]
        refine ST.m1 ⟨hT, rS.mk2 (by omega) (by omega) ?_, rY.mk2 (by omega) rfl (by omega), ?_, hQ, hK, rS.mk2 (by omega) (by omega) ?_, ?_, hO⟩
        all_goals try exact rD.same he hbg hW
        all_goals try exact rD.beh he hbg hW hu
        all_goals try exact rC.same hl hc
        all_goals try exact rC.back hl hc
        all_goals try exact rC.go hl hz i1 i2 hc
        all_goals (intro i hi; try simp only [upd_at])
        all_goals repeat' split
        all_goals first | rfl | exact hf _ (by omega) | exact hh _ (by omega) | (exfalso; omega) | exact absurd trivial (by assumption) | (simp (disch := omega) only [hf, hh]; done)
      · by_cases hs : so (e - 1) = 2
        · simp (maxSteps := 500000) (decide := true) (disch := omega) only [f_X3_carryOutNext, f_X3_askFirst, b_X3_askFirst_20, b_X3_askFirst_40, Int32.reduceToNatClampNeg, gp_7, fc_7, tk_7, wi_7, od_7, sw_7, b_X12_done_52, b_X12_done_69, f_X12_isStarred, b_X12_isStarred_42, f_X12_wants, f_X12_wantsStore, b_X12_wantsStore_27, L_0, L_1, L_2, L_3, nlt30, cl_nI, nI_lt0, nI_sub1, nI_sub2, nI_sub3, nI_add1, nI_add2, e_30, Nat.sub_sub, Nat.reduceAdd, hf, hh, sb, ck_T, ckn, not_false_eq_true, false_or, Nat.not_le, ite_self, ↓reduceIte, s_from0, s_from1, s_from2, s_drop1, s_drop2, s_put, s_putF, s_room1, s_room1F, s_take, s_rep, s_raise1, s_raise2, w_push, w_pop, f_X12_done, b_X12_done_40, b_X12_done_41, f_X3_carryOutInner, f_X3_useNumberBehind, f_X3_putAndPass, b_X3_useNumberBehind_98, b_X3_useNumberBehind_122, b_X3_useNumberBehind_152, f_X3_loopEnds, b_X3_loopEnds_31, b_X3_loopEnds_40, f_X3_enterLoop, s_room2, U28, f_X5_isCell, v_at, v_cCall, v_cPlace, v_cGo, v_cBack, f_X12_inner, b_X12_inner_290, b_X12_inner_268, b_X12_inner_241, b_X12_inner_260, f_X12_turns, b_X12_turns_52, b_X12_turns_61, b_X12_turns_69, U_0, nz, LE400, LT400, or_true, true_or, f_X3_giveBehaviour, f_X2_giveBehaviourToLatest, e_0, hz, i1, i2, i3, hpu, he0, hs]
          refine ST.m1 ⟨hT, rS.mk2 (by omega) (by omega) ?_, rY.mk2 (by omega) rfl (by omega), ?_, hQ, hK, rS.mk2 (by omega) (by omega) ?_, ?_, hO⟩
          all_goals try exact rD.same he hbg hW
          all_goals try exact rD.beh he hbg hW hu
          all_goals try exact rC.same hl hc
          all_goals try exact rC.back hl hc
          all_goals try exact rC.go hl hz i1 i2 hc
          all_goals (intro i hi; try simp only [upd_at])
          all_goals repeat' split
          all_goals first | rfl | exact hf _ (by omega) | exact hh _ (by omega) | (exfalso; omega) | exact absurd trivial (by assumption) | (simp (disch := omega) only [hf, hh]; done)
        · simp (maxSteps := 500000) (decide := true) (disch := omega) only [f_X3_carryOutNext, f_X3_askFirst, b_X3_askFirst_20, b_X3_askFirst_40, Int32.reduceToNatClampNeg, gp_7, fc_7, tk_7, wi_7, od_7, sw_7, b_X12_done_52, b_X12_done_69, f_X12_isStarred, b_X12_isStarred_42, f_X12_wants, f_X12_wantsStore, b_X12_wantsStore_27, L_0, L_1, L_2, L_3, nlt30, cl_nI, nI_lt0, nI_sub1, nI_sub2, nI_sub3, nI_add1, nI_add2, e_30, Nat.sub_sub, Nat.reduceAdd, hf, hh, sb, ck_T, ckn, not_false_eq_true, false_or, Nat.not_le, ite_self, ↓reduceIte, s_from0, s_from1, s_from2, s_drop1, s_drop2, s_put, s_putF, s_room1, s_room1F, s_take, s_rep, s_raise1, s_raise2, w_push, w_pop, f_X12_done, b_X12_done_40, b_X12_done_41, f_X3_carryOutInner, f_X3_useNumberBehind, f_X3_putAndPass, b_X3_useNumberBehind_98, b_X3_useNumberBehind_122, b_X3_useNumberBehind_152, f_X3_loopEnds, b_X3_loopEnds_31, b_X3_loopEnds_40, f_X3_enterLoop, s_room2, U28, f_X5_isCell, v_at, v_cCall, v_cPlace, v_cGo, v_cBack, f_X12_inner, b_X12_inner_290, b_X12_inner_268, b_X12_inner_241, b_X12_inner_260, f_X12_turns, b_X12_turns_52, b_X12_turns_61, b_X12_turns_69, U_0, nz, LE400, LT400, or_true, true_or, f_X3_giveBehaviour, f_X2_giveBehaviourToLatest, e_0, hz, i1, i2, i3, hpu, he0, hs]
          refine ST.m1 ⟨hT, rS.mk2 (by omega) (by omega) ?_, rY.mk2 (by omega) rfl (by omega), ?_, hQ, hK, rS.mk2 (by omega) (by omega) ?_, ?_, hO⟩
          all_goals try exact rD.same he hbg hW
          all_goals try exact rD.beh he hbg hW hu
          all_goals try exact rC.same hl hc
          all_goals try exact rC.back hl hc
          all_goals try exact rC.go hl hz i1 i2 hc
          all_goals (intro i hi; try simp only [upd_at])
          all_goals repeat' split
          all_goals first | rfl | exact hf _ (by omega) | exact hh _ (by omega) | (exfalso; omega) | exact absurd trivial (by assumption) | (simp (disch := omega) only [hf, hh]; done)
    · simp (maxSteps := 500000) (decide := true) (disch := omega) only [f_X3_carryOutNext, f_X3_askFirst, b_X3_askFirst_20, b_X3_askFirst_40, Int32.reduceToNatClampNeg, gp_7, fc_7, tk_7, wi_7, od_7, sw_7, b_X12_done_52, b_X12_done_69, f_X12_isStarred, b_X12_isStarred_42, f_X12_wants, f_X12_wantsStore, b_X12_wantsStore_27, L_0, L_1, L_2, L_3, nlt30, cl_nI, nI_lt0, nI_sub1, nI_sub2, nI_sub3, nI_add1, nI_add2, e_30, Nat.sub_sub, Nat.reduceAdd, hf, hh, sb, ck_T, ckn, not_false_eq_true, false_or, Nat.not_le, ite_self, ↓reduceIte, s_from0, s_from1, s_from2, s_drop1, s_drop2, s_put, s_putF, s_room1, s_room1F, s_take, s_rep, s_raise1, s_raise2, w_push, w_pop, f_X12_done, b_X12_done_40, b_X12_done_41, f_X3_carryOutInner, f_X3_useNumberBehind, f_X3_putAndPass, b_X3_useNumberBehind_98, b_X3_useNumberBehind_122, b_X3_useNumberBehind_152, f_X3_loopEnds, b_X3_loopEnds_31, b_X3_loopEnds_40, f_X3_enterLoop, s_room2, U28, f_X5_isCell, v_at, v_cCall, v_cPlace, v_cGo, v_cBack, f_X12_inner, b_X12_inner_290, b_X12_inner_268, b_X12_inner_241, b_X12_inner_260, f_X12_turns, b_X12_turns_52, b_X12_turns_61, b_X12_turns_69, U_0, nz, LE400, LT400, or_true, true_or, f_X3_giveBehaviour, f_X2_giveBehaviourToLatest, e_0, hz, i1, i3]
      refine ST.m1 ⟨hT, rS.mk2 (by omega) (by omega) ?_, rY.mk2 (by omega) rfl (by omega), ?_, hQ, hK, rS.mk2 (by omega) (by omega) ?_, ?_, hO⟩
      all_goals try exact rD.same he hbg hW
      all_goals try exact rD.beh he hbg hW hu
      all_goals try exact rC.same hl hc
      all_goals try exact rC.back hl hc
      all_goals try exact rC.go hl hz i1 i2 hc
      all_goals (intro i hi; try simp only [upd_at])
      all_goals repeat' split
      all_goals first | rfl | exact hf _ (by omega) | exact hh _ (by omega) | (exfalso; omega) | exact absurd trivial (by assumption) | (simp (disch := omega) only [hf, hh]; done)
end INNER
