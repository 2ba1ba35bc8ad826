/-! words 74 to 78 -/
section STRUCT2
variable {t : tT} {s : tR} {y : tY} {d : tD} {q : tP} {k : tK} {r : tR} {c : tC} {o : tO} {T : mT} {S : mS} {R : mR} {C : mC} {Y : mY} {D : mD} {K : mK} {Q : mP} {O : mO}

theorem wd_74 (hR : REL t s y d q k r c o T S R C Y D K Q O) (al st ca ov an th lf st' ca' re en : Int32) : ST (f_X3_carryOutNext t s y d q k r c o (al, st, ca, 74, ov, an)) (f_X12_done 74 T S R C Y D K Q O (th, lf, st', ca', -1, re, en)) al (st + 1) ca ov an th lf st' ca' re en := by
  obtain ⟨hT, ⟨n, f, F, hn, rfl, rfl, hf⟩, hY, hD, hQ, hK, ⟨p, h, G, hp, rfl, rfl, hh⟩, hC, hO⟩ := hR
  rw [dn_ge (by decide) (by decide) hC]
  obtain ⟨rfl, a, z, ha, rfl⟩ := hY
  obtain ⟨rfl, g, os, op, hg, rfl, hq⟩ := hQ
  obtain ⟨rfl, hk⟩ := hK
  by_cases hk0 : K = 0
  · subst hk0
    simp (maxSteps := 500000) (decide := true) (disch := omega) only [f_X3_carryOutNext, f_X3_askFirst, b_X3_askFirst_20, b_X3_askFirst_40, Int32.reduceToNatClampNeg, gp_74, fc_74, tk_74, wi_74, od_74, sw_74, b_X12_done_52, b_X12_done_69, f_X12_isStarred, b_X12_isStarred_42, f_X12_wants, f_X12_wantsStore, b_X12_wantsStore_27, L_0, L_1, L_2, L_3, nlt30, cl_nI, nI_lt0, nI_sub1, nI_sub2, nI_sub3, nI_add1, nI_add2, e_30, Nat.sub_sub, Nat.reduceAdd, hf, hh, sb, ck_T, ckn, not_false_eq_true, false_or, Nat.not_le, ite_self, ↓reduceIte, s_from0, s_from1, s_from2, s_drop1, s_drop2, s_put, s_putF, s_room1, s_room1F, s_take, s_rep, s_raise1, s_raise2, w_push, w_pop, f_X4_structure, b_X4_structure_24, b_X4_structure_45, f_X4_openThingFor, f_X4_opensOneMore, b_X4_opensOneMore_28, f_X4_build, f_X4_openJump, v_oSort, v_oFull, v_oAdd, v_oClose, v_set, s_both, s_bothF, s_app, s_appF, m_room0, m_room1, m_room2, ap_74, f_X12_shapes, b_X12_shapes_29, b_X12_shapes_34, b_X12_shapes_47, b_X12_shapes_63, b_X12_shapes_75, b_X12_shapes_90, b_X12_shapes_130, b_X12_shapes_349, f_X12_expected, b_X12_expected_12, b_X12_expected_28, b_X12_expected_54, f_X12_isOpen, f_X12_open, f_X12_hole, w_append, U_0, nz, e_12, E400, K0, K1, K2, U400, LEn, a11, a21, am2, n12]
    refine ST.m1 ⟨hT, rS.mk2 (by omega) (by omega) ?_, rY.mk2 (by omega) rfl (by omega), hD, ?_, ⟨rfl, hk⟩, rS.mk2 (by omega) (by omega) ?_, hC, hO⟩
    all_goals try exact rQ.same hg hq
    all_goals try exact rQ.less hg hq (by omega)
    all_goals try exact rQ.add (by omega) (by omega) hq (fun _ => ⟨_, (by omega), rfl⟩) (fun z => absurd z (by decide))
    all_goals try exact rQ.add (by omega) (by omega) hq (fun z => absurd z (by decide)) (fun z => absurd z (by decide))
    all_goals try exact rQ.add (by omega) (by omega) hq (fun _ => ⟨_, (by omega), rfl⟩) (fun _ => ⟨by omega, hs⟩)
    all_goals (intro i hi; try simp only [upd_at])
    all_goals repeat' split
    all_goals first | rfl | exact hf _ (by omega) | exact hh _ (by omega) | (exfalso; omega) | exact absurd trivial (by assumption) | (simp (disch := omega) only [hf, hh]; done)
  · by_cases hg0 : g = 0
    · subst hg0
      simp (maxSteps := 500000) (decide := true) (disch := omega) only [f_X3_carryOutNext, f_X3_askFirst, b_X3_askFirst_20, b_X3_askFirst_40, Int32.reduceToNatClampNeg, gp_74, fc_74, tk_74, wi_74, od_74, sw_74, b_X12_done_52, b_X12_done_69, f_X12_isStarred, b_X12_isStarred_42, f_X12_wants, f_X12_wantsStore, b_X12_wantsStore_27, L_0, L_1, L_2, L_3, nlt30, cl_nI, nI_lt0, nI_sub1, nI_sub2, nI_sub3, nI_add1, nI_add2, e_30, Nat.sub_sub, Nat.reduceAdd, hf, hh, sb, ck_T, ckn, not_false_eq_true, false_or, Nat.not_le, ite_self, ↓reduceIte, s_from0, s_from1, s_from2, s_drop1, s_drop2, s_put, s_putF, s_room1, s_room1F, s_take, s_rep, s_raise1, s_raise2, w_push, w_pop, f_X4_structure, b_X4_structure_24, b_X4_structure_45, f_X4_openThingFor, f_X4_opensOneMore, b_X4_opensOneMore_28, f_X4_build, f_X4_openJump, v_oSort, v_oFull, v_oAdd, v_oClose, v_set, s_both, s_bothF, s_app, s_appF, m_room0, m_room1, m_room2, ap_74, f_X12_shapes, b_X12_shapes_29, b_X12_shapes_34, b_X12_shapes_47, b_X12_shapes_63, b_X12_shapes_75, b_X12_shapes_90, b_X12_shapes_130, b_X12_shapes_349, f_X12_expected, b_X12_expected_12, b_X12_expected_28, b_X12_expected_54, f_X12_isOpen, f_X12_open, f_X12_hole, w_append, U_0, nz, e_12, E400, K0, K1, K2, U400, LEn, a11, a21, am2, n12, hk0]
      refine ST.m1 ⟨hT, rS.mk2 (by omega) (by omega) ?_, rY.mk2 (by omega) rfl (by omega), hD, ?_, ⟨rfl, hk⟩, rS.mk2 (by omega) (by omega) ?_, hC, hO⟩
      all_goals try exact rQ.same hg hq
      all_goals try exact rQ.less hg hq (by omega)
      all_goals try exact rQ.add (by omega) (by omega) hq (fun _ => ⟨_, (by omega), rfl⟩) (fun z => absurd z (by decide))
      all_goals try exact rQ.add (by omega) (by omega) hq (fun z => absurd z (by decide)) (fun z => absurd z (by decide))
      all_goals try exact rQ.add (by omega) (by omega) hq (fun _ => ⟨_, (by omega), rfl⟩) (fun _ => ⟨by omega, hs⟩)
      all_goals (intro i hi; try simp only [upd_at])
      all_goals repeat' split
      all_goals first | rfl | exact hf _ (by omega) | exact hh _ (by omega) | (exfalso; omega) | exact absurd trivial (by assumption) | (simp (disch := omega) only [hf, hh]; done)
    · by_cases hs : os (g - 1) = 2
      · by_cases hf12 : g = 12
        · subst hf12
          simp (maxSteps := 500000) (decide := true) (disch := omega) only [f_X3_carryOutNext, f_X3_askFirst, b_X3_askFirst_20, b_X3_askFirst_40, Int32.reduceToNatClampNeg, gp_74, fc_74, tk_74, wi_74, od_74, sw_74, b_X12_done_52, b_X12_done_69, f_X12_isStarred, b_X12_isStarred_42, f_X12_wants, f_X12_wantsStore, b_X12_wantsStore_27, L_0, L_1, L_2, L_3, nlt30, cl_nI, nI_lt0, nI_sub1, nI_sub2, nI_sub3, nI_add1, nI_add2, e_30, Nat.sub_sub, Nat.reduceAdd, hf, hh, sb, ck_T, ckn, not_false_eq_true, false_or, Nat.not_le, ite_self, ↓reduceIte, s_from0, s_from1, s_from2, s_drop1, s_drop2, s_put, s_putF, s_room1, s_room1F, s_take, s_rep, s_raise1, s_raise2, w_push, w_pop, f_X4_structure, b_X4_structure_24, b_X4_structure_45, f_X4_openThingFor, f_X4_opensOneMore, b_X4_opensOneMore_28, f_X4_build, f_X4_openJump, v_oSort, v_oFull, v_oAdd, v_oClose, v_set, s_both, s_bothF, s_app, s_appF, m_room0, m_room1, m_room2, ap_74, f_X12_shapes, b_X12_shapes_29, b_X12_shapes_34, b_X12_shapes_47, b_X12_shapes_63, b_X12_shapes_75, b_X12_shapes_90, b_X12_shapes_130, b_X12_shapes_349, f_X12_expected, b_X12_expected_12, b_X12_expected_28, b_X12_expected_54, f_X12_isOpen, f_X12_open, f_X12_hole, w_append, U_0, nz, e_12, E400, K0, K1, K2, U400, LEn, a11, a21, am2, n12, hk0, hg0, hs]
          refine ST.m1 ⟨hT, rS.mk2 (by omega) (by omega) ?_, rY.mk2 (by omega) rfl (by omega), hD, ?_, ⟨rfl, hk⟩, rS.mk2 (by omega) (by omega) ?_, hC, hO⟩
          all_goals try exact rQ.same hg hq
          all_goals try exact rQ.less hg hq (by omega)
          all_goals try exact rQ.add (by omega) (by omega) hq (fun _ => ⟨_, (by omega), rfl⟩) (fun z => absurd z (by decide))
          all_goals try exact rQ.add (by omega) (by omega) hq (fun z => absurd z (by decide)) (fun z => absurd z (by decide))
          all_goals try exact rQ.add (by omega) (by omega) hq (fun _ => ⟨_, (by omega), rfl⟩) (fun _ => ⟨by omega, hs⟩)
          all_goals (intro i hi; try simp only [upd_at])
          all_goals repeat' split
          all_goals first | rfl | exact hf _ (by omega) | exact hh _ (by omega) | (exfalso; omega) | exact absurd trivial (by assumption) | (simp (disch := omega) only [hf, hh]; done)
        · by_cases h5 : a ≤ 398
          · simp (maxSteps := 500000) (decide := true) (disch := omega) only [f_X3_carryOutNext, f_X3_askFirst, b_X3_askFirst_20, b_X3_askFirst_40, Int32.reduceToNatClampNeg, gp_74, fc_74, tk_74, wi_74, od_74, sw_74, b_X12_done_52, b_X12_done_69, f_X12_isStarred, b_X12_isStarred_42, f_X12_wants, f_X12_wantsStore, b_X12_wantsStore_27, L_0, L_1, L_2, L_3, nlt30, cl_nI, nI_lt0, nI_sub1, nI_sub2, nI_sub3, nI_add1, nI_add2, e_30, Nat.sub_sub, Nat.reduceAdd, hf, hh, sb, ck_T, ckn, not_false_eq_true, false_or, Nat.not_le, ite_self, ↓reduceIte, s_from0, s_from1, s_from2, s_drop1, s_drop2, s_put, s_putF, s_room1, s_room1F, s_take, s_rep, s_raise1, s_raise2, w_push, w_pop, f_X4_structure, b_X4_structure_24, b_X4_structure_45, f_X4_openThingFor, f_X4_opensOneMore, b_X4_opensOneMore_28, f_X4_build, f_X4_openJump, v_oSort, v_oFull, v_oAdd, v_oClose, v_set, s_both, s_bothF, s_app, s_appF, m_room0, m_room1, m_room2, ap_74, f_X12_shapes, b_X12_shapes_29, b_X12_shapes_34, b_X12_shapes_47, b_X12_shapes_63, b_X12_shapes_75, b_X12_shapes_90, b_X12_shapes_130, b_X12_shapes_349, f_X12_expected, b_X12_expected_12, b_X12_expected_28, b_X12_expected_54, f_X12_isOpen, f_X12_open, f_X12_hole, w_append, U_0, nz, e_12, E400, K0, K1, K2, U400, LEn, a11, a21, am2, n12, hk0, hg0, hs, hf12, h5]
            refine ST.m1 ⟨hT, rS.mk2 (by omega) (by omega) ?_, rY.mk2 (by omega) rfl (by omega), hD, ?_, ⟨rfl, hk⟩, rS.mk2 (by omega) (by omega) ?_, hC, hO⟩
            all_goals try exact rQ.same hg hq
            all_goals try exact rQ.less hg hq (by omega)
            all_goals try exact rQ.add (by omega) (by omega) hq (fun _ => ⟨_, (by omega), rfl⟩) (fun z => absurd z (by decide))
            all_goals try exact rQ.add (by omega) (by omega) hq (fun z => absurd z (by decide)) (fun z => absurd z (by decide))
            all_goals try exact rQ.add (by omega) (by omega) hq (fun _ => ⟨_, (by omega), rfl⟩) (fun _ => ⟨by omega, hs⟩)
            all_goals (intro i hi; try simp only [upd_at])
            all_goals repeat' split
            all_goals first | rfl | exact hf _ (by omega) | exact hh _ (by omega) | (exfalso; omega) | exact absurd trivial (by assumption) | (simp (disch := omega) only [hf, hh]; done)
          · simp (maxSteps := 500000) (decide := true) (disch := omega) only [f_X3_carryOutNext, f_X3_askFirst, b_X3_askFirst_20, b_X3_askFirst_40, Int32.reduceToNatClampNeg, gp_74, fc_74, tk_74, wi_74, od_74, sw_74, b_X12_done_52, b_X12_done_69, f_X12_isStarred, b_X12_isStarred_42, f_X12_wants, f_X12_wantsStore, b_X12_wantsStore_27, L_0, L_1, L_2, L_3, nlt30, cl_nI, nI_lt0, nI_sub1, nI_sub2, nI_sub3, nI_add1, nI_add2, e_30, Nat.sub_sub, Nat.reduceAdd, hf, hh, sb, ck_T, ckn, not_false_eq_true, false_or, Nat.not_le, ite_self, ↓reduceIte, s_from0, s_from1, s_from2, s_drop1, s_drop2, s_put, s_putF, s_room1, s_room1F, s_take, s_rep, s_raise1, s_raise2, w_push, w_pop, f_X4_structure, b_X4_structure_24, b_X4_structure_45, f_X4_openThingFor, f_X4_opensOneMore, b_X4_opensOneMore_28, f_X4_build, f_X4_openJump, v_oSort, v_oFull, v_oAdd, v_oClose, v_set, s_both, s_bothF, s_app, s_appF, m_room0, m_room1, m_room2, ap_74, f_X12_shapes, b_X12_shapes_29, b_X12_shapes_34, b_X12_shapes_47, b_X12_shapes_63, b_X12_shapes_75, b_X12_shapes_90, b_X12_shapes_130, b_X12_shapes_349, f_X12_expected, b_X12_expected_12, b_X12_expected_28, b_X12_expected_54, f_X12_isOpen, f_X12_open, f_X12_hole, w_append, U_0, nz, e_12, E400, K0, K1, K2, U400, LEn, a11, a21, am2, n12, hk0, hg0, hs, hf12, h5]
            refine ST.m1 ⟨hT, rS.mk2 (by omega) (by omega) ?_, rY.mk2 (by omega) rfl (by omega), hD, ?_, ⟨rfl, hk⟩, rS.mk2 (by omega) (by omega) ?_, hC, hO⟩
            all_goals try exact rQ.same hg hq
            all_goals try exact rQ.less hg hq (by omega)
            all_goals try exact rQ.add (by omega) (by omega) hq (fun _ => ⟨_, (by omega), rfl⟩) (fun z => absurd z (by decide))
            all_goals try exact rQ.add (by omega) (by omega) hq (fun z => absurd z (by decide)) (fun z => absurd z (by decide))
            all_goals try exact rQ.add (by omega) (by omega) hq (fun _ => ⟨_, (by omega), rfl⟩) (fun _ => ⟨by omega, hs⟩)
            all_goals (intro i hi; try simp only [upd_at])
            all_goals repeat' split
            all_goals first | rfl | exact hf _ (by omega) | exact hh _ (by omega) | (exfalso; omega) | exact absurd trivial (by assumption) | (simp (disch := omega) only [hf, hh]; done)
      · simp (maxSteps := 500000) (decide := true) (disch := omega) only [f_X3_carryOutNext, f_X3_askFirst, b_X3_askFirst_20, b_X3_askFirst_40, Int32.reduceToNatClampNeg, gp_74, fc_74, tk_74, wi_74, od_74, sw_74, b_X12_done_52, b_X12_done_69, f_X12_isStarred, b_X12_isStarred_42, f_X12_wants, f_X12_wantsStore, b_X12_wantsStore_27, L_0, L_1, L_2, L_3, nlt30, cl_nI, nI_lt0, nI_sub1, nI_sub2, nI_sub3, nI_add1, nI_add2, e_30, Nat.sub_sub, Nat.reduceAdd, hf, hh, sb, ck_T, ckn, not_false_eq_true, false_or, Nat.not_le, ite_self, ↓reduceIte, s_from0, s_from1, s_from2, s_drop1, s_drop2, s_put, s_putF, s_room1, s_room1F, s_take, s_rep, s_raise1, s_raise2, w_push, w_pop, f_X4_structure, b_X4_structure_24, b_X4_structure_45, f_X4_openThingFor, f_X4_opensOneMore, b_X4_opensOneMore_28, f_X4_build, f_X4_openJump, v_oSort, v_oFull, v_oAdd, v_oClose, v_set, s_both, s_bothF, s_app, s_appF, m_room0, m_room1, m_room2, ap_74, f_X12_shapes, b_X12_shapes_29, b_X12_shapes_34, b_X12_shapes_47, b_X12_shapes_63, b_X12_shapes_75, b_X12_shapes_90, b_X12_shapes_130, b_X12_shapes_349, f_X12_expected, b_X12_expected_12, b_X12_expected_28, b_X12_expected_54, f_X12_isOpen, f_X12_open, f_X12_hole, w_append, U_0, nz, e_12, E400, K0, K1, K2, U400, LEn, a11, a21, am2, n12, hk0, hg0, hs]
        refine ST.m1 ⟨hT, rS.mk2 (by omega) (by omega) ?_, rY.mk2 (by omega) rfl (by omega), hD, ?_, ⟨rfl, hk⟩, rS.mk2 (by omega) (by omega) ?_, hC, hO⟩
        all_goals try exact rQ.same hg hq
        all_goals try exact rQ.less hg hq (by omega)
        all_goals try exact rQ.add (by omega) (by omega) hq (fun _ => ⟨_, (by omega), rfl⟩) (fun z => absurd z (by decide))
        all_goals try exact rQ.add (by omega) (by omega) hq (fun z => absurd z (by decide)) (fun z => absurd z (by decide))
        all_goals try exact rQ.add (by omega) (by omega) hq (fun _ => ⟨_, (by omega), rfl⟩) (fun _ => ⟨by omega, hs⟩)
        all_goals (intro i hi; try simp only [upd_at])
        all_goals repeat' split
        all_goals first | rfl | exact hf _ (by omega) | exact hh _ (by omega) | (exfalso; omega) | exact absurd trivial (by assumption) | (simp (disch := omega) only [hf, hh]; done)
theorem wd_75 (hR : REL t s y d q k r c o T S R C Y D K Q O) (al st ca ov an th lf st' ca' re en : Int32) : ST (f_X3_carryOutNext t s y d q k r c o (al, st, ca, 75, ov, an)) (f_X12_done 75 T S R C Y D K Q O (th, lf, st', ca', -1, re, en)) al (st + 1) ca ov an th lf st' ca' re en := by
  obtain ⟨hT, ⟨n, f, F, hn, rfl, rfl, hf⟩, hY, hD, hQ, hK, ⟨p, h, G, hp, rfl, rfl, hh⟩, hC, hO⟩ := hR
  rw [dn_ge (by decide) (by decide) hC]
  obtain ⟨rfl, a, z, ha, rfl⟩ := hY
  obtain ⟨rfl, g, os, op, hg, rfl, hq⟩ := hQ
  obtain ⟨rfl, hk⟩ := hK
  by_cases hk0 : K = 0
  · subst hk0
    simp (maxSteps := 500000) (decide := true) (disch := omega) only [f_X3_carryOutNext, f_X3_askFirst, b_X3_askFirst_20, b_X3_askFirst_40, Int32.reduceToNatClampNeg, gp_75, fc_75, tk_75, wi_75, od_75, sw_75, b_X12_done_52, b_X12_done_69, f_X12_isStarred, b_X12_isStarred_42, f_X12_wants, f_X12_wantsStore, b_X12_wantsStore_27, L_0, L_1, L_2, L_3, nlt30, cl_nI, nI_lt0, nI_sub1, nI_sub2, nI_sub3, nI_add1, nI_add2, e_30, Nat.sub_sub, Nat.reduceAdd, hf, hh, sb, ck_T, ckn, not_false_eq_true, false_or, Nat.not_le, ite_self, ↓reduceIte, s_from0, s_from1, s_from2, s_drop1, s_drop2, s_put, s_putF, s_room1, s_room1F, s_take, s_rep, s_raise1, s_raise2, w_push, w_pop, f_X4_structure, b_X4_structure_24, b_X4_structure_45, f_X4_openThingFor, f_X4_opensOneMore, b_X4_opensOneMore_28, f_X4_build, f_X4_openJump, v_oSort, v_oFull, v_oAdd, v_oClose, v_set, s_both, s_bothF, s_app, s_appF, m_room0, m_room1, m_room2, ap_75, f_X12_shapes, b_X12_shapes_29, b_X12_shapes_34, b_X12_shapes_47, b_X12_shapes_63, b_X12_shapes_75, b_X12_shapes_90, b_X12_shapes_130, b_X12_shapes_349, f_X12_expected, b_X12_expected_12, b_X12_expected_28, b_X12_expected_54, f_X12_isOpen, f_X12_open, f_X12_hole, w_append, U_0, nz, e_12, E400, K0, K1, K2, U400, LEn, a11, a21, am2, n12]
    refine ST.m1 ⟨hT, rS.mk2 (by omega) (by omega) ?_, rY.mk2 (by omega) rfl (by omega), hD, ?_, ⟨rfl, hk⟩, rS.mk2 (by omega) (by omega) ?_, hC, hO⟩
    all_goals try exact rQ.same hg hq
    all_goals try exact rQ.less hg hq (by omega)
    all_goals try exact rQ.add (by omega) (by omega) hq (fun _ => ⟨_, (by omega), rfl⟩) (fun z => absurd z (by decide))
    all_goals try exact rQ.add (by omega) (by omega) hq (fun z => absurd z (by decide)) (fun z => absurd z (by decide))
    all_goals try exact rQ.add (by omega) (by omega) hq (fun _ => ⟨_, (by omega), rfl⟩) (fun _ => ⟨by omega, hs⟩)
    all_goals (intro i hi; try simp only [upd_at])
    all_goals repeat' split
    all_goals first | rfl | exact hf _ (by omega) | exact hh _ (by omega) | (exfalso; omega) | exact absurd trivial (by assumption) | (simp (disch := omega) only [hf, hh]; done)
  · by_cases hg0 : g = 0
    · subst hg0
      simp (maxSteps := 500000) (decide := true) (disch := omega) only [f_X3_carryOutNext, f_X3_askFirst, b_X3_askFirst_20, b_X3_askFirst_40, Int32.reduceToNatClampNeg, gp_75, fc_75, tk_75, wi_75, od_75, sw_75, b_X12_done_52, b_X12_done_69, f_X12_isStarred, b_X12_isStarred_42, f_X12_wants, f_X12_wantsStore, b_X12_wantsStore_27, L_0, L_1, L_2, L_3, nlt30, cl_nI, nI_lt0, nI_sub1, nI_sub2, nI_sub3, nI_add1, nI_add2, e_30, Nat.sub_sub, Nat.reduceAdd, hf, hh, sb, ck_T, ckn, not_false_eq_true, false_or, Nat.not_le, ite_self, ↓reduceIte, s_from0, s_from1, s_from2, s_drop1, s_drop2, s_put, s_putF, s_room1, s_room1F, s_take, s_rep, s_raise1, s_raise2, w_push, w_pop, f_X4_structure, b_X4_structure_24, b_X4_structure_45, f_X4_openThingFor, f_X4_opensOneMore, b_X4_opensOneMore_28, f_X4_build, f_X4_openJump, v_oSort, v_oFull, v_oAdd, v_oClose, v_set, s_both, s_bothF, s_app, s_appF, m_room0, m_room1, m_room2, ap_75, f_X12_shapes, b_X12_shapes_29, b_X12_shapes_34, b_X12_shapes_47, b_X12_shapes_63, b_X12_shapes_75, b_X12_shapes_90, b_X12_shapes_130, b_X12_shapes_349, f_X12_expected, b_X12_expected_12, b_X12_expected_28, b_X12_expected_54, f_X12_isOpen, f_X12_open, f_X12_hole, w_append, U_0, nz, e_12, E400, K0, K1, K2, U400, LEn, a11, a21, am2, n12, hk0]
      refine ST.m1 ⟨hT, rS.mk2 (by omega) (by omega) ?_, rY.mk2 (by omega) rfl (by omega), hD, ?_, ⟨rfl, hk⟩, rS.mk2 (by omega) (by omega) ?_, hC, hO⟩
      all_goals try exact rQ.same hg hq
      all_goals try exact rQ.less hg hq (by omega)
      all_goals try exact rQ.add (by omega) (by omega) hq (fun _ => ⟨_, (by omega), rfl⟩) (fun z => absurd z (by decide))
      all_goals try exact rQ.add (by omega) (by omega) hq (fun z => absurd z (by decide)) (fun z => absurd z (by decide))
      all_goals try exact rQ.add (by omega) (by omega) hq (fun _ => ⟨_, (by omega), rfl⟩) (fun _ => ⟨by omega, hs⟩)
      all_goals (intro i hi; try simp only [upd_at])
      all_goals repeat' split
      all_goals first | rfl | exact hf _ (by omega) | exact hh _ (by omega) | (exfalso; omega) | exact absurd trivial (by assumption) | (simp (disch := omega) only [hf, hh]; done)
    · by_cases hs : os (g - 1) = 3
      · by_cases h5 : a ≤ 398
        · obtain ⟨u, hu, hpu⟩ := (hq (g - 1) (by omega)).1 (.inr hs)
          obtain ⟨hq0, hq1⟩ := (hq (g - 1) (by omega)).2 hs
          simp (maxSteps := 500000) (decide := true) (disch := omega) only [f_X3_carryOutNext, f_X3_askFirst, b_X3_askFirst_20, b_X3_askFirst_40, Int32.reduceToNatClampNeg, gp_75, fc_75, tk_75, wi_75, od_75, sw_75, b_X12_done_52, b_X12_done_69, f_X12_isStarred, b_X12_isStarred_42, f_X12_wants, f_X12_wantsStore, b_X12_wantsStore_27, L_0, L_1, L_2, L_3, nlt30, cl_nI, nI_lt0, nI_sub1, nI_sub2, nI_sub3, nI_add1, nI_add2, e_30, Nat.sub_sub, Nat.reduceAdd, hf, hh, sb, ck_T, ckn, not_false_eq_true, false_or, Nat.not_le, ite_self, ↓reduceIte, s_from0, s_from1, s_from2, s_drop1, s_drop2, s_put, s_putF, s_room1, s_room1F, s_take, s_rep, s_raise1, s_raise2, w_push, w_pop, f_X4_structure, b_X4_structure_24, b_X4_structure_45, f_X4_openThingFor, f_X4_opensOneMore, b_X4_opensOneMore_28, f_X4_build, f_X4_openJump, v_oSort, v_oFull, v_oAdd, v_oClose, v_set, s_both, s_bothF, s_app, s_appF, m_room0, m_room1, m_room2, ap_75, f_X12_shapes, b_X12_shapes_29, b_X12_shapes_34, b_X12_shapes_47, b_X12_shapes_63, b_X12_shapes_75, b_X12_shapes_90, b_X12_shapes_130, b_X12_shapes_349, f_X12_expected, b_X12_expected_12, b_X12_expected_28, b_X12_expected_54, f_X12_isOpen, f_X12_open, f_X12_hole, w_append, U_0, nz, e_12, E400, K0, K1, K2, U400, LEn, a11, a21, am2, n12, hk0, hg0, hs, h5, hpu]
          refine ST.m1 ⟨hT, rS.mk2 (by omega) (by omega) ?_, rY.mk2 (by omega) rfl (by omega), hD, ?_, ⟨rfl, hk⟩, rS.mk2 (by omega) (by omega) ?_, hC, hO⟩
          all_goals try exact rQ.same hg hq
          all_goals try exact rQ.less hg hq (by omega)
          all_goals try exact rQ.add (by omega) (by omega) hq (fun _ => ⟨_, (by omega), rfl⟩) (fun z => absurd z (by decide))
          all_goals try exact rQ.add (by omega) (by omega) hq (fun z => absurd z (by decide)) (fun z => absurd z (by decide))
          all_goals try exact rQ.add (by omega) (by omega) hq (fun _ => ⟨_, (by omega), rfl⟩) (fun _ => ⟨by omega, hs⟩)
          all_goals (intro i hi; try simp only [upd_at])
          all_goals repeat' split
          all_goals first | rfl | exact hf _ (by omega) | exact hh _ (by omega) | (exfalso; omega) | exact absurd trivial (by assumption) | (simp (disch := omega) only [hf, hh]; done)
        · simp (maxSteps := 500000) (decide := true) (disch := omega) only [f_X3_carryOutNext, f_X3_askFirst, b_X3_askFirst_20, b_X3_askFirst_40, Int32.reduceToNatClampNeg, gp_75, fc_75, tk_75, wi_75, od_75, sw_75, b_X12_done_52, b_X12_done_69, f_X12_isStarred, b_X12_isStarred_42, f_X12_wants, f_X12_wantsStore, b_X12_wantsStore_27, L_0, L_1, L_2, L_3, nlt30, cl_nI, nI_lt0, nI_sub1, nI_sub2, nI_sub3, nI_add1, nI_add2, e_30, Nat.sub_sub, Nat.reduceAdd, hf, hh, sb, ck_T, ckn, not_false_eq_true, false_or, Nat.not_le, ite_self, ↓reduceIte, s_from0, s_from1, s_from2, s_drop1, s_drop2, s_put, s_putF, s_room1, s_room1F, s_take, s_rep, s_raise1, s_raise2, w_push, w_pop, f_X4_structure, b_X4_structure_24, b_X4_structure_45, f_X4_openThingFor, f_X4_opensOneMore, b_X4_opensOneMore_28, f_X4_build, f_X4_openJump, v_oSort, v_oFull, v_oAdd, v_oClose, v_set, s_both, s_bothF, s_app, s_appF, m_room0, m_room1, m_room2, ap_75, f_X12_shapes, b_X12_shapes_29, b_X12_shapes_34, b_X12_shapes_47, b_X12_shapes_63, b_X12_shapes_75, b_X12_shapes_90, b_X12_shapes_130, b_X12_shapes_349, f_X12_expected, b_X12_expected_12, b_X12_expected_28, b_X12_expected_54, f_X12_isOpen, f_X12_open, f_X12_hole, w_append, U_0, nz, e_12, E400, K0, K1, K2, U400, LEn, a11, a21, am2, n12, hk0, hg0, hs, h5]
          refine ST.m1 ⟨hT, rS.mk2 (by omega) (by omega) ?_, rY.mk2 (by omega) rfl (by omega), hD, ?_, ⟨rfl, hk⟩, rS.mk2 (by omega) (by omega) ?_, hC, hO⟩
          all_goals try exact rQ.same hg hq
          all_goals try exact rQ.less hg hq (by omega)
          all_goals try exact rQ.add (by omega) (by omega) hq (fun _ => ⟨_, (by omega), rfl⟩) (fun z => absurd z (by decide))
          all_goals try exact rQ.add (by omega) (by omega) hq (fun z => absurd z (by decide)) (fun z => absurd z (by decide))
          all_goals try exact rQ.add (by omega) (by omega) hq (fun _ => ⟨_, (by omega), rfl⟩) (fun _ => ⟨by omega, hs⟩)
          all_goals (intro i hi; try simp only [upd_at])
          all_goals repeat' split
          all_goals first | rfl | exact hf _ (by omega) | exact hh _ (by omega) | (exfalso; omega) | exact absurd trivial (by assumption) | (simp (disch := omega) only [hf, hh]; done)
      · simp (maxSteps := 500000) (decide := true) (disch := omega) only [f_X3_carryOutNext, f_X3_askFirst, b_X3_askFirst_20, b_X3_askFirst_40, Int32.reduceToNatClampNeg, gp_75, fc_75, tk_75, wi_75, od_75, sw_75, b_X12_done_52, b_X12_done_69, f_X12_isStarred, b_X12_isStarred_42, f_X12_wants, f_X12_wantsStore, b_X12_wantsStore_27, L_0, L_1, L_2, L_3, nlt30, cl_nI, nI_lt0, nI_sub1, nI_sub2, nI_sub3, nI_add1, nI_add2, e_30, Nat.sub_sub, Nat.reduceAdd, hf, hh, sb, ck_T, ckn, not_false_eq_true, false_or, Nat.not_le, ite_self, ↓reduceIte, s_from0, s_from1, s_from2, s_drop1, s_drop2, s_put, s_putF, s_room1, s_room1F, s_take, s_rep, s_raise1, s_raise2, w_push, w_pop, f_X4_structure, b_X4_structure_24, b_X4_structure_45, f_X4_openThingFor, f_X4_opensOneMore, b_X4_opensOneMore_28, f_X4_build, f_X4_openJump, v_oSort, v_oFull, v_oAdd, v_oClose, v_set, s_both, s_bothF, s_app, s_appF, m_room0, m_room1, m_room2, ap_75, f_X12_shapes, b_X12_shapes_29, b_X12_shapes_34, b_X12_shapes_47, b_X12_shapes_63, b_X12_shapes_75, b_X12_shapes_90, b_X12_shapes_130, b_X12_shapes_349, f_X12_expected, b_X12_expected_12, b_X12_expected_28, b_X12_expected_54, f_X12_isOpen, f_X12_open, f_X12_hole, w_append, U_0, nz, e_12, E400, K0, K1, K2, U400, LEn, a11, a21, am2, n12, hk0, hg0, hs]
        refine ST.m1 ⟨hT, rS.mk2 (by omega) (by omega) ?_, rY.mk2 (by omega) rfl (by omega), hD, ?_, ⟨rfl, hk⟩, rS.mk2 (by omega) (by omega) ?_, hC, hO⟩
        all_goals try exact rQ.same hg hq
        all_goals try exact rQ.less hg hq (by omega)
        all_goals try exact rQ.add (by omega) (by omega) hq (fun _ => ⟨_, (by omega), rfl⟩) (fun z => absurd z (by decide))
        all_goals try exact rQ.add (by omega) (by omega) hq (fun z => absurd z (by decide)) (fun z => absurd z (by decide))
        all_goals try exact rQ.add (by omega) (by omega) hq (fun _ => ⟨_, (by omega), rfl⟩) (fun _ => ⟨by omega, hs⟩)
        all_goals (intro i hi; try simp only [upd_at])
        all_goals repeat' split
        all_goals first | rfl | exact hf _ (by omega) | exact hh _ (by omega) | (exfalso; omega) | exact absurd trivial (by assumption) | (simp (disch := omega) only [hf, hh]; done)
theorem wd_76 (hR : REL t s y d q k r c o T S R C Y D K Q O) (al st ca ov an th lf st' ca' re en : Int32) : ST (f_X3_carryOutNext t s y d q k r c o (al, st, ca, 76, ov, an)) (f_X12_done 76 T S R C Y D K Q O (th, lf, st', ca', -1, re, en)) al (st + 1) ca ov an th lf st' ca' re en := by
  obtain ⟨hT, ⟨n, f, F, hn, rfl, rfl, hf⟩, hY, hD, hQ, hK, ⟨p, h, G, hp, rfl, rfl, hh⟩, hC, hO⟩ := hR
  rw [dn_ge (by decide) (by decide) hC]
  obtain ⟨rfl, a, z, ha, rfl⟩ := hY
  obtain ⟨rfl, g, os, op, hg, rfl, hq⟩ := hQ
  obtain ⟨rfl, hk⟩ := hK
  by_cases hk0 : K = 0
  · subst hk0
    simp (maxSteps := 500000) (decide := true) (disch := omega) only [f_X3_carryOutNext, f_X3_askFirst, b_X3_askFirst_20, b_X3_askFirst_40, Int32.reduceToNatClampNeg, gp_76, fc_76, tk_76, wi_76, od_76, sw_76, b_X12_done_52, b_X12_done_69, f_X12_isStarred, b_X12_isStarred_42, f_X12_wants, f_X12_wantsStore, b_X12_wantsStore_27, L_0, L_1, L_2, L_3, nlt30, cl_nI, nI_lt0, nI_sub1, nI_sub2, nI_sub3, nI_add1, nI_add2, e_30, Nat.sub_sub, Nat.reduceAdd, hf, hh, sb, ck_T, ckn, not_false_eq_true, false_or, Nat.not_le, ite_self, ↓reduceIte, s_from0, s_from1, s_from2, s_drop1, s_drop2, s_put, s_putF, s_room1, s_room1F, s_take, s_rep, s_raise1, s_raise2, w_push, w_pop, f_X4_structure, b_X4_structure_24, b_X4_structure_45, f_X4_openThingFor, f_X4_opensOneMore, b_X4_opensOneMore_28, f_X4_build, f_X4_openJump, v_oSort, v_oFull, v_oAdd, v_oClose, v_set, s_both, s_bothF, s_app, s_appF, m_room0, m_room1, m_room2, ap_76, f_X12_shapes, b_X12_shapes_29, b_X12_shapes_34, b_X12_shapes_47, b_X12_shapes_63, b_X12_shapes_75, b_X12_shapes_90, b_X12_shapes_130, b_X12_shapes_349, f_X12_expected, b_X12_expected_12, b_X12_expected_28, b_X12_expected_54, f_X12_isOpen, f_X12_open, f_X12_hole, w_append, U_0, nz, e_12, E400, K0, K1, K2, U400, LEn, a11, a21, am2, n12]
    refine ST.m1 ⟨hT, rS.mk2 (by omega) (by omega) ?_, rY.mk2 (by omega) rfl (by omega), hD, ?_, ⟨rfl, hk⟩, rS.mk2 (by omega) (by omega) ?_, hC, hO⟩
    all_goals try exact rQ.same hg hq
    all_goals try exact rQ.less hg hq (by omega)
    all_goals try exact rQ.add (by omega) (by omega) hq (fun _ => ⟨_, (by omega), rfl⟩) (fun z => absurd z (by decide))
    all_goals try exact rQ.add (by omega) (by omega) hq (fun z => absurd z (by decide)) (fun z => absurd z (by decide))
    all_goals try exact rQ.add (by omega) (by omega) hq (fun _ => ⟨_, (by omega), rfl⟩) (fun _ => ⟨by omega, hs⟩)
    all_goals (intro i hi; try simp only [upd_at])
    all_goals repeat' split
    all_goals first | rfl | exact hf _ (by omega) | exact hh _ (by omega) | (exfalso; omega) | exact absurd trivial (by assumption) | (simp (disch := omega) only [hf, hh]; done)
  · by_cases hf12 : g = 12
    · subst hf12
      simp (maxSteps := 500000) (decide := true) (disch := omega) only [f_X3_carryOutNext, f_X3_askFirst, b_X3_askFirst_20, b_X3_askFirst_40, Int32.reduceToNatClampNeg, gp_76, fc_76, tk_76, wi_76, od_76, sw_76, b_X12_done_52, b_X12_done_69, f_X12_isStarred, b_X12_isStarred_42, f_X12_wants, f_X12_wantsStore, b_X12_wantsStore_27, L_0, L_1, L_2, L_3, nlt30, cl_nI, nI_lt0, nI_sub1, nI_sub2, nI_sub3, nI_add1, nI_add2, e_30, Nat.sub_sub, Nat.reduceAdd, hf, hh, sb, ck_T, ckn, not_false_eq_true, false_or, Nat.not_le, ite_self, ↓reduceIte, s_from0, s_from1, s_from2, s_drop1, s_drop2, s_put, s_putF, s_room1, s_room1F, s_take, s_rep, s_raise1, s_raise2, w_push, w_pop, f_X4_structure, b_X4_structure_24, b_X4_structure_45, f_X4_openThingFor, f_X4_opensOneMore, b_X4_opensOneMore_28, f_X4_build, f_X4_openJump, v_oSort, v_oFull, v_oAdd, v_oClose, v_set, s_both, s_bothF, s_app, s_appF, m_room0, m_room1, m_room2, ap_76, f_X12_shapes, b_X12_shapes_29, b_X12_shapes_34, b_X12_shapes_47, b_X12_shapes_63, b_X12_shapes_75, b_X12_shapes_90, b_X12_shapes_130, b_X12_shapes_349, f_X12_expected, b_X12_expected_12, b_X12_expected_28, b_X12_expected_54, f_X12_isOpen, f_X12_open, f_X12_hole, w_append, U_0, nz, e_12, E400, K0, K1, K2, U400, LEn, a11, a21, am2, n12, hk0]
      refine ST.m1 ⟨hT, rS.mk2 (by omega) (by omega) ?_, rY.mk2 (by omega) rfl (by omega), hD, ?_, ⟨rfl, hk⟩, rS.mk2 (by omega) (by omega) ?_, hC, hO⟩
      all_goals try exact rQ.same hg hq
      all_goals try exact rQ.less hg hq (by omega)
      all_goals try exact rQ.add (by omega) (by omega) hq (fun _ => ⟨_, (by omega), rfl⟩) (fun z => absurd z (by decide))
      all_goals try exact rQ.add (by omega) (by omega) hq (fun z => absurd z (by decide)) (fun z => absurd z (by decide))
      all_goals try exact rQ.add (by omega) (by omega) hq (fun _ => ⟨_, (by omega), rfl⟩) (fun _ => ⟨by omega, hs⟩)
      all_goals (intro i hi; try simp only [upd_at])
      all_goals repeat' split
      all_goals first | rfl | exact hf _ (by omega) | exact hh _ (by omega) | (exfalso; omega) | exact absurd trivial (by assumption) | (simp (disch := omega) only [hf, hh]; done)
    · by_cases hg0 : g = 0
      · subst hg0
        by_cases h5 : a ≤ 399
        · simp (maxSteps := 500000) (decide := true) (disch := omega) only [f_X3_carryOutNext, f_X3_askFirst, b_X3_askFirst_20, b_X3_askFirst_40, Int32.reduceToNatClampNeg, gp_76, fc_76, tk_76, wi_76, od_76, sw_76, b_X12_done_52, b_X12_done_69, f_X12_isStarred, b_X12_isStarred_42, f_X12_wants, f_X12_wantsStore, b_X12_wantsStore_27, L_0, L_1, L_2, L_3, nlt30, cl_nI, nI_lt0, nI_sub1, nI_sub2, nI_sub3, nI_add1, nI_add2, e_30, Nat.sub_sub, Nat.reduceAdd, hf, hh, sb, ck_T, ckn, not_false_eq_true, false_or, Nat.not_le, ite_self, ↓reduceIte, s_from0, s_from1, s_from2, s_drop1, s_drop2, s_put, s_putF, s_room1, s_room1F, s_take, s_rep, s_raise1, s_raise2, w_push, w_pop, f_X4_structure, b_X4_structure_24, b_X4_structure_45, f_X4_openThingFor, f_X4_opensOneMore, b_X4_opensOneMore_28, f_X4_build, f_X4_openJump, v_oSort, v_oFull, v_oAdd, v_oClose, v_set, s_both, s_bothF, s_app, s_appF, m_room0, m_room1, m_room2, ap_76, f_X12_shapes, b_X12_shapes_29, b_X12_shapes_34, b_X12_shapes_47, b_X12_shapes_63, b_X12_shapes_75, b_X12_shapes_90, b_X12_shapes_130, b_X12_shapes_349, f_X12_expected, b_X12_expected_12, b_X12_expected_28, b_X12_expected_54, f_X12_isOpen, f_X12_open, f_X12_hole, w_append, U_0, nz, e_12, E400, K0, K1, K2, U400, LEn, a11, a21, am2, n12, hk0, hf12, h5]
          refine ST.m1 ⟨hT, rS.mk2 (by omega) (by omega) ?_, rY.mk2 (by omega) rfl (by omega), hD, ?_, ⟨rfl, hk⟩, rS.mk2 (by omega) (by omega) ?_, hC, hO⟩
          all_goals try exact rQ.same hg hq
          all_goals try exact rQ.less hg hq (by omega)
          all_goals try exact rQ.add (by omega) (by omega) hq (fun _ => ⟨_, (by omega), rfl⟩) (fun z => absurd z (by decide))
          all_goals try exact rQ.add (by omega) (by omega) hq (fun z => absurd z (by decide)) (fun z => absurd z (by decide))
          all_goals try exact rQ.add (by omega) (by omega) hq (fun _ => ⟨_, (by omega), rfl⟩) (fun _ => ⟨by omega, hs⟩)
          all_goals (intro i hi; try simp only [upd_at])
          all_goals repeat' split
          all_goals first | rfl | exact hf _ (by omega) | exact hh _ (by omega) | (exfalso; omega) | exact absurd trivial (by assumption) | (simp (disch := omega) only [hf, hh]; done)
        · simp (maxSteps := 500000) (decide := true) (disch := omega) only [f_X3_carryOutNext, f_X3_askFirst, b_X3_askFirst_20, b_X3_askFirst_40, Int32.reduceToNatClampNeg, gp_76, fc_76, tk_76, wi_76, od_76, sw_76, b_X12_done_52, b_X12_done_69, f_X12_isStarred, b_X12_isStarred_42, f_X12_wants, f_X12_wantsStore, b_X12_wantsStore_27, L_0, L_1, L_2, L_3, nlt30, cl_nI, nI_lt0, nI_sub1, nI_sub2, nI_sub3, nI_add1, nI_add2, e_30, Nat.sub_sub, Nat.reduceAdd, hf, hh, sb, ck_T, ckn, not_false_eq_true, false_or, Nat.not_le, ite_self, ↓reduceIte, s_from0, s_from1, s_from2, s_drop1, s_drop2, s_put, s_putF, s_room1, s_room1F, s_take, s_rep, s_raise1, s_raise2, w_push, w_pop, f_X4_structure, b_X4_structure_24, b_X4_structure_45, f_X4_openThingFor, f_X4_opensOneMore, b_X4_opensOneMore_28, f_X4_build, f_X4_openJump, v_oSort, v_oFull, v_oAdd, v_oClose, v_set, s_both, s_bothF, s_app, s_appF, m_room0, m_room1, m_room2, ap_76, f_X12_shapes, b_X12_shapes_29, b_X12_shapes_34, b_X12_shapes_47, b_X12_shapes_63, b_X12_shapes_75, b_X12_shapes_90, b_X12_shapes_130, b_X12_shapes_349, f_X12_expected, b_X12_expected_12, b_X12_expected_28, b_X12_expected_54, f_X12_isOpen, f_X12_open, f_X12_hole, w_append, U_0, nz, e_12, E400, K0, K1, K2, U400, LEn, a11, a21, am2, n12, hk0, hf12, h5]
          refine ST.m1 ⟨hT, rS.mk2 (by omega) (by omega) ?_, rY.mk2 (by omega) rfl (by omega), hD, ?_, ⟨rfl, hk⟩, rS.mk2 (by omega) (by omega) ?_, hC, hO⟩
          all_goals try exact rQ.same hg hq
          all_goals try exact rQ.less hg hq (by omega)
          all_goals try exact rQ.add (by omega) (by omega) hq (fun _ => ⟨_, (by omega), rfl⟩) (fun z => absurd z (by decide))
          all_goals try exact rQ.add (by omega) (by omega) hq (fun z => absurd z (by decide)) (fun z => absurd z (by decide))
          all_goals try exact rQ.add (by omega) (by omega) hq (fun _ => ⟨_, (by omega), rfl⟩) (fun _ => ⟨by omega, hs⟩)
          all_goals (intro i hi; try simp only [upd_at])
          all_goals repeat' split
          all_goals first | rfl | exact hf _ (by omega) | exact hh _ (by omega) | (exfalso; omega) | exact absurd trivial (by assumption) | (simp (disch := omega) only [hf, hh]; done)
      · by_cases h5 : a ≤ 399
        · simp (maxSteps := 500000) (decide := true) (disch := omega) only [f_X3_carryOutNext, f_X3_askFirst, b_X3_askFirst_20, b_X3_askFirst_40, Int32.reduceToNatClampNeg, gp_76, fc_76, tk_76, wi_76, od_76, sw_76, b_X12_done_52, b_X12_done_69, f_X12_isStarred, b_X12_isStarred_42, f_X12_wants, f_X12_wantsStore, b_X12_wantsStore_27, L_0, L_1, L_2, L_3, nlt30, cl_nI, nI_lt0, nI_sub1, nI_sub2, nI_sub3, nI_add1, nI_add2, e_30, Nat.sub_sub, Nat.reduceAdd, hf, hh, sb, ck_T, ckn, not_false_eq_true, false_or, Nat.not_le, ite_self, ↓reduceIte, s_from0, s_from1, s_from2, s_drop1, s_drop2, s_put, s_putF, s_room1, s_room1F, s_take, s_rep, s_raise1, s_raise2, w_push, w_pop, f_X4_structure, b_X4_structure_24, b_X4_structure_45, f_X4_openThingFor, f_X4_opensOneMore, b_X4_opensOneMore_28, f_X4_build, f_X4_openJump, v_oSort, v_oFull, v_oAdd, v_oClose, v_set, s_both, s_bothF, s_app, s_appF, m_room0, m_room1, m_room2, ap_76, f_X12_shapes, b_X12_shapes_29, b_X12_shapes_34, b_X12_shapes_47, b_X12_shapes_63, b_X12_shapes_75, b_X12_shapes_90, b_X12_shapes_130, b_X12_shapes_349, f_X12_expected, b_X12_expected_12, b_X12_expected_28, b_X12_expected_54, f_X12_isOpen, f_X12_open, f_X12_hole, w_append, U_0, nz, e_12, E400, K0, K1, K2, U400, LEn, a11, a21, am2, n12, hk0, hf12, hg0, h5]
          refine ST.m1 ⟨hT, rS.mk2 (by omega) (by omega) ?_, rY.mk2 (by omega) rfl (by omega), hD, ?_, ⟨rfl, hk⟩, rS.mk2 (by omega) (by omega) ?_, hC, hO⟩
          all_goals try exact rQ.same hg hq
          all_goals try exact rQ.less hg hq (by omega)
          all_goals try exact rQ.add (by omega) (by omega) hq (fun _ => ⟨_, (by omega), rfl⟩) (fun z => absurd z (by decide))
          all_goals try exact rQ.add (by omega) (by omega) hq (fun z => absurd z (by decide)) (fun z => absurd z (by decide))
          all_goals try exact rQ.add (by omega) (by omega) hq (fun _ => ⟨_, (by omega), rfl⟩) (fun _ => ⟨by omega, hs⟩)
          all_goals (intro i hi; try simp only [upd_at])
          all_goals repeat' split
          all_goals first | rfl | exact hf _ (by omega) | exact hh _ (by omega) | (exfalso; omega) | exact absurd trivial (by assumption) | (simp (disch := omega) only [hf, hh]; done)
        · simp (maxSteps := 500000) (decide := true) (disch := omega) only [f_X3_carryOutNext, f_X3_askFirst, b_X3_askFirst_20, b_X3_askFirst_40, Int32.reduceToNatClampNeg, gp_76, fc_76, tk_76, wi_76, od_76, sw_76, b_X12_done_52, b_X12_done_69, f_X12_isStarred, b_X12_isStarred_42, f_X12_wants, f_X12_wantsStore, b_X12_wantsStore_27, L_0, L_1, L_2, L_3, nlt30, cl_nI, nI_lt0, nI_sub1, nI_sub2, nI_sub3, nI_add1, nI_add2, e_30, Nat.sub_sub, Nat.reduceAdd, hf, hh, sb, ck_T, ckn, not_false_eq_true, false_or, Nat.not_le, ite_self, ↓reduceIte, s_from0, s_from1, s_from2, s_drop1, s_drop2, s_put, s_putF, s_room1, s_room1F, s_take, s_rep, s_raise1, s_raise2, w_push, w_pop, f_X4_structure, b_X4_structure_24, b_X4_structure_45, f_X4_openThingFor, f_X4_opensOneMore, b_X4_opensOneMore_28, f_X4_build, f_X4_openJump, v_oSort, v_oFull, v_oAdd, v_oClose, v_set, s_both, s_bothF, s_app, s_appF, m_room0, m_room1, m_room2, ap_76, f_X12_shapes, b_X12_shapes_29, b_X12_shapes_34, b_X12_shapes_47, b_X12_shapes_63, b_X12_shapes_75, b_X12_shapes_90, b_X12_shapes_130, b_X12_shapes_349, f_X12_expected, b_X12_expected_12, b_X12_expected_28, b_X12_expected_54, f_X12_isOpen, f_X12_open, f_X12_hole, w_append, U_0, nz, e_12, E400, K0, K1, K2, U400, LEn, a11, a21, am2, n12, hk0, hf12, hg0, h5]
          refine ST.m1 ⟨hT, rS.mk2 (by omega) (by omega) ?_, rY.mk2 (by omega) rfl (by omega), hD, ?_, ⟨rfl, hk⟩, rS.mk2 (by omega) (by omega) ?_, hC, hO⟩
          all_goals try exact rQ.same hg hq
          all_goals try exact rQ.less hg hq (by omega)
          all_goals try exact rQ.add (by omega) (by omega) hq (fun _ => ⟨_, (by omega), rfl⟩) (fun z => absurd z (by decide))
          all_goals try exact rQ.add (by omega) (by omega) hq (fun z => absurd z (by decide)) (fun z => absurd z (by decide))
          all_goals try exact rQ.add (by omega) (by omega) hq (fun _ => ⟨_, (by omega), rfl⟩) (fun _ => ⟨by omega, hs⟩)
          all_goals (intro i hi; try simp only [upd_at])
          all_goals repeat' split
          all_goals first | rfl | exact hf _ (by omega) | exact hh _ (by omega) | (exfalso; omega) | exact absurd trivial (by assumption) | (simp (disch := omega) only [hf, hh]; done)
theorem wd_77 (hR : REL t s y d q k r c o T S R C Y D K Q O) (al st ca ov an th lf st' ca' re en : Int32) : ST (f_X3_carryOutNext t s y d q k r c o (al, st, ca, 77, ov, an)) (f_X12_done 77 T S R C Y D K Q O (th, lf, st', ca', -1, re, en)) al (st + 1) ca ov an th lf st' ca' re en := by
  obtain ⟨hT, ⟨n, f, F, hn, rfl, rfl, hf⟩, hY, hD, hQ, hK, ⟨p, h, G, hp, rfl, rfl, hh⟩, hC, hO⟩ := hR
  rw [dn_ge (by decide) (by decide) hC]
  obtain ⟨rfl, a, z, ha, rfl⟩ := hY
  obtain ⟨rfl, g, os, op, hg, rfl, hq⟩ := hQ
  obtain ⟨rfl, hk⟩ := hK
  by_cases hk0 : K = 0
  · subst hk0
    simp (maxSteps := 500000) (decide := true) (disch := omega) only [f_X3_carryOutNext, f_X3_askFirst, b_X3_askFirst_20, b_X3_askFirst_40, Int32.reduceToNatClampNeg, gp_77, fc_77, tk_77, wi_77, od_77, sw_77, b_X12_done_52, b_X12_done_69, f_X12_isStarred, b_X12_isStarred_42, f_X12_wants, f_X12_wantsStore, b_X12_wantsStore_27, L_0, L_1, L_2, L_3, nlt30, cl_nI, nI_lt0, nI_sub1, nI_sub2, nI_sub3, nI_add1, nI_add2, e_30, Nat.sub_sub, Nat.reduceAdd, hf, hh, sb, ck_T, ckn, not_false_eq_true, false_or, Nat.not_le, ite_self, ↓reduceIte, s_from0, s_from1, s_from2, s_drop1, s_drop2, s_put, s_putF, s_room1, s_room1F, s_take, s_rep, s_raise1, s_raise2, w_push, w_pop, f_X4_structure, b_X4_structure_24, b_X4_structure_45, f_X4_openThingFor, f_X4_opensOneMore, b_X4_opensOneMore_28, f_X4_build, f_X4_openJump, v_oSort, v_oFull, v_oAdd, v_oClose, v_set, s_both, s_bothF, s_app, s_appF, m_room0, m_room1, m_room2, ap_77, f_X12_shapes, b_X12_shapes_29, b_X12_shapes_34, b_X12_shapes_47, b_X12_shapes_63, b_X12_shapes_75, b_X12_shapes_90, b_X12_shapes_130, b_X12_shapes_349, f_X12_expected, b_X12_expected_12, b_X12_expected_28, b_X12_expected_54, f_X12_isOpen, f_X12_open, f_X12_hole, w_append, U_0, nz, e_12, E400, K0, K1, K2, U400, LEn, a11, a21, am2, n12]
    refine ST.m1 ⟨hT, rS.mk2 (by omega) (by omega) ?_, rY.mk2 (by omega) rfl (by omega), hD, ?_, ⟨rfl, hk⟩, rS.mk2 (by omega) (by omega) ?_, hC, hO⟩
    all_goals try exact rQ.same hg hq
    all_goals try exact rQ.less hg hq (by omega)
    all_goals try exact rQ.add (by omega) (by omega) hq (fun _ => ⟨_, (by omega), rfl⟩) (fun z => absurd z (by decide))
    all_goals try exact rQ.add (by omega) (by omega) hq (fun z => absurd z (by decide)) (fun z => absurd z (by decide))
    all_goals try exact rQ.add (by omega) (by omega) hq (fun _ => ⟨_, (by omega), rfl⟩) (fun _ => ⟨by omega, hs⟩)
    all_goals (intro i hi; try simp only [upd_at])
    all_goals repeat' split
    all_goals first | rfl | exact hf _ (by omega) | exact hh _ (by omega) | (exfalso; omega) | exact absurd trivial (by assumption) | (simp (disch := omega) only [hf, hh]; done)
  · by_cases hg0 : g = 0
    · subst hg0
      simp (maxSteps := 500000) (decide := true) (disch := omega) only [f_X3_carryOutNext, f_X3_askFirst, b_X3_askFirst_20, b_X3_askFirst_40, Int32.reduceToNatClampNeg, gp_77, fc_77, tk_77, wi_77, od_77, sw_77, b_X12_done_52, b_X12_done_69, f_X12_isStarred, b_X12_isStarred_42, f_X12_wants, f_X12_wantsStore, b_X12_wantsStore_27, L_0, L_1, L_2, L_3, nlt30, cl_nI, nI_lt0, nI_sub1, nI_sub2, nI_sub3, nI_add1, nI_add2, e_30, Nat.sub_sub, Nat.reduceAdd, hf, hh, sb, ck_T, ckn, not_false_eq_true, false_or, Nat.not_le, ite_self, ↓reduceIte, s_from0, s_from1, s_from2, s_drop1, s_drop2, s_put, s_putF, s_room1, s_room1F, s_take, s_rep, s_raise1, s_raise2, w_push, w_pop, f_X4_structure, b_X4_structure_24, b_X4_structure_45, f_X4_openThingFor, f_X4_opensOneMore, b_X4_opensOneMore_28, f_X4_build, f_X4_openJump, v_oSort, v_oFull, v_oAdd, v_oClose, v_set, s_both, s_bothF, s_app, s_appF, m_room0, m_room1, m_room2, ap_77, f_X12_shapes, b_X12_shapes_29, b_X12_shapes_34, b_X12_shapes_47, b_X12_shapes_63, b_X12_shapes_75, b_X12_shapes_90, b_X12_shapes_130, b_X12_shapes_349, f_X12_expected, b_X12_expected_12, b_X12_expected_28, b_X12_expected_54, f_X12_isOpen, f_X12_open, f_X12_hole, w_append, U_0, nz, e_12, E400, K0, K1, K2, U400, LEn, a11, a21, am2, n12, hk0]
      refine ST.m1 ⟨hT, rS.mk2 (by omega) (by omega) ?_, rY.mk2 (by omega) rfl (by omega), hD, ?_, ⟨rfl, hk⟩, rS.mk2 (by omega) (by omega) ?_, hC, hO⟩
      all_goals try exact rQ.same hg hq
      all_goals try exact rQ.less hg hq (by omega)
      all_goals try exact rQ.add (by omega) (by omega) hq (fun _ => ⟨_, (by omega), rfl⟩) (fun z => absurd z (by decide))
      all_goals try exact rQ.add (by omega) (by omega) hq (fun z => absurd z (by decide)) (fun z => absurd z (by decide))
      all_goals try exact rQ.add (by omega) (by omega) hq (fun _ => ⟨_, (by omega), rfl⟩) (fun _ => ⟨by omega, hs⟩)
      all_goals (intro i hi; try simp only [upd_at])
      all_goals repeat' split
      all_goals first | rfl | exact hf _ (by omega) | exact hh _ (by omega) | (exfalso; omega) | exact absurd trivial (by assumption) | (simp (disch := omega) only [hf, hh]; done)
    · by_cases hs : os (g - 1) = 4
      · by_cases h5 : a ≤ 398
        · simp (maxSteps := 500000) (decide := true) (disch := omega) only [f_X3_carryOutNext, f_X3_askFirst, b_X3_askFirst_20, b_X3_askFirst_40, Int32.reduceToNatClampNeg, gp_77, fc_77, tk_77, wi_77, od_77, sw_77, b_X12_done_52, b_X12_done_69, f_X12_isStarred, b_X12_isStarred_42, f_X12_wants, f_X12_wantsStore, b_X12_wantsStore_27, L_0, L_1, L_2, L_3, nlt30, cl_nI, nI_lt0, nI_sub1, nI_sub2, nI_sub3, nI_add1, nI_add2, e_30, Nat.sub_sub, Nat.reduceAdd, hf, hh, sb, ck_T, ckn, not_false_eq_true, false_or, Nat.not_le, ite_self, ↓reduceIte, s_from0, s_from1, s_from2, s_drop1, s_drop2, s_put, s_putF, s_room1, s_room1F, s_take, s_rep, s_raise1, s_raise2, w_push, w_pop, f_X4_structure, b_X4_structure_24, b_X4_structure_45, f_X4_openThingFor, f_X4_opensOneMore, b_X4_opensOneMore_28, f_X4_build, f_X4_openJump, v_oSort, v_oFull, v_oAdd, v_oClose, v_set, s_both, s_bothF, s_app, s_appF, m_room0, m_room1, m_room2, ap_77, f_X12_shapes, b_X12_shapes_29, b_X12_shapes_34, b_X12_shapes_47, b_X12_shapes_63, b_X12_shapes_75, b_X12_shapes_90, b_X12_shapes_130, b_X12_shapes_349, f_X12_expected, b_X12_expected_12, b_X12_expected_28, b_X12_expected_54, f_X12_isOpen, f_X12_open, f_X12_hole, w_append, U_0, nz, e_12, E400, K0, K1, K2, U400, LEn, a11, a21, am2, n12, hk0, hg0, hs, h5]
          refine ST.m1 ⟨hT, rS.mk2 (by omega) (by omega) ?_, rY.mk2 (by omega) rfl (by omega), hD, ?_, ⟨rfl, hk⟩, rS.mk2 (by omega) (by omega) ?_, hC, hO⟩
          all_goals try exact rQ.same hg hq
          all_goals try exact rQ.less hg hq (by omega)
          all_goals try exact rQ.add (by omega) (by omega) hq (fun _ => ⟨_, (by omega), rfl⟩) (fun z => absurd z (by decide))
          all_goals try exact rQ.add (by omega) (by omega) hq (fun z => absurd z (by decide)) (fun z => absurd z (by decide))
          all_goals try exact rQ.add (by omega) (by omega) hq (fun _ => ⟨_, (by omega), rfl⟩) (fun _ => ⟨by omega, hs⟩)
          all_goals (intro i hi; try simp only [upd_at])
          all_goals repeat' split
          all_goals first | rfl | exact hf _ (by omega) | exact hh _ (by omega) | (exfalso; omega) | exact absurd trivial (by assumption) | (simp (disch := omega) only [hf, hh]; done)
        · simp (maxSteps := 500000) (decide := true) (disch := omega) only [f_X3_carryOutNext, f_X3_askFirst, b_X3_askFirst_20, b_X3_askFirst_40, Int32.reduceToNatClampNeg, gp_77, fc_77, tk_77, wi_77, od_77, sw_77, b_X12_done_52, b_X12_done_69, f_X12_isStarred, b_X12_isStarred_42, f_X12_wants, f_X12_wantsStore, b_X12_wantsStore_27, L_0, L_1, L_2, L_3, nlt30, cl_nI, nI_lt0, nI_sub1, nI_sub2, nI_sub3, nI_add1, nI_add2, e_30, Nat.sub_sub, Nat.reduceAdd, hf, hh, sb, ck_T, ckn, not_false_eq_true, false_or, Nat.not_le, ite_self, ↓reduceIte, s_from0, s_from1, s_from2, s_drop1, s_drop2, s_put, s_putF, s_room1, s_room1F, s_take, s_rep, s_raise1, s_raise2, w_push, w_pop, f_X4_structure, b_X4_structure_24, b_X4_structure_45, f_X4_openThingFor, f_X4_opensOneMore, b_X4_opensOneMore_28, f_X4_build, f_X4_openJump, v_oSort, v_oFull, v_oAdd, v_oClose, v_set, s_both, s_bothF, s_app, s_appF, m_room0, m_room1, m_room2, ap_77, f_X12_shapes, b_X12_shapes_29, b_X12_shapes_34, b_X12_shapes_47, b_X12_shapes_63, b_X12_shapes_75, b_X12_shapes_90, b_X12_shapes_130, b_X12_shapes_349, f_X12_expected, b_X12_expected_12, b_X12_expected_28, b_X12_expected_54, f_X12_isOpen, f_X12_open, f_X12_hole, w_append, U_0, nz, e_12, E400, K0, K1, K2, U400, LEn, a11, a21, am2, n12, hk0, hg0, hs, h5]
          refine ST.m1 ⟨hT, rS.mk2 (by omega) (by omega) ?_, rY.mk2 (by omega) rfl (by omega), hD, ?_, ⟨rfl, hk⟩, rS.mk2 (by omega) (by omega) ?_, hC, hO⟩
          all_goals try exact rQ.same hg hq
          all_goals try exact rQ.less hg hq (by omega)
          all_goals try exact rQ.add (by omega) (by omega) hq (fun _ => ⟨_, (by omega), rfl⟩) (fun z => absurd z (by decide))
          all_goals try exact rQ.add (by omega) (by omega) hq (fun z => absurd z (by decide)) (fun z => absurd z (by decide))
          all_goals try exact rQ.add (by omega) (by omega) hq (fun _ => ⟨_, (by omega), rfl⟩) (fun _ => ⟨by omega, hs⟩)
          all_goals (intro i hi; try simp only [upd_at])
          all_goals repeat' split
          all_goals first | rfl | exact hf _ (by omega) | exact hh _ (by omega) | (exfalso; omega) | exact absurd trivial (by assumption) | (simp (disch := omega) only [hf, hh]; done)
      · simp (maxSteps := 500000) (decide := true) (disch := omega) only [f_X3_carryOutNext, f_X3_askFirst, b_X3_askFirst_20, b_X3_askFirst_40, Int32.reduceToNatClampNeg, gp_77, fc_77, tk_77, wi_77, od_77, sw_77, b_X12_done_52, b_X12_done_69, f_X12_isStarred, b_X12_isStarred_42, f_X12_wants, f_X12_wantsStore, b_X12_wantsStore_27, L_0, L_1, L_2, L_3, nlt30, cl_nI, nI_lt0, nI_sub1, nI_sub2, nI_sub3, nI_add1, nI_add2, e_30, Nat.sub_sub, Nat.reduceAdd, hf, hh, sb, ck_T, ckn, not_false_eq_true, false_or, Nat.not_le, ite_self, ↓reduceIte, s_from0, s_from1, s_from2, s_drop1, s_drop2, s_put, s_putF, s_room1, s_room1F, s_take, s_rep, s_raise1, s_raise2, w_push, w_pop, f_X4_structure, b_X4_structure_24, b_X4_structure_45, f_X4_openThingFor, f_X4_opensOneMore, b_X4_opensOneMore_28, f_X4_build, f_X4_openJump, v_oSort, v_oFull, v_oAdd, v_oClose, v_set, s_both, s_bothF, s_app, s_appF, m_room0, m_room1, m_room2, ap_77, f_X12_shapes, b_X12_shapes_29, b_X12_shapes_34, b_X12_shapes_47, b_X12_shapes_63, b_X12_shapes_75, b_X12_shapes_90, b_X12_shapes_130, b_X12_shapes_349, f_X12_expected, b_X12_expected_12, b_X12_expected_28, b_X12_expected_54, f_X12_isOpen, f_X12_open, f_X12_hole, w_append, U_0, nz, e_12, E400, K0, K1, K2, U400, LEn, a11, a21, am2, n12, hk0, hg0, hs]
        refine ST.m1 ⟨hT, rS.mk2 (by omega) (by omega) ?_, rY.mk2 (by omega) rfl (by omega), hD, ?_, ⟨rfl, hk⟩, rS.mk2 (by omega) (by omega) ?_, hC, hO⟩
        all_goals try exact rQ.same hg hq
        all_goals try exact rQ.less hg hq (by omega)
        all_goals try exact rQ.add (by omega) (by omega) hq (fun _ => ⟨_, (by omega), rfl⟩) (fun z => absurd z (by decide))
        all_goals try exact rQ.add (by omega) (by omega) hq (fun z => absurd z (by decide)) (fun z => absurd z (by decide))
        all_goals try exact rQ.add (by omega) (by omega) hq (fun _ => ⟨_, (by omega), rfl⟩) (fun _ => ⟨by omega, hs⟩)
        all_goals (intro i hi; try simp only [upd_at])
        all_goals repeat' split
        all_goals first | rfl | exact hf _ (by omega) | exact hh _ (by omega) | (exfalso; omega) | exact absurd trivial (by assumption) | (simp (disch := omega) only [hf, hh]; done)
theorem wd_78 (hR : REL t s y d q k r c o T S R C Y D K Q O) (al st ca ov an th lf st' ca' re en : Int32) : ST (f_X3_carryOutNext t s y d q k r c o (al, st, ca, 78, ov, an)) (f_X12_done 78 T S R C Y D K Q O (th, lf, st', ca', -1, re, en)) al (st + 1) ca ov an th lf st' ca' re en := by
  obtain ⟨hT, ⟨n, f, F, hn, rfl, rfl, hf⟩, hY, hD, hQ, hK, ⟨p, h, G, hp, rfl, rfl, hh⟩, hC, hO⟩ := hR
  rw [dn_ge (by decide) (by decide) hC]
  obtain ⟨rfl, a, z, ha, rfl⟩ := hY
  obtain ⟨rfl, g, os, op, hg, rfl, hq⟩ := hQ
  obtain ⟨rfl, hk⟩ := hK
  by_cases hk0 : K = 0
  · subst hk0
    simp (maxSteps := 500000) (decide := true) (disch := omega) only [f_X3_carryOutNext, f_X3_askFirst, b_X3_askFirst_20, b_X3_askFirst_40, Int32.reduceToNatClampNeg, gp_78, fc_78, tk_78, wi_78, od_78, sw_78, b_X12_done_52, b_X12_done_69, f_X12_isStarred, b_X12_isStarred_42, f_X12_wants, f_X12_wantsStore, b_X12_wantsStore_27, L_0, L_1, L_2, L_3, nlt30, cl_nI, nI_lt0, nI_sub1, nI_sub2, nI_sub3, nI_add1, nI_add2, e_30, Nat.sub_sub, Nat.reduceAdd, hf, hh, sb, ck_T, ckn, not_false_eq_true, false_or, Nat.not_le, ite_self, ↓reduceIte, s_from0, s_from1, s_from2, s_drop1, s_drop2, s_put, s_putF, s_room1, s_room1F, s_take, s_rep, s_raise1, s_raise2, w_push, w_pop, f_X4_structure, b_X4_structure_24, b_X4_structure_45, f_X4_openThingFor, f_X4_opensOneMore, b_X4_opensOneMore_28, f_X4_build, f_X4_openJump, v_oSort, v_oFull, v_oAdd, v_oClose, v_set, s_both, s_bothF, s_app, s_appF, m_room0, m_room1, m_room2, ap_78, f_X12_shapes, b_X12_shapes_29, b_X12_shapes_34, b_X12_shapes_47, b_X12_shapes_63, b_X12_shapes_75, b_X12_shapes_90, b_X12_shapes_130, b_X12_shapes_349, f_X12_expected, b_X12_expected_12, b_X12_expected_28, b_X12_expected_54, f_X12_isOpen, f_X12_open, f_X12_hole, w_append, U_0, nz, e_12, E400, K0, K1, K2, U400, LEn, a11, a21, am2, n12]
    refine ST.m1 ⟨hT, rS.mk2 (by omega) (by omega) ?_, rY.mk2 (by omega) rfl (by omega), hD, ?_, ⟨rfl, hk⟩, rS.mk2 (by omega) (by omega) ?_, hC, hO⟩
    all_goals try exact rQ.same hg hq
    all_goals try exact rQ.less hg hq (by omega)
    all_goals try exact rQ.add (by omega) (by omega) hq (fun _ => ⟨_, (by omega), rfl⟩) (fun z => absurd z (by decide))
    all_goals try exact rQ.add (by omega) (by omega) hq (fun z => absurd z (by decide)) (fun z => absurd z (by decide))
    all_goals try exact rQ.add (by omega) (by omega) hq (fun _ => ⟨_, (by omega), rfl⟩) (fun _ => ⟨by omega, hs⟩)
    all_goals (intro i hi; try simp only [upd_at])
    all_goals repeat' split
    all_goals first | rfl | exact hf _ (by omega) | exact hh _ (by omega) | (exfalso; omega) | exact absurd trivial (by assumption) | (simp (disch := omega) only [hf, hh]; done)
  · by_cases hg0 : g = 0
    · subst hg0
      simp (maxSteps := 500000) (decide := true) (disch := omega) only [f_X3_carryOutNext, f_X3_askFirst, b_X3_askFirst_20, b_X3_askFirst_40, Int32.reduceToNatClampNeg, gp_78, fc_78, tk_78, wi_78, od_78, sw_78, b_X12_done_52, b_X12_done_69, f_X12_isStarred, b_X12_isStarred_42, f_X12_wants, f_X12_wantsStore, b_X12_wantsStore_27, L_0, L_1, L_2, L_3, nlt30, cl_nI, nI_lt0, nI_sub1, nI_sub2, nI_sub3, nI_add1, nI_add2, e_30, Nat.sub_sub, Nat.reduceAdd, hf, hh, sb, ck_T, ckn, not_false_eq_true, false_or, Nat.not_le, ite_self, ↓reduceIte, s_from0, s_from1, s_from2, s_drop1, s_drop2, s_put, s_putF, s_room1, s_room1F, s_take, s_rep, s_raise1, s_raise2, w_push, w_pop, f_X4_structure, b_X4_structure_24, b_X4_structure_45, f_X4_openThingFor, f_X4_opensOneMore, b_X4_opensOneMore_28, f_X4_build, f_X4_openJump, v_oSort, v_oFull, v_oAdd, v_oClose, v_set, s_both, s_bothF, s_app, s_appF, m_room0, m_room1, m_room2, ap_78, f_X12_shapes, b_X12_shapes_29, b_X12_shapes_34, b_X12_shapes_47, b_X12_shapes_63, b_X12_shapes_75, b_X12_shapes_90, b_X12_shapes_130, b_X12_shapes_349, f_X12_expected, b_X12_expected_12, b_X12_expected_28, b_X12_expected_54, f_X12_isOpen, f_X12_open, f_X12_hole, w_append, U_0, nz, e_12, E400, K0, K1, K2, U400, LEn, a11, a21, am2, n12, hk0]
      refine ST.m1 ⟨hT, rS.mk2 (by omega) (by omega) ?_, rY.mk2 (by omega) rfl (by omega), hD, ?_, ⟨rfl, hk⟩, rS.mk2 (by omega) (by omega) ?_, hC, hO⟩
      all_goals try exact rQ.same hg hq
      all_goals try exact rQ.less hg hq (by omega)
      all_goals try exact rQ.add (by omega) (by omega) hq (fun _ => ⟨_, (by omega), rfl⟩) (fun z => absurd z (by decide))
      all_goals try exact rQ.add (by omega) (by omega) hq (fun z => absurd z (by decide)) (fun z => absurd z (by decide))
      all_goals try exact rQ.add (by omega) (by omega) hq (fun _ => ⟨_, (by omega), rfl⟩) (fun _ => ⟨by omega, hs⟩)
      all_goals (intro i hi; try simp only [upd_at])
      all_goals repeat' split
      all_goals first | rfl | exact hf _ (by omega) | exact hh _ (by omega) | (exfalso; omega) | exact absurd trivial (by assumption) | (simp (disch := omega) only [hf, hh]; done)
    · by_cases hs : os (g - 1) = 4
      · by_cases h5 : a ≤ 398
        · simp (maxSteps := 500000) (decide := true) (disch := omega) only [f_X3_carryOutNext, f_X3_askFirst, b_X3_askFirst_20, b_X3_askFirst_40, Int32.reduceToNatClampNeg, gp_78, fc_78, tk_78, wi_78, od_78, sw_78, b_X12_done_52, b_X12_done_69, f_X12_isStarred, b_X12_isStarred_42, f_X12_wants, f_X12_wantsStore, b_X12_wantsStore_27, L_0, L_1, L_2, L_3, nlt30, cl_nI, nI_lt0, nI_sub1, nI_sub2, nI_sub3, nI_add1, nI_add2, e_30, Nat.sub_sub, Nat.reduceAdd, hf, hh, sb, ck_T, ckn, not_false_eq_true, false_or, Nat.not_le, ite_self, ↓reduceIte, s_from0, s_from1, s_from2, s_drop1, s_drop2, s_put, s_putF, s_room1, s_room1F, s_take, s_rep, s_raise1, s_raise2, w_push, w_pop, f_X4_structure, b_X4_structure_24, b_X4_structure_45, f_X4_openThingFor, f_X4_opensOneMore, b_X4_opensOneMore_28, f_X4_build, f_X4_openJump, v_oSort, v_oFull, v_oAdd, v_oClose, v_set, s_both, s_bothF, s_app, s_appF, m_room0, m_room1, m_room2, ap_78, f_X12_shapes, b_X12_shapes_29, b_X12_shapes_34, b_X12_shapes_47, b_X12_shapes_63, b_X12_shapes_75, b_X12_shapes_90, b_X12_shapes_130, b_X12_shapes_349, f_X12_expected, b_X12_expected_12, b_X12_expected_28, b_X12_expected_54, f_X12_isOpen, f_X12_open, f_X12_hole, w_append, U_0, nz, e_12, E400, K0, K1, K2, U400, LEn, a11, a21, am2, n12, hk0, hg0, hs, h5]
          refine ST.m1 ⟨hT, rS.mk2 (by omega) (by omega) ?_, rY.mk2 (by omega) rfl (by omega), hD, ?_, ⟨rfl, hk⟩, rS.mk2 (by omega) (by omega) ?_, hC, hO⟩
          all_goals try exact rQ.same hg hq
          all_goals try exact rQ.less hg hq (by omega)
          all_goals try exact rQ.add (by omega) (by omega) hq (fun _ => ⟨_, (by omega), rfl⟩) (fun z => absurd z (by decide))
          all_goals try exact rQ.add (by omega) (by omega) hq (fun z => absurd z (by decide)) (fun z => absurd z (by decide))
          all_goals try exact rQ.add (by omega) (by omega) hq (fun _ => ⟨_, (by omega), rfl⟩) (fun _ => ⟨by omega, hs⟩)
          all_goals (intro i hi; try simp only [upd_at])
          all_goals repeat' split
          all_goals first | rfl | exact hf _ (by omega) | exact hh _ (by omega) | (exfalso; omega) | exact absurd trivial (by assumption) | (simp (disch := omega) only [hf, hh]; done)
        · simp (maxSteps := 500000) (decide := true) (disch := omega) only [f_X3_carryOutNext, f_X3_askFirst, b_X3_askFirst_20, b_X3_askFirst_40, Int32.reduceToNatClampNeg, gp_78, fc_78, tk_78, wi_78, od_78, sw_78, b_X12_done_52, b_X12_done_69, f_X12_isStarred, b_X12_isStarred_42, f_X12_wants, f_X12_wantsStore, b_X12_wantsStore_27, L_0, L_1, L_2, L_3, nlt30, cl_nI, nI_lt0, nI_sub1, nI_sub2, nI_sub3, nI_add1, nI_add2, e_30, Nat.sub_sub, Nat.reduceAdd, hf, hh, sb, ck_T, ckn, not_false_eq_true, false_or, Nat.not_le, ite_self, ↓reduceIte, s_from0, s_from1, s_from2, s_drop1, s_drop2, s_put, s_putF, s_room1, s_room1F, s_take, s_rep, s_raise1, s_raise2, w_push, w_pop, f_X4_structure, b_X4_structure_24, b_X4_structure_45, f_X4_openThingFor, f_X4_opensOneMore, b_X4_opensOneMore_28, f_X4_build, f_X4_openJump, v_oSort, v_oFull, v_oAdd, v_oClose, v_set, s_both, s_bothF, s_app, s_appF, m_room0, m_room1, m_room2, ap_78, f_X12_shapes, b_X12_shapes_29, b_X12_shapes_34, b_X12_shapes_47, b_X12_shapes_63, b_X12_shapes_75, b_X12_shapes_90, b_X12_shapes_130, b_X12_shapes_349, f_X12_expected, b_X12_expected_12, b_X12_expected_28, b_X12_expected_54, f_X12_isOpen, f_X12_open, f_X12_hole, w_append, U_0, nz, e_12, E400, K0, K1, K2, U400, LEn, a11, a21, am2, n12, hk0, hg0, hs, h5]
          refine ST.m1 ⟨hT, rS.mk2 (by omega) (by omega) ?_, rY.mk2 (by omega) rfl (by omega), hD, ?_, ⟨rfl, hk⟩, rS.mk2 (by omega) (by omega) ?_, hC, hO⟩
          all_goals try exact rQ.same hg hq
          all_goals try exact rQ.less hg hq (by omega)
          all_goals try exact rQ.add (by omega) (by omega) hq (fun _ => ⟨_, (by omega), rfl⟩) (fun z => absurd z (by decide))
          all_goals try exact rQ.add (by omega) (by omega) hq (fun z => absurd z (by decide)) (fun z => absurd z (by decide))
          all_goals try exact rQ.add (by omega) (by omega) hq (fun _ => ⟨_, (by omega), rfl⟩) (fun _ => ⟨by omega, hs⟩)
          all_goals (intro i hi; try simp only [upd_at])
          all_goals repeat' split
          all_goals first | rfl | exact hf _ (by omega) | exact hh _ (by omega) | (exfalso; omega) | exact absurd trivial (by assumption) | (simp (disch := omega) only [hf, hh]; done)
      · simp (maxSteps := 500000) (decide := true) (disch := omega) only [f_X3_carryOutNext, f_X3_askFirst, b_X3_askFirst_20, b_X3_askFirst_40, Int32.reduceToNatClampNeg, gp_78, fc_78, tk_78, wi_78, od_78, sw_78, b_X12_done_52, b_X12_done_69, f_X12_isStarred, b_X12_isStarred_42, f_X12_wants, f_X12_wantsStore, b_X12_wantsStore_27, L_0, L_1, L_2, L_3, nlt30, cl_nI, nI_lt0, nI_sub1, nI_sub2, nI_sub3, nI_add1, nI_add2, e_30, Nat.sub_sub, Nat.reduceAdd, hf, hh, sb, ck_T, ckn, not_false_eq_true, false_or, Nat.not_le, ite_self, ↓reduceIte, s_from0, s_from1, s_from2, s_drop1, s_drop2, s_put, s_putF, s_room1, s_room1F, s_take, s_rep, s_raise1, s_raise2, w_push, w_pop, f_X4_structure, b_X4_structure_24, b_X4_structure_45, f_X4_openThingFor, f_X4_opensOneMore, b_X4_opensOneMore_28, f_X4_build, f_X4_openJump, v_oSort, v_oFull, v_oAdd, v_oClose, v_set, s_both, s_bothF, s_app, s_appF, m_room0, m_room1, m_room2, ap_78, f_X12_shapes, b_X12_shapes_29, b_X12_shapes_34, b_X12_shapes_47, b_X12_shapes_63, b_X12_shapes_75, b_X12_shapes_90, b_X12_shapes_130, b_X12_shapes_349, f_X12_expected, b_X12_expected_12, b_X12_expected_28, b_X12_expected_54, f_X12_isOpen, f_X12_open, f_X12_hole, w_append, U_0, nz, e_12, E400, K0, K1, K2, U400, LEn, a11, a21, am2, n12, hk0, hg0, hs]
        refine ST.m1 ⟨hT, rS.mk2 (by omega) (by omega) ?_, rY.mk2 (by omega) rfl (by omega), hD, ?_, ⟨rfl, hk⟩, rS.mk2 (by omega) (by omega) ?_, hC, hO⟩
        all_goals try exact rQ.same hg hq
        all_goals try exact rQ.less hg hq (by omega)
        all_goals try exact rQ.add (by omega) (by omega) hq (fun _ => ⟨_, (by omega), rfl⟩) (fun z => absurd z (by decide))
        all_goals try exact rQ.add (by omega) (by omega) hq (fun z => absurd z (by decide)) (fun z => absurd z (by decide))
        all_goals try exact rQ.add (by omega) (by omega) hq (fun _ => ⟨_, (by omega), rfl⟩) (fun _ => ⟨by omega, hs⟩)
        all_goals (intro i hi; try simp only [upd_at])
        all_goals repeat' split
        all_goals first | rfl | exact hf _ (by omega) | exact hh _ (by omega) | (exfalso; omega) | exact absurd trivial (by assumption) | (simp (disch := omega) only [hf, hh]; done)
end STRUCT2
