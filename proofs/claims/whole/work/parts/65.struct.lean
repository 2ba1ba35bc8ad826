/-! structure: facts -/
section OPEN
variable {g : Nat} {os op : Nat → Int32}
def QI (g : Nat) (os op : Nat → Int32) : Prop := ∀ i, i < g → (os i = 1 ∨ os i = 3 → ∃ u : Nat, u < 400 ∧ op i = nI u) ∧ (os i = 3 → 0 < i ∧ os (i - 1) = 2)
theorem rQ.same (hg : g ≤ 12) (hq : QI g os op) : rQ (nI g, os, op) (nI g, os, op) := ⟨rfl, g, os, op, hg, rfl, hq⟩
theorem rQ.less (hg : g ≤ 12) (hq : QI g os op) {b : Nat} (hb : b ≤ g) : rQ (nI b, os, op) (nI b, os, op) := rQ.same (by omega) fun i hi => hq i (by omega)
theorem rQ.add {b : Nat} (hb : b < 12) (hbg : b ≤ g) (hq : QI g os op) {x v : Int32} (hx : x = 1 ∨ x = 3 → ∃ u : Nat, u < 400 ∧ v = nI u) (h3 : x = 3 → 0 < b ∧ os (b - 1) = 2) : rQ (nI (b + 1), upd os b x, upd op b v) (nI (b + 1), upd os b x, upd op b v) := rQ.same (by omega) fun i hi => by
  by_cases q : i = b
  · subst q
    refine ⟨fun z => ?_, fun z => ?_⟩
    · rw [upd_at, if_pos rfl]; rw [upd_at, if_pos rfl] at z; exact hx z
    · rw [upd_at, if_pos rfl] at z
      rw [upd_at, if_neg (by have := h3 z; omega)]; exact h3 z
  · obtain ⟨w1, w2⟩ := hq i (by omega)
    refine ⟨fun z => ?_, fun z => ?_⟩
    · rw [upd_at, if_neg q]; rw [upd_at, if_neg q] at z; exact w1 z
    · rw [upd_at, if_neg q] at z
      rw [upd_at, if_neg (by have := w2 z; omega)]; exact w2 z
end OPEN
theorem m_room0 {a : Nat} {z : Nat → Int32} (h : a ≤ 400) : f_X5_hasRoom 0 (nI a, z) = some 1 := by
  refine (v_mroom h 0 (by omega) z).trans ?_
  rw [if_pos (by omega)]
theorem m_room1 {a : Nat} {z : Nat → Int32} (h : a ≤ 400) : f_X5_hasRoom 1 (nI a, z) = some (if a ≤ 399 then 1 else 0) := by
  refine (v_mroom h 1 (by omega) z).trans ?_
  by_cases q : a ≤ 399
  · rw [if_pos q, if_pos (by omega)]
  · rw [if_neg q, if_neg (by omega)]
theorem m_room2 {a : Nat} {z : Nat → Int32} (h : a ≤ 400) : f_X5_hasRoom 2 (nI a, z) = some (if a ≤ 398 then 1 else 0) := by
  refine (v_mroom h 2 (by omega) z).trans ?_
  by_cases q : a ≤ 398
  · rw [if_pos q, if_pos (by omega)]
  · rw [if_neg q, if_neg (by omega)]
theorem m_room3 {a : Nat} {z : Nat → Int32} (h : a ≤ 400) : f_X5_hasRoom 3 (nI a, z) = some (if a ≤ 397 then 1 else 0) := by
  refine (v_mroom h 3 (by omega) z).trans ?_
  by_cases q : a ≤ 397
  · rw [if_pos q, if_pos (by omega)]
  · rw [if_neg q, if_neg (by omega)]
theorem s_both {a : Nat} {x v : Int32} {z : Nat → Int32} (h : a ≤ 398) : f_X5_appendBoth x v (nI a, z) = some (0, (nI (a + 2), upd (upd z a x) (a + 1) v)) := by
  rw [v_both (by omega), if_pos (by omega)]
theorem s_bothF {a : Nat} {x v : Int32} {z : Nat → Int32} (h : ¬ a ≤ 398) (ha : a ≤ 400) : f_X5_appendBoth x v (nI a, z) = some (-8, (nI a, z)) := by
  rw [v_both (by omega), if_neg (by omega)]
theorem s_app {a : Nat} {x : Int32} {z : Nat → Int32} (h : a ≤ 399) : f_X5_append x (nI a, z) = some (0, (nI (a + 1), upd z a x)) := by
  rw [v_append (by omega), if_neg (by omega)]
theorem s_appF {a : Nat} {x : Int32} {z : Nat → Int32} (h : ¬ a ≤ 399) (ha : a ≤ 400) : f_X5_append x (nI a, z) = some (-8, (nI a, z)) := by
  rw [v_append (by omega), if_pos (by omega)]
theorem E400 {a : Nat} (ha : a ≤ 400) : (nI a = 400) = (¬ a ≤ 399) := propext ⟨fun q => by have := (nI_eq (b := 400) (by omega) (by omega)).mp q; omega, fun q => (nI_eq (b := 400) (by omega) (by omega)).mpr (by omega)⟩
theorem K0 : ((400 : Int32) - 0) = 400 := by decide
theorem K1 : ((400 : Int32) - 1) = nI 399 := by decide
theorem K2 : ((400 : Int32) - 2) = nI 398 := by decide
theorem K3 : ((400 : Int32) - 3) = nI 397 := by decide
theorem K398 : (398 : Int32) = nI 398 := rfl
theorem LEn {a b : Nat} (h1 : a < 2 ^ 31) (h2 : b < 2 ^ 31) : (nI a ≤ nI b) = (a ≤ b) := propext ⟨fun q => Nat.not_lt.mp fun z => absurd q (nI_ge z h1), fun q => nI_le q h2⟩
theorem a11 {a : Nat} : a + 1 + 1 = a + 2 := rfl
theorem a21 {a : Nat} : a + 2 + 1 = a + 3 := rfl
theorem am2 {a : Nat} : a + 2 - 1 = a + 1 := rfl
theorem n12 {g : Nat} (h : g < 12) : (g = 12) = False := eq_false (by omega)
/-! words 69 to 73 -/
section STRUCT
variable {t : tT} {s : tR} {y : tY} {d : tD} {q : tP} {k : tK} {r : tR} {c : tC} {o : tO} {T : mT} {S : mS} {R : mR} {C : mC} {Y : mY} {D : mD} {K : mK} {Q : mP} {O : mO}

theorem wd_69 (hR : REL t s y d q k r c o T S R C Y D K Q O) (al st ca ov an th lf st' ca' re en : Int32) : ST (f_X3_carryOutNext t s y d q k r c o (al, st, ca, 69, ov, an)) (f_X12_done 69 T S R C Y D K Q O (th, lf, st', ca', -1, re, en)) al (st + 1) ca ov an th lf st' ca' re en := by
  obtain ⟨hT, ⟨n, f, F, hn, rfl, rfl, hf⟩, hY, hD, hQ, hK, ⟨p, h, G, hp, rfl, rfl, hh⟩, hC, hO⟩ := hR
  rw [dn_ge (by decide) (by decide) hC]
  obtain ⟨rfl, a, z, ha, rfl⟩ := hY
  obtain ⟨rfl, g, os, op, hg, rfl, hq⟩ := hQ
  obtain ⟨rfl, hk⟩ := hK
  by_cases hk0 : K = 0
  · subst hk0
    simp (maxSteps := 500000) (decide := true) (disch := omega) only [f_X3_carryOutNext, f_X3_askFirst, b_X3_askFirst_20, b_X3_askFirst_40, Int32.reduceToNatClampNeg, gp_69, fc_69, tk_69, wi_69, od_69, sw_69, b_X12_done_52, b_X12_done_69, f_X12_isStarred, b_X12_isStarred_42, f_X12_wants, f_X12_wantsStore, b_X12_wantsStore_27, L_0, L_1, L_2, L_3, nlt30, cl_nI, nI_lt0, nI_sub1, nI_sub2, nI_sub3, nI_add1, nI_add2, e_30, Nat.sub_sub, Nat.reduceAdd, hf, hh, sb, ck_T, ckn, not_false_eq_true, false_or, Nat.not_le, ite_self, ↓reduceIte, s_from0, s_from1, s_from2, s_drop1, s_drop2, s_put, s_putF, s_room1, s_room1F, s_take, s_rep, s_raise1, s_raise2, w_push, w_pop, f_X4_structure, b_X4_structure_24, b_X4_structure_45, f_X4_openThingFor, f_X4_opensOneMore, b_X4_opensOneMore_28, f_X4_build, f_X4_openJump, v_oSort, v_oFull, v_oAdd, v_oClose, v_set, s_both, s_bothF, s_app, s_appF, m_room0, m_room1, m_room2, ap_69, f_X12_shapes, b_X12_shapes_29, b_X12_shapes_34, b_X12_shapes_47, b_X12_shapes_63, b_X12_shapes_75, b_X12_shapes_90, b_X12_shapes_130, b_X12_shapes_349, f_X12_expected, b_X12_expected_12, b_X12_expected_28, b_X12_expected_54, f_X12_isOpen, f_X12_open, f_X12_hole, w_append, U_0, nz, e_12, E400, K0, K1, K2, U400, LEn, a11, a21, am2, n12]
    refine ST.m1 ⟨hT, rS.mk2 (by omega) (by omega) ?_, rY.mk2 (by omega) rfl (by omega), hD, ?_, ⟨rfl, hk⟩, rS.mk2 (by omega) (by omega) ?_, hC, hO⟩
    all_goals try exact rQ.same hg hq
    all_goals try exact rQ.less hg hq (by omega)
    all_goals try exact rQ.add (by omega) (by omega) hq (fun _ => ⟨_, (by omega), rfl⟩) (fun z => absurd z (by decide))
    all_goals try exact rQ.add (by omega) (by omega) hq (fun z => absurd z (by decide)) (fun z => absurd z (by decide))
    all_goals try exact rQ.add (by omega) (by omega) hq (fun _ => ⟨_, (by omega), rfl⟩) (fun _ => ⟨by omega, hs⟩)
    all_goals (intro i hi; try simp only [upd_at])
    all_goals repeat' split
    all_goals first | rfl | exact hf _ (by omega) | exact hh _ (by omega) | (exfalso; omega) | exact absurd trivial (by assumption) | (simp (disch := omega) only [hf, hh]; done)
  · by_cases hf12 : g = 12
    · subst hf12
      simp (maxSteps := 500000) (decide := true) (disch := omega) only [f_X3_carryOutNext, f_X3_askFirst, b_X3_askFirst_20, b_X3_askFirst_40, Int32.reduceToNatClampNeg, gp_69, fc_69, tk_69, wi_69, od_69, sw_69, b_X12_done_52, b_X12_done_69, f_X12_isStarred, b_X12_isStarred_42, f_X12_wants, f_X12_wantsStore, b_X12_wantsStore_27, L_0, L_1, L_2, L_3, nlt30, cl_nI, nI_lt0, nI_sub1, nI_sub2, nI_sub3, nI_add1, nI_add2, e_30, Nat.sub_sub, Nat.reduceAdd, hf, hh, sb, ck_T, ckn, not_false_eq_true, false_or, Nat.not_le, ite_self, ↓reduceIte, s_from0, s_from1, s_from2, s_drop1, s_drop2, s_put, s_putF, s_room1, s_room1F, s_take, s_rep, s_raise1, s_raise2, w_push, w_pop, f_X4_structure, b_X4_structure_24, b_X4_structure_45, f_X4_openThingFor, f_X4_opensOneMore, b_X4_opensOneMore_28, f_X4_build, f_X4_openJump, v_oSort, v_oFull, v_oAdd, v_oClose, v_set, s_both, s_bothF, s_app, s_appF, m_room0, m_room1, m_room2, ap_69, f_X12_shapes, b_X12_shapes_29, b_X12_shapes_34, b_X12_shapes_47, b_X12_shapes_63, b_X12_shapes_75, b_X12_shapes_90, b_X12_shapes_130, b_X12_shapes_349, f_X12_expected, b_X12_expected_12, b_X12_expected_28, b_X12_expected_54, f_X12_isOpen, f_X12_open, f_X12_hole, w_append, U_0, nz, e_12, E400, K0, K1, K2, U400, LEn, a11, a21, am2, n12, hk0]
      refine ST.m1 ⟨hT, rS.mk2 (by omega) (by omega) ?_, rY.mk2 (by omega) rfl (by omega), hD, ?_, ⟨rfl, hk⟩, rS.mk2 (by omega) (by omega) ?_, hC, hO⟩
      all_goals try exact rQ.same hg hq
      all_goals try exact rQ.less hg hq (by omega)
      all_goals try exact rQ.add (by omega) (by omega) hq (fun _ => ⟨_, (by omega), rfl⟩) (fun z => absurd z (by decide))
      all_goals try exact rQ.add (by omega) (by omega) hq (fun z => absurd z (by decide)) (fun z => absurd z (by decide))
      all_goals try exact rQ.add (by omega) (by omega) hq (fun _ => ⟨_, (by omega), rfl⟩) (fun _ => ⟨by omega, hs⟩)
      all_goals (intro i hi; try simp only [upd_at])
      all_goals repeat' split
      all_goals first | rfl | exact hf _ (by omega) | exact hh _ (by omega) | (exfalso; omega) | exact absurd trivial (by assumption) | (simp (disch := omega) only [hf, hh]; done)
    · by_cases hg0 : g = 0
      · subst hg0
        by_cases h5 : a ≤ 398
        · simp (maxSteps := 500000) (decide := true) (disch := omega) only [f_X3_carryOutNext, f_X3_askFirst, b_X3_askFirst_20, b_X3_askFirst_40, Int32.reduceToNatClampNeg, gp_69, fc_69, tk_69, wi_69, od_69, sw_69, b_X12_done_52, b_X12_done_69, f_X12_isStarred, b_X12_isStarred_42, f_X12_wants, f_X12_wantsStore, b_X12_wantsStore_27, L_0, L_1, L_2, L_3, nlt30, cl_nI, nI_lt0, nI_sub1, nI_sub2, nI_sub3, nI_add1, nI_add2, e_30, Nat.sub_sub, Nat.reduceAdd, hf, hh, sb, ck_T, ckn, not_false_eq_true, false_or, Nat.not_le, ite_self, ↓reduceIte, s_from0, s_from1, s_from2, s_drop1, s_drop2, s_put, s_putF, s_room1, s_room1F, s_take, s_rep, s_raise1, s_raise2, w_push, w_pop, f_X4_structure, b_X4_structure_24, b_X4_structure_45, f_X4_openThingFor, f_X4_opensOneMore, b_X4_opensOneMore_28, f_X4_build, f_X4_openJump, v_oSort, v_oFull, v_oAdd, v_oClose, v_set, s_both, s_bothF, s_app, s_appF, m_room0, m_room1, m_room2, ap_69, f_X12_shapes, b_X12_shapes_29, b_X12_shapes_34, b_X12_shapes_47, b_X12_shapes_63, b_X12_shapes_75, b_X12_shapes_90, b_X12_shapes_130, b_X12_shapes_349, f_X12_expected, b_X12_expected_12, b_X12_expected_28, b_X12_expected_54, f_X12_isOpen, f_X12_open, f_X12_hole, w_append, U_0, nz, e_12, E400, K0, K1, K2, U400, LEn, a11, a21, am2, n12, hk0, hf12, h5]
          refine ST.m1 ⟨hT, rS.mk2 (by omega) (by omega) ?_, rY.mk2 (by omega) rfl (by omega), hD, ?_, ⟨rfl, hk⟩, rS.mk2 (by omega) (by omega) ?_, hC, hO⟩
          all_goals try exact rQ.same hg hq
          all_goals try exact rQ.less hg hq (by omega)
          all_goals try exact rQ.add (by omega) (by omega) hq (fun _ => ⟨_, (by omega), rfl⟩) (fun z => absurd z (by decide))
          all_goals try exact rQ.add (by omega) (by omega) hq (fun z => absurd z (by decide)) (fun z => absurd z (by decide))
          all_goals try exact rQ.add (by omega) (by omega) hq (fun _ => ⟨_, (by omega), rfl⟩) (fun _ => ⟨by omega, hs⟩)
          all_goals (intro i hi; try simp only [upd_at])
          all_goals repeat' split
          all_goals first | rfl | exact hf _ (by omega) | exact hh _ (by omega) | (exfalso; omega) | exact absurd trivial (by assumption) | (simp (disch := omega) only [hf, hh]; done)
        · simp (maxSteps := 500000) (decide := true) (disch := omega) only [f_X3_carryOutNext, f_X3_askFirst, b_X3_askFirst_20, b_X3_askFirst_40, Int32.reduceToNatClampNeg, gp_69, fc_69, tk_69, wi_69, od_69, sw_69, b_X12_done_52, b_X12_done_69, f_X12_isStarred, b_X12_isStarred_42, f_X12_wants, f_X12_wantsStore, b_X12_wantsStore_27, L_0, L_1, L_2, L_3, nlt30, cl_nI, nI_lt0, nI_sub1, nI_sub2, nI_sub3, nI_add1, nI_add2, e_30, Nat.sub_sub, Nat.reduceAdd, hf, hh, sb, ck_T, ckn, not_false_eq_true, false_or, Nat.not_le, ite_self, ↓reduceIte, s_from0, s_from1, s_from2, s_drop1, s_drop2, s_put, s_putF, s_room1, s_room1F, s_take, s_rep, s_raise1, s_raise2, w_push, w_pop, f_X4_structure, b_X4_structure_24, b_X4_structure_45, f_X4_openThingFor, f_X4_opensOneMore, b_X4_opensOneMore_28, f_X4_build, f_X4_openJump, v_oSort, v_oFull, v_oAdd, v_oClose, v_set, s_both, s_bothF, s_app, s_appF, m_room0, m_room1, m_room2, ap_69, f_X12_shapes, b_X12_shapes_29, b_X12_shapes_34, b_X12_shapes_47, b_X12_shapes_63, b_X12_shapes_75, b_X12_shapes_90, b_X12_shapes_130, b_X12_shapes_349, f_X12_expected, b_X12_expected_12, b_X12_expected_28, b_X12_expected_54, f_X12_isOpen, f_X12_open, f_X12_hole, w_append, U_0, nz, e_12, E400, K0, K1, K2, U400, LEn, a11, a21, am2, n12, hk0, hf12, h5]
          refine ST.m1 ⟨hT, rS.mk2 (by omega) (by omega) ?_, rY.mk2 (by omega) rfl (by omega), hD, ?_, ⟨rfl, hk⟩, rS.mk2 (by omega) (by omega) ?_, hC, hO⟩
          all_goals try exact rQ.same hg hq
          all_goals try exact rQ.less hg hq (by omega)
          all_goals try exact rQ.add (by omega) (by omega) hq (fun _ => ⟨_, (by omega), rfl⟩) (fun z => absurd z (by decide))
          all_goals try exact rQ.add (by omega) (by omega) hq (fun z => absurd z (by decide)) (fun z => absurd z (by decide))
          all_goals try exact rQ.add (by omega) (by omega) hq (fun _ => ⟨_, (by omega), rfl⟩) (fun _ => ⟨by omega, hs⟩)
          all_goals (intro i hi; try simp only [upd_at])
          all_goals repeat' split
          all_goals first | rfl | exact hf _ (by omega) | exact hh _ (by omega) | (exfalso; omega) | exact absurd trivial (by assumption) | (simp (disch := omega) only [hf, hh]; done)
      · by_cases h5 : a ≤ 398
        · simp (maxSteps := 500000) (decide := true) (disch := omega) only [f_X3_carryOutNext, f_X3_askFirst, b_X3_askFirst_20, b_X3_askFirst_40, Int32.reduceToNatClampNeg, gp_69, fc_69, tk_69, wi_69, od_69, sw_69, b_X12_done_52, b_X12_done_69, f_X12_isStarred, b_X12_isStarred_42, f_X12_wants, f_X12_wantsStore, b_X12_wantsStore_27, L_0, L_1, L_2, L_3, nlt30, cl_nI, nI_lt0, nI_sub1, nI_sub2, nI_sub3, nI_add1, nI_add2, e_30, Nat.sub_sub, Nat.reduceAdd, hf, hh, sb, ck_T, ckn, not_false_eq_true, false_or, Nat.not_le, ite_self, ↓reduceIte, s_from0, s_from1, s_from2, s_drop1, s_drop2, s_put, s_putF, s_room1, s_room1F, s_take, s_rep, s_raise1, s_raise2, w_push, w_pop, f_X4_structure, b_X4_structure_24, b_X4_structure_45, f_X4_openThingFor, f_X4_opensOneMore, b_X4_opensOneMore_28, f_X4_build, f_X4_openJump, v_oSort, v_oFull, v_oAdd, v_oClose, v_set, s_both, s_bothF, s_app, s_appF, m_room0, m_room1, m_room2, ap_69, f_X12_shapes, b_X12_shapes_29, b_X12_shapes_34, b_X12_shapes_47, b_X12_shapes_63, b_X12_shapes_75, b_X12_shapes_90, b_X12_shapes_130, b_X12_shapes_349, f_X12_expected, b_X12_expected_12, b_X12_expected_28, b_X12_expected_54, f_X12_isOpen, f_X12_open, f_X12_hole, w_append, U_0, nz, e_12, E400, K0, K1, K2, U400, LEn, a11, a21, am2, n12, hk0, hf12, hg0, h5]
          refine ST.m1 ⟨hT, rS.mk2 (by omega) (by omega) ?_, rY.mk2 (by omega) rfl (by omega), hD, ?_, ⟨rfl, hk⟩, rS.mk2 (by omega) (by omega) ?_, hC, hO⟩
          all_goals try exact rQ.same hg hq
          all_goals try exact rQ.less hg hq (by omega)
          all_goals try exact rQ.add (by omega) (by omega) hq (fun _ => ⟨_, (by omega), rfl⟩) (fun z => absurd z (by decide))
          all_goals try exact rQ.add (by omega) (by omega) hq (fun z => absurd z (by decide)) (fun z => absurd z (by decide))
          all_goals try exact rQ.add (by omega) (by omega) hq (fun _ => ⟨_, (by omega), rfl⟩) (fun _ => ⟨by omega, hs⟩)
          all_goals (intro i hi; try simp only [upd_at])
          all_goals repeat' split
          all_goals first | rfl | exact hf _ (by omega) | exact hh _ (by omega) | (exfalso; omega) | exact absurd trivial (by assumption) | (simp (disch := omega) only [hf, hh]; done)
        · simp (maxSteps := 500000) (decide := true) (disch := omega) only [f_X3_carryOutNext, f_X3_askFirst, b_X3_askFirst_20, b_X3_askFirst_40, Int32.reduceToNatClampNeg, gp_69, fc_69, tk_69, wi_69, od_69, sw_69, b_X12_done_52, b_X12_done_69, f_X12_isStarred, b_X12_isStarred_42, f_X12_wants, f_X12_wantsStore, b_X12_wantsStore_27, L_0, L_1, L_2, L_3, nlt30, cl_nI, nI_lt0, nI_sub1, nI_sub2, nI_sub3, nI_add1, nI_add2, e_30, Nat.sub_sub, Nat.reduceAdd, hf, hh, sb, ck_T, ckn, not_false_eq_true, false_or, Nat.not_le, ite_self, ↓reduceIte, s_from0, s_from1, s_from2, s_drop1, s_drop2, s_put, s_putF, s_room1, s_room1F, s_take, s_rep, s_raise1, s_raise2, w_push, w_pop, f_X4_structure, b_X4_structure_24, b_X4_structure_45, f_X4_openThingFor, f_X4_opensOneMore, b_X4_opensOneMore_28, f_X4_build, f_X4_openJump, v_oSort, v_oFull, v_oAdd, v_oClose, v_set, s_both, s_bothF, s_app, s_appF, m_room0, m_room1, m_room2, ap_69, f_X12_shapes, b_X12_shapes_29, b_X12_shapes_34, b_X12_shapes_47, b_X12_shapes_63, b_X12_shapes_75, b_X12_shapes_90, b_X12_shapes_130, b_X12_shapes_349, f_X12_expected, b_X12_expected_12, b_X12_expected_28, b_X12_expected_54, f_X12_isOpen, f_X12_open, f_X12_hole, w_append, U_0, nz, e_12, E400, K0, K1, K2, U400, LEn, a11, a21, am2, n12, hk0, hf12, hg0, h5]
          refine ST.m1 ⟨hT, rS.mk2 (by omega) (by omega) ?_, rY.mk2 (by omega) rfl (by omega), hD, ?_, ⟨rfl, hk⟩, rS.mk2 (by omega) (by omega) ?_, hC, hO⟩
          all_goals try exact rQ.same hg hq
          all_goals try exact rQ.less hg hq (by omega)
          all_goals try exact rQ.add (by omega) (by omega) hq (fun _ => ⟨_, (by omega), rfl⟩) (fun z => absurd z (by decide))
          all_goals try exact rQ.add (by omega) (by omega) hq (fun z => absurd z (by decide)) (fun z => absurd z (by decide))
          all_goals try exact rQ.add (by omega) (by omega) hq (fun _ => ⟨_, (by omega), rfl⟩) (fun _ => ⟨by omega, hs⟩)
          all_goals (intro i hi; try simp only [upd_at])
          all_goals repeat' split
          all_goals first | rfl | exact hf _ (by omega) | exact hh _ (by omega) | (exfalso; omega) | exact absurd trivial (by assumption) | (simp (disch := omega) only [hf, hh]; done)
theorem wd_70 (hR : REL t s y d q k r c o T S R C Y D K Q O) (al st ca ov an th lf st' ca' re en : Int32) : ST (f_X3_carryOutNext t s y d q k r c o (al, st, ca, 70, ov, an)) (f_X12_done 70 T S R C Y D K Q O (th, lf, st', ca', -1, re, en)) al (st + 1) ca ov an th lf st' ca' re en := by
  obtain ⟨hT, ⟨n, f, F, hn, rfl, rfl, hf⟩, hY, hD, hQ, hK, ⟨p, h, G, hp, rfl, rfl, hh⟩, hC, hO⟩ := hR
  rw [dn_ge (by decide) (by decide) hC]
  obtain ⟨rfl, a, z, ha, rfl⟩ := hY
  obtain ⟨rfl, g, os, op, hg, rfl, hq⟩ := hQ
  obtain ⟨rfl, hk⟩ := hK
  by_cases hk0 : K = 0
  · subst hk0
    simp (maxSteps := 500000) (decide := true) (disch := omega) only [f_X3_carryOutNext, f_X3_askFirst, b_X3_askFirst_20, b_X3_askFirst_40, Int32.reduceToNatClampNeg, gp_70, fc_70, tk_70, wi_70, od_70, sw_70, b_X12_done_52, b_X12_done_69, f_X12_isStarred, b_X12_isStarred_42, f_X12_wants, f_X12_wantsStore, b_X12_wantsStore_27, L_0, L_1, L_2, L_3, nlt30, cl_nI, nI_lt0, nI_sub1, nI_sub2, nI_sub3, nI_add1, nI_add2, e_30, Nat.sub_sub, Nat.reduceAdd, hf, hh, sb, ck_T, ckn, not_false_eq_true, false_or, Nat.not_le, ite_self, ↓reduceIte, s_from0, s_from1, s_from2, s_drop1, s_drop2, s_put, s_putF, s_room1, s_room1F, s_take, s_rep, s_raise1, s_raise2, w_push, w_pop, f_X4_structure, b_X4_structure_24, b_X4_structure_45, f_X4_openThingFor, f_X4_opensOneMore, b_X4_opensOneMore_28, f_X4_build, f_X4_openJump, v_oSort, v_oFull, v_oAdd, v_oClose, v_set, s_both, s_bothF, s_app, s_appF, m_room0, m_room1, m_room2, ap_70, f_X12_shapes, b_X12_shapes_29, b_X12_shapes_34, b_X12_shapes_47, b_X12_shapes_63, b_X12_shapes_75, b_X12_shapes_90, b_X12_shapes_130, b_X12_shapes_349, f_X12_expected, b_X12_expected_12, b_X12_expected_28, b_X12_expected_54, f_X12_isOpen, f_X12_open, f_X12_hole, w_append, U_0, nz, e_12, E400, K0, K1, K2, U400, LEn, a11, a21, am2, n12]
    refine ST.m1 ⟨hT, rS.mk2 (by omega) (by omega) ?_, rY.mk2 (by omega) rfl (by omega), hD, ?_, ⟨rfl, hk⟩, rS.mk2 (by omega) (by omega) ?_, hC, hO⟩
    all_goals try exact rQ.same hg hq
    all_goals try exact rQ.less hg hq (by omega)
    all_goals try exact rQ.add (by omega) (by omega) hq (fun _ => ⟨_, (by omega), rfl⟩) (fun z => absurd z (by decide))
    all_goals try exact rQ.add (by omega) (by omega) hq (fun z => absurd z (by decide)) (fun z => absurd z (by decide))
    all_goals try exact rQ.add (by omega) (by omega) hq (fun _ => ⟨_, (by omega), rfl⟩) (fun _ => ⟨by omega, hs⟩)
    all_goals (intro i hi; try simp only [upd_at])
    all_goals repeat' split
    all_goals first | rfl | exact hf _ (by omega) | exact hh _ (by omega) | (exfalso; omega) | exact absurd trivial (by assumption) | (simp (disch := omega) only [hf, hh]; done)
  · by_cases hg0 : g = 0
    · subst hg0
      simp (maxSteps := 500000) (decide := true) (disch := omega) only [f_X3_carryOutNext, f_X3_askFirst, b_X3_askFirst_20, b_X3_askFirst_40, Int32.reduceToNatClampNeg, gp_70, fc_70, tk_70, wi_70, od_70, sw_70, b_X12_done_52, b_X12_done_69, f_X12_isStarred, b_X12_isStarred_42, f_X12_wants, f_X12_wantsStore, b_X12_wantsStore_27, L_0, L_1, L_2, L_3, nlt30, cl_nI, nI_lt0, nI_sub1, nI_sub2, nI_sub3, nI_add1, nI_add2, e_30, Nat.sub_sub, Nat.reduceAdd, hf, hh, sb, ck_T, ckn, not_false_eq_true, false_or, Nat.not_le, ite_self, ↓reduceIte, s_from0, s_from1, s_from2, s_drop1, s_drop2, s_put, s_putF, s_room1, s_room1F, s_take, s_rep, s_raise1, s_raise2, w_push, w_pop, f_X4_structure, b_X4_structure_24, b_X4_structure_45, f_X4_openThingFor, f_X4_opensOneMore, b_X4_opensOneMore_28, f_X4_build, f_X4_openJump, v_oSort, v_oFull, v_oAdd, v_oClose, v_set, s_both, s_bothF, s_app, s_appF, m_room0, m_room1, m_room2, ap_70, f_X12_shapes, b_X12_shapes_29, b_X12_shapes_34, b_X12_shapes_47, b_X12_shapes_63, b_X12_shapes_75, b_X12_shapes_90, b_X12_shapes_130, b_X12_shapes_349, f_X12_expected, b_X12_expected_12, b_X12_expected_28, b_X12_expected_54, f_X12_isOpen, f_X12_open, f_X12_hole, w_append, U_0, nz, e_12, E400, K0, K1, K2, U400, LEn, a11, a21, am2, n12, hk0]
      refine ST.m1 ⟨hT, rS.mk2 (by omega) (by omega) ?_, rY.mk2 (by omega) rfl (by omega), hD, ?_, ⟨rfl, hk⟩, rS.mk2 (by omega) (by omega) ?_, hC, hO⟩
      all_goals try exact rQ.same hg hq
      all_goals try exact rQ.less hg hq (by omega)
      all_goals try exact rQ.add (by omega) (by omega) hq (fun _ => ⟨_, (by omega), rfl⟩) (fun z => absurd z (by decide))
      all_goals try exact rQ.add (by omega) (by omega) hq (fun z => absurd z (by decide)) (fun z => absurd z (by decide))
      all_goals try exact rQ.add (by omega) (by omega) hq (fun _ => ⟨_, (by omega), rfl⟩) (fun _ => ⟨by omega, hs⟩)
      all_goals (intro i hi; try simp only [upd_at])
      all_goals repeat' split
      all_goals first | rfl | exact hf _ (by omega) | exact hh _ (by omega) | (exfalso; omega) | exact absurd trivial (by assumption) | (simp (disch := omega) only [hf, hh]; done)
    · by_cases hs : os (g - 1) = 1
      · by_cases h5 : a ≤ 398
        · obtain ⟨u, hu, hpu⟩ := (hq (g - 1) (by omega)).1 (.inl hs)
          simp (maxSteps := 500000) (decide := true) (disch := omega) only [f_X3_carryOutNext, f_X3_askFirst, b_X3_askFirst_20, b_X3_askFirst_40, Int32.reduceToNatClampNeg, gp_70, fc_70, tk_70, wi_70, od_70, sw_70, b_X12_done_52, b_X12_done_69, f_X12_isStarred, b_X12_isStarred_42, f_X12_wants, f_X12_wantsStore, b_X12_wantsStore_27, L_0, L_1, L_2, L_3, nlt30, cl_nI, nI_lt0, nI_sub1, nI_sub2, nI_sub3, nI_add1, nI_add2, e_30, Nat.sub_sub, Nat.reduceAdd, hf, hh, sb, ck_T, ckn, not_false_eq_true, false_or, Nat.not_le, ite_self, ↓reduceIte, s_from0, s_from1, s_from2, s_drop1, s_drop2, s_put, s_putF, s_room1, s_room1F, s_take, s_rep, s_raise1, s_raise2, w_push, w_pop, f_X4_structure, b_X4_structure_24, b_X4_structure_45, f_X4_openThingFor, f_X4_opensOneMore, b_X4_opensOneMore_28, f_X4_build, f_X4_openJump, v_oSort, v_oFull, v_oAdd, v_oClose, v_set, s_both, s_bothF, s_app, s_appF, m_room0, m_room1, m_room2, ap_70, f_X12_shapes, b_X12_shapes_29, b_X12_shapes_34, b_X12_shapes_47, b_X12_shapes_63, b_X12_shapes_75, b_X12_shapes_90, b_X12_shapes_130, b_X12_shapes_349, f_X12_expected, b_X12_expected_12, b_X12_expected_28, b_X12_expected_54, f_X12_isOpen, f_X12_open, f_X12_hole, w_append, U_0, nz, e_12, E400, K0, K1, K2, U400, LEn, a11, a21, am2, n12, hk0, hg0, hs, h5, hpu]
          refine ST.m1 ⟨hT, rS.mk2 (by omega) (by omega) ?_, rY.mk2 (by omega) rfl (by omega), hD, ?_, ⟨rfl, hk⟩, rS.mk2 (by omega) (by omega) ?_, hC, hO⟩
          all_goals try exact rQ.same hg hq
          all_goals try exact rQ.less hg hq (by omega)
          all_goals try exact rQ.add (by omega) (by omega) hq (fun _ => ⟨_, (by omega), rfl⟩) (fun z => absurd z (by decide))
          all_goals try exact rQ.add (by omega) (by omega) hq (fun z => absurd z (by decide)) (fun z => absurd z (by decide))
          all_goals try exact rQ.add (by omega) (by omega) hq (fun _ => ⟨_, (by omega), rfl⟩) (fun _ => ⟨by omega, hs⟩)
          all_goals (intro i hi; try simp only [upd_at])
          all_goals repeat' split
          all_goals first | rfl | exact hf _ (by omega) | exact hh _ (by omega) | (exfalso; omega) | exact absurd trivial (by assumption) | (simp (disch := omega) only [hf, hh]; done)
        · simp (maxSteps := 500000) (decide := true) (disch := omega) only [f_X3_carryOutNext, f_X3_askFirst, b_X3_askFirst_20, b_X3_askFirst_40, Int32.reduceToNatClampNeg, gp_70, fc_70, tk_70, wi_70, od_70, sw_70, b_X12_done_52, b_X12_done_69, f_X12_isStarred, b_X12_isStarred_42, f_X12_wants, f_X12_wantsStore, b_X12_wantsStore_27, L_0, L_1, L_2, L_3, nlt30, cl_nI, nI_lt0, nI_sub1, nI_sub2, nI_sub3, nI_add1, nI_add2, e_30, Nat.sub_sub, Nat.reduceAdd, hf, hh, sb, ck_T, ckn, not_false_eq_true, false_or, Nat.not_le, ite_self, ↓reduceIte, s_from0, s_from1, s_from2, s_drop1, s_drop2, s_put, s_putF, s_room1, s_room1F, s_take, s_rep, s_raise1, s_raise2, w_push, w_pop, f_X4_structure, b_X4_structure_24, b_X4_structure_45, f_X4_openThingFor, f_X4_opensOneMore, b_X4_opensOneMore_28, f_X4_build, f_X4_openJump, v_oSort, v_oFull, v_oAdd, v_oClose, v_set, s_both, s_bothF, s_app, s_appF, m_room0, m_room1, m_room2, ap_70, f_X12_shapes, b_X12_shapes_29, b_X12_shapes_34, b_X12_shapes_47, b_X12_shapes_63, b_X12_shapes_75, b_X12_shapes_90, b_X12_shapes_130, b_X12_shapes_349, f_X12_expected, b_X12_expected_12, b_X12_expected_28, b_X12_expected_54, f_X12_isOpen, f_X12_open, f_X12_hole, w_append, U_0, nz, e_12, E400, K0, K1, K2, U400, LEn, a11, a21, am2, n12, hk0, hg0, hs, h5]
          refine ST.m1 ⟨hT, rS.mk2 (by omega) (by omega) ?_, rY.mk2 (by omega) rfl (by omega), hD, ?_, ⟨rfl, hk⟩, rS.mk2 (by omega) (by omega) ?_, hC, hO⟩
          all_goals try exact rQ.same hg hq
          all_goals try exact rQ.less hg hq (by omega)
          all_goals try exact rQ.add (by omega) (by omega) hq (fun _ => ⟨_, (by omega), rfl⟩) (fun z => absurd z (by decide))
          all_goals try exact rQ.add (by omega) (by omega) hq (fun z => absurd z (by decide)) (fun z => absurd z (by decide))
          all_goals try exact rQ.add (by omega) (by omega) hq (fun _ => ⟨_, (by omega), rfl⟩) (fun _ => ⟨by omega, hs⟩)
          all_goals (intro i hi; try simp only [upd_at])
          all_goals repeat' split
          all_goals first | rfl | exact hf _ (by omega) | exact hh _ (by omega) | (exfalso; omega) | exact absurd trivial (by assumption) | (simp (disch := omega) only [hf, hh]; done)
      · simp (maxSteps := 500000) (decide := true) (disch := omega) only [f_X3_carryOutNext, f_X3_askFirst, b_X3_askFirst_20, b_X3_askFirst_40, Int32.reduceToNatClampNeg, gp_70, fc_70, tk_70, wi_70, od_70, sw_70, b_X12_done_52, b_X12_done_69, f_X12_isStarred, b_X12_isStarred_42, f_X12_wants, f_X12_wantsStore, b_X12_wantsStore_27, L_0, L_1, L_2, L_3, nlt30, cl_nI, nI_lt0, nI_sub1, nI_sub2, nI_sub3, nI_add1, nI_add2, e_30, Nat.sub_sub, Nat.reduceAdd, hf, hh, sb, ck_T, ckn, not_false_eq_true, false_or, Nat.not_le, ite_self, ↓reduceIte, s_from0, s_from1, s_from2, s_drop1, s_drop2, s_put, s_putF, s_room1, s_room1F, s_take, s_rep, s_raise1, s_raise2, w_push, w_pop, f_X4_structure, b_X4_structure_24, b_X4_structure_45, f_X4_openThingFor, f_X4_opensOneMore, b_X4_opensOneMore_28, f_X4_build, f_X4_openJump, v_oSort, v_oFull, v_oAdd, v_oClose, v_set, s_both, s_bothF, s_app, s_appF, m_room0, m_room1, m_room2, ap_70, f_X12_shapes, b_X12_shapes_29, b_X12_shapes_34, b_X12_shapes_47, b_X12_shapes_63, b_X12_shapes_75, b_X12_shapes_90, b_X12_shapes_130, b_X12_shapes_349, f_X12_expected, b_X12_expected_12, b_X12_expected_28, b_X12_expected_54, f_X12_isOpen, f_X12_open, f_X12_hole, w_append, U_0, nz, e_12, E400, K0, K1, K2, U400, LEn, a11, a21, am2, n12, hk0, hg0, hs]
        refine ST.m1 ⟨hT, rS.mk2 (by omega) (by omega) ?_, rY.mk2 (by omega) rfl (by omega), hD, ?_, ⟨rfl, hk⟩, rS.mk2 (by omega) (by omega) ?_, hC, hO⟩
        all_goals try exact rQ.same hg hq
        all_goals try exact rQ.less hg hq (by omega)
        all_goals try exact rQ.add (by omega) (by omega) hq (fun _ => ⟨_, (by omega), rfl⟩) (fun z => absurd z (by decide))
        all_goals try exact rQ.add (by omega) (by omega) hq (fun z => absurd z (by decide)) (fun z => absurd z (by decide))
        all_goals try exact rQ.add (by omega) (by omega) hq (fun _ => ⟨_, (by omega), rfl⟩) (fun _ => ⟨by omega, hs⟩)
        all_goals (intro i hi; try simp only [upd_at])
        all_goals repeat' split
        all_goals first | rfl | exact hf _ (by omega) | exact hh _ (by omega) | (exfalso; omega) | exact absurd trivial (by assumption) | (simp (disch := omega) only [hf, hh]; done)
theorem wd_71 (hR : REL t s y d q k r c o T S R C Y D K Q O) (al st ca ov an th lf st' ca' re en : Int32) : ST (f_X3_carryOutNext t s y d q k r c o (al, st, ca, 71, ov, an)) (f_X12_done 71 T S R C Y D K Q O (th, lf, st', ca', -1, re, en)) al (st + 1) ca ov an th lf st' ca' re en := by
  obtain ⟨hT, ⟨n, f, F, hn, rfl, rfl, hf⟩, hY, hD, hQ, hK, ⟨p, h, G, hp, rfl, rfl, hh⟩, hC, hO⟩ := hR
  rw [dn_ge (by decide) (by decide) hC]
  obtain ⟨rfl, a, z, ha, rfl⟩ := hY
  obtain ⟨rfl, g, os, op, hg, rfl, hq⟩ := hQ
  obtain ⟨rfl, hk⟩ := hK
  by_cases hk0 : K = 0
  · subst hk0
    simp (maxSteps := 500000) (decide := true) (disch := omega) only [f_X3_carryOutNext, f_X3_askFirst, b_X3_askFirst_20, b_X3_askFirst_40, Int32.reduceToNatClampNeg, gp_71, fc_71, tk_71, wi_71, od_71, sw_71, b_X12_done_52, b_X12_done_69, f_X12_isStarred, b_X12_isStarred_42, f_X12_wants, f_X12_wantsStore, b_X12_wantsStore_27, L_0, L_1, L_2, L_3, nlt30, cl_nI, nI_lt0, nI_sub1, nI_sub2, nI_sub3, nI_add1, nI_add2, e_30, Nat.sub_sub, Nat.reduceAdd, hf, hh, sb, ck_T, ckn, not_false_eq_true, false_or, Nat.not_le, ite_self, ↓reduceIte, s_from0, s_from1, s_from2, s_drop1, s_drop2, s_put, s_putF, s_room1, s_room1F, s_take, s_rep, s_raise1, s_raise2, w_push, w_pop, f_X4_structure, b_X4_structure_24, b_X4_structure_45, f_X4_openThingFor, f_X4_opensOneMore, b_X4_opensOneMore_28, f_X4_build, f_X4_openJump, v_oSort, v_oFull, v_oAdd, v_oClose, v_set, s_both, s_bothF, s_app, s_appF, m_room0, m_room1, m_room2, ap_71, f_X12_shapes, b_X12_shapes_29, b_X12_shapes_34, b_X12_shapes_47, b_X12_shapes_63, b_X12_shapes_75, b_X12_shapes_90, b_X12_shapes_130, b_X12_shapes_349, f_X12_expected, b_X12_expected_12, b_X12_expected_28, b_X12_expected_54, f_X12_isOpen, f_X12_open, f_X12_hole, w_append, U_0, nz, e_12, E400, K0, K1, K2, U400, LEn, a11, a21, am2, n12]
    refine ST.m1 ⟨hT, rS.mk2 (by omega) (by omega) ?_, rY.mk2 (by omega) rfl (by omega), hD, ?_, ⟨rfl, hk⟩, rS.mk2 (by omega) (by omega) ?_, hC, hO⟩
    all_goals try exact rQ.same hg hq
    all_goals try exact rQ.less hg hq (by omega)
    all_goals try exact rQ.add (by omega) (by omega) hq (fun _ => ⟨_, (by omega), rfl⟩) (fun z => absurd z (by decide))
    all_goals try exact rQ.add (by omega) (by omega) hq (fun z => absurd z (by decide)) (fun z => absurd z (by decide))
    all_goals try exact rQ.add (by omega) (by omega) hq (fun _ => ⟨_, (by omega), rfl⟩) (fun _ => ⟨by omega, hs⟩)
    all_goals (intro i hi; try simp only [upd_at])
    all_goals repeat' split
    all_goals first | rfl | exact hf _ (by omega) | exact hh _ (by omega) | (exfalso; omega) | exact absurd trivial (by assumption) | (simp (disch := omega) only [hf, hh]; done)
  · by_cases hg0 : g = 0
    · subst hg0
      simp (maxSteps := 500000) (decide := true) (disch := omega) only [f_X3_carryOutNext, f_X3_askFirst, b_X3_askFirst_20, b_X3_askFirst_40, Int32.reduceToNatClampNeg, gp_71, fc_71, tk_71, wi_71, od_71, sw_71, b_X12_done_52, b_X12_done_69, f_X12_isStarred, b_X12_isStarred_42, f_X12_wants, f_X12_wantsStore, b_X12_wantsStore_27, L_0, L_1, L_2, L_3, nlt30, cl_nI, nI_lt0, nI_sub1, nI_sub2, nI_sub3, nI_add1, nI_add2, e_30, Nat.sub_sub, Nat.reduceAdd, hf, hh, sb, ck_T, ckn, not_false_eq_true, false_or, Nat.not_le, ite_self, ↓reduceIte, s_from0, s_from1, s_from2, s_drop1, s_drop2, s_put, s_putF, s_room1, s_room1F, s_take, s_rep, s_raise1, s_raise2, w_push, w_pop, f_X4_structure, b_X4_structure_24, b_X4_structure_45, f_X4_openThingFor, f_X4_opensOneMore, b_X4_opensOneMore_28, f_X4_build, f_X4_openJump, v_oSort, v_oFull, v_oAdd, v_oClose, v_set, s_both, s_bothF, s_app, s_appF, m_room0, m_room1, m_room2, ap_71, f_X12_shapes, b_X12_shapes_29, b_X12_shapes_34, b_X12_shapes_47, b_X12_shapes_63, b_X12_shapes_75, b_X12_shapes_90, b_X12_shapes_130, b_X12_shapes_349, f_X12_expected, b_X12_expected_12, b_X12_expected_28, b_X12_expected_54, f_X12_isOpen, f_X12_open, f_X12_hole, w_append, U_0, nz, e_12, E400, K0, K1, K2, U400, LEn, a11, a21, am2, n12, hk0]
      refine ST.m1 ⟨hT, rS.mk2 (by omega) (by omega) ?_, rY.mk2 (by omega) rfl (by omega), hD, ?_, ⟨rfl, hk⟩, rS.mk2 (by omega) (by omega) ?_, hC, hO⟩
      all_goals try exact rQ.same hg hq
      all_goals try exact rQ.less hg hq (by omega)
      all_goals try exact rQ.add (by omega) (by omega) hq (fun _ => ⟨_, (by omega), rfl⟩) (fun z => absurd z (by decide))
      all_goals try exact rQ.add (by omega) (by omega) hq (fun z => absurd z (by decide)) (fun z => absurd z (by decide))
      all_goals try exact rQ.add (by omega) (by omega) hq (fun _ => ⟨_, (by omega), rfl⟩) (fun _ => ⟨by omega, hs⟩)
      all_goals (intro i hi; try simp only [upd_at])
      all_goals repeat' split
      all_goals first | rfl | exact hf _ (by omega) | exact hh _ (by omega) | (exfalso; omega) | exact absurd trivial (by assumption) | (simp (disch := omega) only [hf, hh]; done)
    · by_cases hs : os (g - 1) = 1
      · obtain ⟨u, hu, hpu⟩ := (hq (g - 1) (by omega)).1 (.inl hs)
        simp (maxSteps := 500000) (decide := true) (disch := omega) only [f_X3_carryOutNext, f_X3_askFirst, b_X3_askFirst_20, b_X3_askFirst_40, Int32.reduceToNatClampNeg, gp_71, fc_71, tk_71, wi_71, od_71, sw_71, b_X12_done_52, b_X12_done_69, f_X12_isStarred, b_X12_isStarred_42, f_X12_wants, f_X12_wantsStore, b_X12_wantsStore_27, L_0, L_1, L_2, L_3, nlt30, cl_nI, nI_lt0, nI_sub1, nI_sub2, nI_sub3, nI_add1, nI_add2, e_30, Nat.sub_sub, Nat.reduceAdd, hf, hh, sb, ck_T, ckn, not_false_eq_true, false_or, Nat.not_le, ite_self, ↓reduceIte, s_from0, s_from1, s_from2, s_drop1, s_drop2, s_put, s_putF, s_room1, s_room1F, s_take, s_rep, s_raise1, s_raise2, w_push, w_pop, f_X4_structure, b_X4_structure_24, b_X4_structure_45, f_X4_openThingFor, f_X4_opensOneMore, b_X4_opensOneMore_28, f_X4_build, f_X4_openJump, v_oSort, v_oFull, v_oAdd, v_oClose, v_set, s_both, s_bothF, s_app, s_appF, m_room0, m_room1, m_room2, ap_71, f_X12_shapes, b_X12_shapes_29, b_X12_shapes_34, b_X12_shapes_47, b_X12_shapes_63, b_X12_shapes_75, b_X12_shapes_90, b_X12_shapes_130, b_X12_shapes_349, f_X12_expected, b_X12_expected_12, b_X12_expected_28, b_X12_expected_54, f_X12_isOpen, f_X12_open, f_X12_hole, w_append, U_0, nz, e_12, E400, K0, K1, K2, U400, LEn, a11, a21, am2, n12, hk0, hg0, hs, hpu]
        refine ST.m1 ⟨hT, rS.mk2 (by omega) (by omega) ?_, rY.mk2 (by omega) rfl (by omega), hD, ?_, ⟨rfl, hk⟩, rS.mk2 (by omega) (by omega) ?_, hC, hO⟩
        all_goals try exact rQ.same hg hq
        all_goals try exact rQ.less hg hq (by omega)
        all_goals try exact rQ.add (by omega) (by omega) hq (fun _ => ⟨_, (by omega), rfl⟩) (fun z => absurd z (by decide))
        all_goals try exact rQ.add (by omega) (by omega) hq (fun z => absurd z (by decide)) (fun z => absurd z (by decide))
        all_goals try exact rQ.add (by omega) (by omega) hq (fun _ => ⟨_, (by omega), rfl⟩) (fun _ => ⟨by omega, hs⟩)
        all_goals (intro i hi; try simp only [upd_at])
        all_goals repeat' split
        all_goals first | rfl | exact hf _ (by omega) | exact hh _ (by omega) | (exfalso; omega) | exact absurd trivial (by assumption) | (simp (disch := omega) only [hf, hh]; done)
      · simp (maxSteps := 500000) (decide := true) (disch := omega) only [f_X3_carryOutNext, f_X3_askFirst, b_X3_askFirst_20, b_X3_askFirst_40, Int32.reduceToNatClampNeg, gp_71, fc_71, tk_71, wi_71, od_71, sw_71, b_X12_done_52, b_X12_done_69, f_X12_isStarred, b_X12_isStarred_42, f_X12_wants, f_X12_wantsStore, b_X12_wantsStore_27, L_0, L_1, L_2, L_3, nlt30, cl_nI, nI_lt0, nI_sub1, nI_sub2, nI_sub3, nI_add1, nI_add2, e_30, Nat.sub_sub, Nat.reduceAdd, hf, hh, sb, ck_T, ckn, not_false_eq_true, false_or, Nat.not_le, ite_self, ↓reduceIte, s_from0, s_from1, s_from2, s_drop1, s_drop2, s_put, s_putF, s_room1, s_room1F, s_take, s_rep, s_raise1, s_raise2, w_push, w_pop, f_X4_structure, b_X4_structure_24, b_X4_structure_45, f_X4_openThingFor, f_X4_opensOneMore, b_X4_opensOneMore_28, f_X4_build, f_X4_openJump, v_oSort, v_oFull, v_oAdd, v_oClose, v_set, s_both, s_bothF, s_app, s_appF, m_room0, m_room1, m_room2, ap_71, f_X12_shapes, b_X12_shapes_29, b_X12_shapes_34, b_X12_shapes_47, b_X12_shapes_63, b_X12_shapes_75, b_X12_shapes_90, b_X12_shapes_130, b_X12_shapes_349, f_X12_expected, b_X12_expected_12, b_X12_expected_28, b_X12_expected_54, f_X12_isOpen, f_X12_open, f_X12_hole, w_append, U_0, nz, e_12, E400, K0, K1, K2, U400, LEn, a11, a21, am2, n12, hk0, hg0, hs]
        refine ST.m1 ⟨hT, rS.mk2 (by omega) (by omega) ?_, rY.mk2 (by omega) rfl (by omega), hD, ?_, ⟨rfl, hk⟩, rS.mk2 (by omega) (by omega) ?_, hC, hO⟩
        all_goals try exact rQ.same hg hq
        all_goals try exact rQ.less hg hq (by omega)
        all_goals try exact rQ.add (by omega) (by omega) hq (fun _ => ⟨_, (by omega), rfl⟩) (fun z => absurd z (by decide))
        all_goals try exact rQ.add (by omega) (by omega) hq (fun z => absurd z (by decide)) (fun z => absurd z (by decide))
        all_goals try exact rQ.add (by omega) (by omega) hq (fun _ => ⟨_, (by omega), rfl⟩) (fun _ => ⟨by omega, hs⟩)
        all_goals (intro i hi; try simp only [upd_at])
        all_goals repeat' split
        all_goals first | rfl | exact hf _ (by omega) | exact hh _ (by omega) | (exfalso; omega) | exact absurd trivial (by assumption) | (simp (disch := omega) only [hf, hh]; done)
theorem wd_72 (hR : REL t s y d q k r c o T S R C Y D K Q O) (al st ca ov an th lf st' ca' re en : Int32) : ST (f_X3_carryOutNext t s y d q k r c o (al, st, ca, 72, ov, an)) (f_X12_done 72 T S R C Y D K Q O (th, lf, st', ca', -1, re, en)) al (st + 1) ca ov an th lf st' ca' re en := by
  obtain ⟨hT, ⟨n, f, F, hn, rfl, rfl, hf⟩, hY, hD, hQ, hK, ⟨p, h, G, hp, rfl, rfl, hh⟩, hC, hO⟩ := hR
  rw [dn_ge (by decide) (by decide) hC]
  obtain ⟨rfl, a, z, ha, rfl⟩ := hY
  obtain ⟨rfl, g, os, op, hg, rfl, hq⟩ := hQ
  obtain ⟨rfl, hk⟩ := hK
  by_cases hk0 : K = 0
  · subst hk0
    simp (maxSteps := 500000) (decide := true) (disch := omega) only [f_X3_carryOutNext, f_X3_askFirst, b_X3_askFirst_20, b_X3_askFirst_40, Int32.reduceToNatClampNeg, gp_72, fc_72, tk_72, wi_72, od_72, sw_72, b_X12_done_52, b_X12_done_69, f_X12_isStarred, b_X12_isStarred_42, f_X12_wants, f_X12_wantsStore, b_X12_wantsStore_27, L_0, L_1, L_2, L_3, nlt30, cl_nI, nI_lt0, nI_sub1, nI_sub2, nI_sub3, nI_add1, nI_add2, e_30, Nat.sub_sub, Nat.reduceAdd, hf, hh, sb, ck_T, ckn, not_false_eq_true, false_or, Nat.not_le, ite_self, ↓reduceIte, s_from0, s_from1, s_from2, s_drop1, s_drop2, s_put, s_putF, s_room1, s_room1F, s_take, s_rep, s_raise1, s_raise2, w_push, w_pop, f_X4_structure, b_X4_structure_24, b_X4_structure_45, f_X4_openThingFor, f_X4_opensOneMore, b_X4_opensOneMore_28, f_X4_build, f_X4_openJump, v_oSort, v_oFull, v_oAdd, v_oClose, v_set, s_both, s_bothF, s_app, s_appF, m_room0, m_room1, m_room2, ap_72, f_X12_shapes, b_X12_shapes_29, b_X12_shapes_34, b_X12_shapes_47, b_X12_shapes_63, b_X12_shapes_75, b_X12_shapes_90, b_X12_shapes_130, b_X12_shapes_349, f_X12_expected, b_X12_expected_12, b_X12_expected_28, b_X12_expected_54, f_X12_isOpen, f_X12_open, f_X12_hole, w_append, U_0, nz, e_12, E400, K0, K1, K2, U400, LEn, a11, a21, am2, n12]
    refine ST.m1 ⟨hT, rS.mk2 (by omega) (by omega) ?_, rY.mk2 (by omega) rfl (by omega), hD, ?_, ⟨rfl, hk⟩, rS.mk2 (by omega) (by omega) ?_, hC, hO⟩
    all_goals try exact rQ.same hg hq
    all_goals try exact rQ.less hg hq (by omega)
    all_goals try exact rQ.add (by omega) (by omega) hq (fun _ => ⟨_, (by omega), rfl⟩) (fun z => absurd z (by decide))
    all_goals try exact rQ.add (by omega) (by omega) hq (fun z => absurd z (by decide)) (fun z => absurd z (by decide))
    all_goals try exact rQ.add (by omega) (by omega) hq (fun _ => ⟨_, (by omega), rfl⟩) (fun _ => ⟨by omega, hs⟩)
    all_goals (intro i hi; try simp only [upd_at])
    all_goals repeat' split
    all_goals first | rfl | exact hf _ (by omega) | exact hh _ (by omega) | (exfalso; omega) | exact absurd trivial (by assumption) | (simp (disch := omega) only [hf, hh]; done)
  · by_cases hf12 : g = 12
    · subst hf12
      simp (maxSteps := 500000) (decide := true) (disch := omega) only [f_X3_carryOutNext, f_X3_askFirst, b_X3_askFirst_20, b_X3_askFirst_40, Int32.reduceToNatClampNeg, gp_72, fc_72, tk_72, wi_72, od_72, sw_72, b_X12_done_52, b_X12_done_69, f_X12_isStarred, b_X12_isStarred_42, f_X12_wants, f_X12_wantsStore, b_X12_wantsStore_27, L_0, L_1, L_2, L_3, nlt30, cl_nI, nI_lt0, nI_sub1, nI_sub2, nI_sub3, nI_add1, nI_add2, e_30, Nat.sub_sub, Nat.reduceAdd, hf, hh, sb, ck_T, ckn, not_false_eq_true, false_or, Nat.not_le, ite_self, ↓reduceIte, s_from0, s_from1, s_from2, s_drop1, s_drop2, s_put, s_putF, s_room1, s_room1F, s_take, s_rep, s_raise1, s_raise2, w_push, w_pop, f_X4_structure, b_X4_structure_24, b_X4_structure_45, f_X4_openThingFor, f_X4_opensOneMore, b_X4_opensOneMore_28, f_X4_build, f_X4_openJump, v_oSort, v_oFull, v_oAdd, v_oClose, v_set, s_both, s_bothF, s_app, s_appF, m_room0, m_room1, m_room2, ap_72, f_X12_shapes, b_X12_shapes_29, b_X12_shapes_34, b_X12_shapes_47, b_X12_shapes_63, b_X12_shapes_75, b_X12_shapes_90, b_X12_shapes_130, b_X12_shapes_349, f_X12_expected, b_X12_expected_12, b_X12_expected_28, b_X12_expected_54, f_X12_isOpen, f_X12_open, f_X12_hole, w_append, U_0, nz, e_12, E400, K0, K1, K2, U400, LEn, a11, a21, am2, n12, hk0]
      refine ST.m1 ⟨hT, rS.mk2 (by omega) (by omega) ?_, rY.mk2 (by omega) rfl (by omega), hD, ?_, ⟨rfl, hk⟩, rS.mk2 (by omega) (by omega) ?_, hC, hO⟩
      all_goals try exact rQ.same hg hq
      all_goals try exact rQ.less hg hq (by omega)
      all_goals try exact rQ.add (by omega) (by omega) hq (fun _ => ⟨_, (by omega), rfl⟩) (fun z => absurd z (by decide))
      all_goals try exact rQ.add (by omega) (by omega) hq (fun z => absurd z (by decide)) (fun z => absurd z (by decide))
      all_goals try exact rQ.add (by omega) (by omega) hq (fun _ => ⟨_, (by omega), rfl⟩) (fun _ => ⟨by omega, hs⟩)
      all_goals (intro i hi; try simp only [upd_at])
      all_goals repeat' split
      all_goals first | rfl | exact hf _ (by omega) | exact hh _ (by omega) | (exfalso; omega) | exact absurd trivial (by assumption) | (simp (disch := omega) only [hf, hh]; done)
    · by_cases hg0 : g = 0
      · subst hg0
        simp (maxSteps := 500000) (decide := true) (disch := omega) only [f_X3_carryOutNext, f_X3_askFirst, b_X3_askFirst_20, b_X3_askFirst_40, Int32.reduceToNatClampNeg, gp_72, fc_72, tk_72, wi_72, od_72, sw_72, b_X12_done_52, b_X12_done_69, f_X12_isStarred, b_X12_isStarred_42, f_X12_wants, f_X12_wantsStore, b_X12_wantsStore_27, L_0, L_1, L_2, L_3, nlt30, cl_nI, nI_lt0, nI_sub1, nI_sub2, nI_sub3, nI_add1, nI_add2, e_30, Nat.sub_sub, Nat.reduceAdd, hf, hh, sb, ck_T, ckn, not_false_eq_true, false_or, Nat.not_le, ite_self, ↓reduceIte, s_from0, s_from1, s_from2, s_drop1, s_drop2, s_put, s_putF, s_room1, s_room1F, s_take, s_rep, s_raise1, s_raise2, w_push, w_pop, f_X4_structure, b_X4_structure_24, b_X4_structure_45, f_X4_openThingFor, f_X4_opensOneMore, b_X4_opensOneMore_28, f_X4_build, f_X4_openJump, v_oSort, v_oFull, v_oAdd, v_oClose, v_set, s_both, s_bothF, s_app, s_appF, m_room0, m_room1, m_room2, ap_72, f_X12_shapes, b_X12_shapes_29, b_X12_shapes_34, b_X12_shapes_47, b_X12_shapes_63, b_X12_shapes_75, b_X12_shapes_90, b_X12_shapes_130, b_X12_shapes_349, f_X12_expected, b_X12_expected_12, b_X12_expected_28, b_X12_expected_54, f_X12_isOpen, f_X12_open, f_X12_hole, w_append, U_0, nz, e_12, E400, K0, K1, K2, U400, LEn, a11, a21, am2, n12, hk0, hf12]
        refine ST.m1 ⟨hT, rS.mk2 (by omega) (by omega) ?_, rY.mk2 (by omega) rfl (by omega), hD, ?_, ⟨rfl, hk⟩, rS.mk2 (by omega) (by omega) ?_, hC, hO⟩
        all_goals try exact rQ.same hg hq
        all_goals try exact rQ.less hg hq (by omega)
        all_goals try exact rQ.add (by omega) (by omega) hq (fun _ => ⟨_, (by omega), rfl⟩) (fun z => absurd z (by decide))
        all_goals try exact rQ.add (by omega) (by omega) hq (fun z => absurd z (by decide)) (fun z => absurd z (by decide))
        all_goals try exact rQ.add (by omega) (by omega) hq (fun _ => ⟨_, (by omega), rfl⟩) (fun _ => ⟨by omega, hs⟩)
        all_goals (intro i hi; try simp only [upd_at])
        all_goals repeat' split
        all_goals first | rfl | exact hf _ (by omega) | exact hh _ (by omega) | (exfalso; omega) | exact absurd trivial (by assumption) | (simp (disch := omega) only [hf, hh]; done)
      · simp (maxSteps := 500000) (decide := true) (disch := omega) only [f_X3_carryOutNext, f_X3_askFirst, b_X3_askFirst_20, b_X3_askFirst_40, Int32.reduceToNatClampNeg, gp_72, fc_72, tk_72, wi_72, od_72, sw_72, b_X12_done_52, b_X12_done_69, f_X12_isStarred, b_X12_isStarred_42, f_X12_wants, f_X12_wantsStore, b_X12_wantsStore_27, L_0, L_1, L_2, L_3, nlt30, cl_nI, nI_lt0, nI_sub1, nI_sub2, nI_sub3, nI_add1, nI_add2, e_30, Nat.sub_sub, Nat.reduceAdd, hf, hh, sb, ck_T, ckn, not_false_eq_true, false_or, Nat.not_le, ite_self, ↓reduceIte, s_from0, s_from1, s_from2, s_drop1, s_drop2, s_put, s_putF, s_room1, s_room1F, s_take, s_rep, s_raise1, s_raise2, w_push, w_pop, f_X4_structure, b_X4_structure_24, b_X4_structure_45, f_X4_openThingFor, f_X4_opensOneMore, b_X4_opensOneMore_28, f_X4_build, f_X4_openJump, v_oSort, v_oFull, v_oAdd, v_oClose, v_set, s_both, s_bothF, s_app, s_appF, m_room0, m_room1, m_room2, ap_72, f_X12_shapes, b_X12_shapes_29, b_X12_shapes_34, b_X12_shapes_47, b_X12_shapes_63, b_X12_shapes_75, b_X12_shapes_90, b_X12_shapes_130, b_X12_shapes_349, f_X12_expected, b_X12_expected_12, b_X12_expected_28, b_X12_expected_54, f_X12_isOpen, f_X12_open, f_X12_hole, w_append, U_0, nz, e_12, E400, K0, K1, K2, U400, LEn, a11, a21, am2, n12, hk0, hf12, hg0]
        refine ST.m1 ⟨hT, rS.mk2 (by omega) (by omega) ?_, rY.mk2 (by omega) rfl (by omega), hD, ?_, ⟨rfl, hk⟩, rS.mk2 (by omega) (by omega) ?_, hC, hO⟩
        all_goals try exact rQ.same hg hq
        all_goals try exact rQ.less hg hq (by omega)
        all_goals try exact rQ.add (by omega) (by omega) hq (fun _ => ⟨_, (by omega), rfl⟩) (fun z => absurd z (by decide))
        all_goals try exact rQ.add (by omega) (by omega) hq (fun z => absurd z (by decide)) (fun z => absurd z (by decide))
        all_goals try exact rQ.add (by omega) (by omega) hq (fun _ => ⟨_, (by omega), rfl⟩) (fun _ => ⟨by omega, hs⟩)
        all_goals (intro i hi; try simp only [upd_at])
        all_goals repeat' split
        all_goals first | rfl | exact hf _ (by omega) | exact hh _ (by omega) | (exfalso; omega) | exact absurd trivial (by assumption) | (simp (disch := omega) only [hf, hh]; done)
theorem wd_73 (hR : REL t s y d q k r c o T S R C Y D K Q O) (al st ca ov an th lf st' ca' re en : Int32) : ST (f_X3_carryOutNext t s y d q k r c o (al, st, ca, 73, ov, an)) (f_X12_done 73 T S R C Y D K Q O (th, lf, st', ca', -1, re, en)) al (st + 1) ca ov an th lf st' ca' re en := by
  obtain ⟨hT, ⟨n, f, F, hn, rfl, rfl, hf⟩, hY, hD, hQ, hK, ⟨p, h, G, hp, rfl, rfl, hh⟩, hC, hO⟩ := hR
  rw [dn_ge (by decide) (by decide) hC]
  obtain ⟨rfl, a, z, ha, rfl⟩ := hY
  obtain ⟨rfl, g, os, op, hg, rfl, hq⟩ := hQ
  obtain ⟨rfl, hk⟩ := hK
  by_cases hk0 : K = 0
  · subst hk0
    simp (maxSteps := 500000) (decide := true) (disch := omega) only [f_X3_carryOutNext, f_X3_askFirst, b_X3_askFirst_20, b_X3_askFirst_40, Int32.reduceToNatClampNeg, gp_73, fc_73, tk_73, wi_73, od_73, sw_73, b_X12_done_52, b_X12_done_69, f_X12_isStarred, b_X12_isStarred_42, f_X12_wants, f_X12_wantsStore, b_X12_wantsStore_27, L_0, L_1, L_2, L_3, nlt30, cl_nI, nI_lt0, nI_sub1, nI_sub2, nI_sub3, nI_add1, nI_add2, e_30, Nat.sub_sub, Nat.reduceAdd, hf, hh, sb, ck_T, ckn, not_false_eq_true, false_or, Nat.not_le, ite_self, ↓reduceIte, s_from0, s_from1, s_from2, s_drop1, s_drop2, s_put, s_putF, s_room1, s_room1F, s_take, s_rep, s_raise1, s_raise2, w_push, w_pop, f_X4_structure, b_X4_structure_24, b_X4_structure_45, f_X4_openThingFor, f_X4_opensOneMore, b_X4_opensOneMore_28, f_X4_build, f_X4_openJump, v_oSort, v_oFull, v_oAdd, v_oClose, v_set, s_both, s_bothF, s_app, s_appF, m_room0, m_room1, m_room2, ap_73, f_X12_shapes, b_X12_shapes_29, b_X12_shapes_34, b_X12_shapes_47, b_X12_shapes_63, b_X12_shapes_75, b_X12_shapes_90, b_X12_shapes_130, b_X12_shapes_349, f_X12_expected, b_X12_expected_12, b_X12_expected_28, b_X12_expected_54, f_X12_isOpen, f_X12_open, f_X12_hole, w_append, U_0, nz, e_12, E400, K0, K1, K2, U400, LEn, a11, a21, am2, n12]
    refine ST.m1 ⟨hT, rS.mk2 (by omega) (by omega) ?_, rY.mk2 (by omega) rfl (by omega), hD, ?_, ⟨rfl, hk⟩, rS.mk2 (by omega) (by omega) ?_, hC, hO⟩
    all_goals try exact rQ.same hg hq
    all_goals try exact rQ.less hg hq (by omega)
    all_goals try exact rQ.add (by omega) (by omega) hq (fun _ => ⟨_, (by omega), rfl⟩) (fun z => absurd z (by decide))
    all_goals try exact rQ.add (by omega) (by omega) hq (fun z => absurd z (by decide)) (fun z => absurd z (by decide))
    all_goals try exact rQ.add (by omega) (by omega) hq (fun _ => ⟨_, (by omega), rfl⟩) (fun _ => ⟨by omega, hs⟩)
    all_goals (intro i hi; try simp only [upd_at])
    all_goals repeat' split
    all_goals first | rfl | exact hf _ (by omega) | exact hh _ (by omega) | (exfalso; omega) | exact absurd trivial (by assumption) | (simp (disch := omega) only [hf, hh]; done)
  · by_cases hg0 : g = 0
    · subst hg0
      simp (maxSteps := 500000) (decide := true) (disch := omega) only [f_X3_carryOutNext, f_X3_askFirst, b_X3_askFirst_20, b_X3_askFirst_40, Int32.reduceToNatClampNeg, gp_73, fc_73, tk_73, wi_73, od_73, sw_73, b_X12_done_52, b_X12_done_69, f_X12_isStarred, b_X12_isStarred_42, f_X12_wants, f_X12_wantsStore, b_X12_wantsStore_27, L_0, L_1, L_2, L_3, nlt30, cl_nI, nI_lt0, nI_sub1, nI_sub2, nI_sub3, nI_add1, nI_add2, e_30, Nat.sub_sub, Nat.reduceAdd, hf, hh, sb, ck_T, ckn, not_false_eq_true, false_or, Nat.not_le, ite_self, ↓reduceIte, s_from0, s_from1, s_from2, s_drop1, s_drop2, s_put, s_putF, s_room1, s_room1F, s_take, s_rep, s_raise1, s_raise2, w_push, w_pop, f_X4_structure, b_X4_structure_24, b_X4_structure_45, f_X4_openThingFor, f_X4_opensOneMore, b_X4_opensOneMore_28, f_X4_build, f_X4_openJump, v_oSort, v_oFull, v_oAdd, v_oClose, v_set, s_both, s_bothF, s_app, s_appF, m_room0, m_room1, m_room2, ap_73, f_X12_shapes, b_X12_shapes_29, b_X12_shapes_34, b_X12_shapes_47, b_X12_shapes_63, b_X12_shapes_75, b_X12_shapes_90, b_X12_shapes_130, b_X12_shapes_349, f_X12_expected, b_X12_expected_12, b_X12_expected_28, b_X12_expected_54, f_X12_isOpen, f_X12_open, f_X12_hole, w_append, U_0, nz, e_12, E400, K0, K1, K2, U400, LEn, a11, a21, am2, n12, hk0]
      refine ST.m1 ⟨hT, rS.mk2 (by omega) (by omega) ?_, rY.mk2 (by omega) rfl (by omega), hD, ?_, ⟨rfl, hk⟩, rS.mk2 (by omega) (by omega) ?_, hC, hO⟩
      all_goals try exact rQ.same hg hq
      all_goals try exact rQ.less hg hq (by omega)
      all_goals try exact rQ.add (by omega) (by omega) hq (fun _ => ⟨_, (by omega), rfl⟩) (fun z => absurd z (by decide))
      all_goals try exact rQ.add (by omega) (by omega) hq (fun z => absurd z (by decide)) (fun z => absurd z (by decide))
      all_goals try exact rQ.add (by omega) (by omega) hq (fun _ => ⟨_, (by omega), rfl⟩) (fun _ => ⟨by omega, hs⟩)
      all_goals (intro i hi; try simp only [upd_at])
      all_goals repeat' split
      all_goals first | rfl | exact hf _ (by omega) | exact hh _ (by omega) | (exfalso; omega) | exact absurd trivial (by assumption) | (simp (disch := omega) only [hf, hh]; done)
    · by_cases hs : os (g - 1) = 2
      · by_cases h5 : a ≤ 398
        · simp (maxSteps := 500000) (decide := true) (disch := omega) only [f_X3_carryOutNext, f_X3_askFirst, b_X3_askFirst_20, b_X3_askFirst_40, Int32.reduceToNatClampNeg, gp_73, fc_73, tk_73, wi_73, od_73, sw_73, b_X12_done_52, b_X12_done_69, f_X12_isStarred, b_X12_isStarred_42, f_X12_wants, f_X12_wantsStore, b_X12_wantsStore_27, L_0, L_1, L_2, L_3, nlt30, cl_nI, nI_lt0, nI_sub1, nI_sub2, nI_sub3, nI_add1, nI_add2, e_30, Nat.sub_sub, Nat.reduceAdd, hf, hh, sb, ck_T, ckn, not_false_eq_true, false_or, Nat.not_le, ite_self, ↓reduceIte, s_from0, s_from1, s_from2, s_drop1, s_drop2, s_put, s_putF, s_room1, s_room1F, s_take, s_rep, s_raise1, s_raise2, w_push, w_pop, f_X4_structure, b_X4_structure_24, b_X4_structure_45, f_X4_openThingFor, f_X4_opensOneMore, b_X4_opensOneMore_28, f_X4_build, f_X4_openJump, v_oSort, v_oFull, v_oAdd, v_oClose, v_set, s_both, s_bothF, s_app, s_appF, m_room0, m_room1, m_room2, ap_73, f_X12_shapes, b_X12_shapes_29, b_X12_shapes_34, b_X12_shapes_47, b_X12_shapes_63, b_X12_shapes_75, b_X12_shapes_90, b_X12_shapes_130, b_X12_shapes_349, f_X12_expected, b_X12_expected_12, b_X12_expected_28, b_X12_expected_54, f_X12_isOpen, f_X12_open, f_X12_hole, w_append, U_0, nz, e_12, E400, K0, K1, K2, U400, LEn, a11, a21, am2, n12, hk0, hg0, hs, h5]
          refine ST.m1 ⟨hT, rS.mk2 (by omega) (by omega) ?_, rY.mk2 (by omega) rfl (by omega), hD, ?_, ⟨rfl, hk⟩, rS.mk2 (by omega) (by omega) ?_, hC, hO⟩
          all_goals try exact rQ.same hg hq
          all_goals try exact rQ.less hg hq (by omega)
          all_goals try exact rQ.add (by omega) (by omega) hq (fun _ => ⟨_, (by omega), rfl⟩) (fun z => absurd z (by decide))
          all_goals try exact rQ.add (by omega) (by omega) hq (fun z => absurd z (by decide)) (fun z => absurd z (by decide))
          all_goals try exact rQ.add (by omega) (by omega) hq (fun _ => ⟨_, (by omega), rfl⟩) (fun _ => ⟨by omega, hs⟩)
          all_goals (intro i hi; try simp only [upd_at])
          all_goals repeat' split
          all_goals first | rfl | exact hf _ (by omega) | exact hh _ (by omega) | (exfalso; omega) | exact absurd trivial (by assumption) | (simp (disch := omega) only [hf, hh]; done)
        · simp (maxSteps := 500000) (decide := true) (disch := omega) only [f_X3_carryOutNext, f_X3_askFirst, b_X3_askFirst_20, b_X3_askFirst_40, Int32.reduceToNatClampNeg, gp_73, fc_73, tk_73, wi_73, od_73, sw_73, b_X12_done_52, b_X12_done_69, f_X12_isStarred, b_X12_isStarred_42, f_X12_wants, f_X12_wantsStore, b_X12_wantsStore_27, L_0, L_1, L_2, L_3, nlt30, cl_nI, nI_lt0, nI_sub1, nI_sub2, nI_sub3, nI_add1, nI_add2, e_30, Nat.sub_sub, Nat.reduceAdd, hf, hh, sb, ck_T, ckn, not_false_eq_true, false_or, Nat.not_le, ite_self, ↓reduceIte, s_from0, s_from1, s_from2, s_drop1, s_drop2, s_put, s_putF, s_room1, s_room1F, s_take, s_rep, s_raise1, s_raise2, w_push, w_pop, f_X4_structure, b_X4_structure_24, b_X4_structure_45, f_X4_openThingFor, f_X4_opensOneMore, b_X4_opensOneMore_28, f_X4_build, f_X4_openJump, v_oSort, v_oFull, v_oAdd, v_oClose, v_set, s_both, s_bothF, s_app, s_appF, m_room0, m_room1, m_room2, ap_73, f_X12_shapes, b_X12_shapes_29, b_X12_shapes_34, b_X12_shapes_47, b_X12_shapes_63, b_X12_shapes_75, b_X12_shapes_90, b_X12_shapes_130, b_X12_shapes_349, f_X12_expected, b_X12_expected_12, b_X12_expected_28, b_X12_expected_54, f_X12_isOpen, f_X12_open, f_X12_hole, w_append, U_0, nz, e_12, E400, K0, K1, K2, U400, LEn, a11, a21, am2, n12, hk0, hg0, hs, h5]
          refine ST.m1 ⟨hT, rS.mk2 (by omega) (by omega) ?_, rY.mk2 (by omega) rfl (by omega), hD, ?_, ⟨rfl, hk⟩, rS.mk2 (by omega) (by omega) ?_, hC, hO⟩
          all_goals try exact rQ.same hg hq
          all_goals try exact rQ.less hg hq (by omega)
          all_goals try exact rQ.add (by omega) (by omega) hq (fun _ => ⟨_, (by omega), rfl⟩) (fun z => absurd z (by decide))
          all_goals try exact rQ.add (by omega) (by omega) hq (fun z => absurd z (by decide)) (fun z => absurd z (by decide))
          all_goals try exact rQ.add (by omega) (by omega) hq (fun _ => ⟨_, (by omega), rfl⟩) (fun _ => ⟨by omega, hs⟩)
          all_goals (intro i hi; try simp only [upd_at])
          all_goals repeat' split
          all_goals first | rfl | exact hf _ (by omega) | exact hh _ (by omega) | (exfalso; omega) | exact absurd trivial (by assumption) | (simp (disch := omega) only [hf, hh]; done)
      · simp (maxSteps := 500000) (decide := true) (disch := omega) only [f_X3_carryOutNext, f_X3_askFirst, b_X3_askFirst_20, b_X3_askFirst_40, Int32.reduceToNatClampNeg, gp_73, fc_73, tk_73, wi_73, od_73, sw_73, b_X12_done_52, b_X12_done_69, f_X12_isStarred, b_X12_isStarred_42, f_X12_wants, f_X12_wantsStore, b_X12_wantsStore_27, L_0, L_1, L_2, L_3, nlt30, cl_nI, nI_lt0, nI_sub1, nI_sub2, nI_sub3, nI_add1, nI_add2, e_30, Nat.sub_sub, Nat.reduceAdd, hf, hh, sb, ck_T, ckn, not_false_eq_true, false_or, Nat.not_le, ite_self, ↓reduceIte, s_from0, s_from1, s_from2, s_drop1, s_drop2, s_put, s_putF, s_room1, s_room1F, s_take, s_rep, s_raise1, s_raise2, w_push, w_pop, f_X4_structure, b_X4_structure_24, b_X4_structure_45, f_X4_openThingFor, f_X4_opensOneMore, b_X4_opensOneMore_28, f_X4_build, f_X4_openJump, v_oSort, v_oFull, v_oAdd, v_oClose, v_set, s_both, s_bothF, s_app, s_appF, m_room0, m_room1, m_room2, ap_73, f_X12_shapes, b_X12_shapes_29, b_X12_shapes_34, b_X12_shapes_47, b_X12_shapes_63, b_X12_shapes_75, b_X12_shapes_90, b_X12_shapes_130, b_X12_shapes_349, f_X12_expected, b_X12_expected_12, b_X12_expected_28, b_X12_expected_54, f_X12_isOpen, f_X12_open, f_X12_hole, w_append, U_0, nz, e_12, E400, K0, K1, K2, U400, LEn, a11, a21, am2, n12, hk0, hg0, hs]
        refine ST.m1 ⟨hT, rS.mk2 (by omega) (by omega) ?_, rY.mk2 (by omega) rfl (by omega), hD, ?_, ⟨rfl, hk⟩, rS.mk2 (by omega) (by omega) ?_, hC, hO⟩
        all_goals try exact rQ.same hg hq
        all_goals try exact rQ.less hg hq (by omega)
        all_goals try exact rQ.add (by omega) (by omega) hq (fun _ => ⟨_, (by omega), rfl⟩) (fun z => absurd z (by decide))
        all_goals try exact rQ.add (by omega) (by omega) hq (fun z => absurd z (by decide)) (fun z => absurd z (by decide))
        all_goals try exact rQ.add (by omega) (by omega) hq (fun _ => ⟨_, (by omega), rfl⟩) (fun _ => ⟨by omega, hs⟩)
        all_goals (intro i hi; try simp only [upd_at])
        all_goals repeat' split
        all_goals first | rfl | exact hf _ (by omega) | exact hh _ (by omega) | (exfalso; omega) | exact absurd trivial (by assumption) | (simp (disch := omega) only [hf, hh]; done)
end STRUCT
