/-! a made word; all words -/
theorem lt82F {j : Nat} (h : j < 2 ^ 30) : (nI (82 + j) < 82) = False := eq_false (nlt'_82 (by omega) (by omega))
theorem s82 (j : Nat) : nI (82 + j) - 82 = nI j := by
  rw [show nI (82 + j) - 82 = nI (82 + j) - nI 82 from rfl, nI_subN (by omega), show 82 + j - 82 = j by omega]
section ALL
variable {t : tT} {s : tR} {y : tY} {d : tD} {q : tP} {k : tK} {r : tR} {c : tC} {o : tO} {T : mT} {S : mS} {R : mR} {C : mC} {Y : mY} {D : mD} {K : mK} {Q : mP} {O : mO}
theorem wd_made (hR : REL t s y d q k r c o T S R C Y D K Q O) {z j : Nat} (hz : d.1 = nI z) (hz40 : z ≤ 40) (hj : j < z) (al st ca ov an th lf st' ca' re en : Int32) : ST (f_X3_carryOutNext t s y d q k r c o (al, st, ca, nI (82 + j), ov, an)) (f_X12_done (nI (82 + j)) T S R C Y D K Q O (th, lf, st', ca', -1, re, en)) al (st + 1) ca ov an th lf st' ca' re en := by
  obtain ⟨hT, ⟨n, f, F, hn, rfl, rfl, hf⟩, hY, hD, hQ, hK, ⟨p, h, G, hp, rfl, rfl, hh⟩, hC, hO⟩ := hR
  obtain ⟨l, pa, ic, ns, nr, PA, HS, HR, hl, rfl, rfl, hc⟩ := hC
  obtain ⟨rfl, a, cz, ha, rfl⟩ := hY
  obtain ⟨e, bg, le, ln, pl, so, be, im, fi, he, rfl, rfl, hbg, hW⟩ := hD
  obtain rfl : e = z := (nI_eq (by omega) (by omega)).mp hz
  obtain ⟨⟨u, hu, w1, w2⟩, w3, _, _, _⟩ := hW j hj
  by_cases s1 : so j = 1
  · by_cases hz : l = 30
    · subst hz
      simp (decide := true) (disch := omega) only [f_X3_carryOutNext, lt82F, s82, f_X3_carryOutMade, f_X12_done, f_X12_madeWord, cl_nI, nI_lt0, sb, ck_T, ckn, not_false_eq_true, false_or, Nat.not_le, ite_self, ↓reduceIte, s1, v_cAdd, e_30]
      exact ST.m1 ⟨hT, rS.mk hn hf, rY.mk ha, rD.same he hbg hW, hQ, hK, rS.mk hp hh, rC.same hl hc, hO⟩
    · simp (decide := true) (disch := omega) only [f_X3_carryOutNext, lt82F, s82, f_X3_carryOutMade, f_X12_done, f_X12_madeWord, f_X12_call, nI_add1, cl_nI, nI_lt0, sb, ck_T, ckn, not_false_eq_true, false_or, Nat.not_le, ite_self, ↓reduceIte, s1, v_cAdd, e_30, hz]
      exact ST.m1 ⟨hT, rS.mk hn hf, rY.mk ha, rD.same he hbg hW, hQ, hK, rS.mk hp hh, rC.call (by omega) hc, hO⟩
  · by_cases h30 : n = 30
    · subst h30
      by_cases s3 : so j = 3
      · have hu4 := w2 s3
        simp (decide := true) (disch := omega) only [f_X3_carryOutNext, lt82F, s82, f_X3_carryOutMade, f_X12_done, f_X12_madeWord, cl_nI, nI_lt0, sb, ck_T, ckn, not_false_eq_true, false_or, Nat.not_le, ite_self, ↓reduceIte, s1, s3, w1, v_at, s_putF, e_30]
        exact ST.m1 ⟨hT, rS.mk hn hf, rY.mk ha, rD.same he hbg hW, hQ, hK, rS.mk hp hh, rC.same hl hc, hO⟩
      · simp (decide := true) (disch := omega) only [f_X3_carryOutNext, lt82F, s82, f_X3_carryOutMade, f_X12_done, f_X12_madeWord, cl_nI, nI_lt0, sb, ck_T, ckn, not_false_eq_true, false_or, Nat.not_le, ite_self, ↓reduceIte, s1, s3, s_room1F, e_30]
        exact ST.m1 ⟨hT, rS.mk hn hf, rY.mk ha, rD.same he hbg hW, hQ, hK, rS.mk hp hh, rC.same hl hc, hO⟩
    · have hup : ∀ x : Int32, ∀ i, i < n + 1 → upd F n x i = upd f n x i := fun x i hi => by
        rw [upd_at, upd_at]; split
        · rfl
        · exact hf i (by omega)
      by_cases s3 : so j = 3
      · have hu4 := w2 s3
        simp (decide := true) (disch := omega) only [f_X3_carryOutNext, lt82F, s82, f_X3_carryOutMade, f_X12_done, f_X12_madeWord, cl_nI, nI_lt0, sb, ck_T, ckn, not_false_eq_true, false_or, Nat.not_le, ite_self, ↓reduceIte, s1, s3, w1, v_at, s_put, w_push, e_30, h30]
        exact ST.m1 ⟨hT, rS.mk (by omega) (hup _), rY.mk ha, rD.same he hbg hW, hQ, hK, rS.mk hp hh, rC.same hl hc, hO⟩
      · rcases w3 with w3 | ⟨v, hv, w3⟩
        · simp (decide := true) (disch := omega) only [f_X3_carryOutNext, lt82F, s82, f_X3_carryOutMade, b_X3_carryOutMade_107, f_X12_done, f_X12_madeWord, b_X12_madeWord_96, cl_nI, nI_lt0, sb, ck_T, ckn, not_false_eq_true, false_or, Nat.not_le, ite_self, ↓reduceIte, s1, s3, w3, s_room1, s_put, w_push, e_30, h30]
          exact ST.m1 ⟨hT, rS.mk (by omega) (hup _), rY.mk ha, rD.same he hbg hW, hQ, hK, rS.mk hp hh, rC.same hl hc, hO⟩
        · by_cases hz : l = 30
          · subst hz
            simp (decide := true) (disch := omega) only [f_X3_carryOutNext, lt82F, s82, f_X3_carryOutMade, b_X3_carryOutMade_107, f_X12_done, f_X12_madeWord, b_X12_madeWord_96, cl_nI, nI_lt0, ne_m1, sb, ck_T, ckn, not_false_eq_true, false_or, Nat.not_le, ite_self, ↓reduceIte, s1, s3, w3, s_room1, v_cFull, e_30, h30]
            exact ST.m1 ⟨hT, rS.mk hn hf, rY.mk ha, rD.same he hbg hW, hQ, hK, rS.mk hp hh, rC.same hl hc, hO⟩
          · simp (decide := true) (disch := omega) only [f_X3_carryOutNext, lt82F, s82, f_X3_carryOutMade, b_X3_carryOutMade_107, f_X12_done, f_X12_madeWord, b_X12_madeWord_96, f_X12_call, nI_add1, cl_nI, nI_lt0, ne_m1, sb, ck_T, ckn, not_false_eq_true, false_or, Nat.not_le, ite_self, ↓reduceIte, s1, s3, w3, s_room1, s_put, w_push, v_cFull, v_cAdd, e_30, h30, hz]
            exact ST.m1 ⟨hT, rS.mk (by omega) (hup _), rY.mk ha, rD.same he hbg hW, hQ, hK, rS.mk hp hh, rC.call (by omega) hc, hO⟩
theorem wd_all (hR : REL t s y d q k r c o T S R C Y D K Q O) (hP : PL c) (al st ca ov an th lf st' ca' re en : Int32) : ∀ j : Nat, j < 82 → ST (f_X3_carryOutNext t s y d q k r c o (al, st, ca, nI j, ov, an)) (f_X12_done (nI j) T S R C Y D K Q O (th, lf, st', ca', -1, re, en)) al (st + 1) ca ov an th lf st' ca' re en
  | 0, _ => wd_0 hR al st ca ov an th lf st' ca' re en
  | 1, _ => wd_1 hR al st ca ov an th lf st' ca' re en
  | 2, _ => wd_2 hR al st ca ov an th lf st' ca' re en
  | 3, _ => wd_3 hR al st ca ov an th lf st' ca' re en
  | 4, _ => wd_4 hR al st ca ov an th lf st' ca' re en
  | 5, _ => wd_5 hR al st ca ov an th lf st' ca' re en
  | 6, _ => wd_6 hR al st ca ov an th lf st' ca' re en
  | 7, _ => wd_7 hR hP al st ca ov an th lf st' ca' re en
  | 8, _ => wd_8 hR al st ca ov an th lf st' ca' re en
  | 9, _ => wd_9 hR al st ca ov an th lf st' ca' re en
  | 10, _ => wd_10 hR al st ca ov an th lf st' ca' re en
  | 11, _ => wd_11 hR al st ca ov an th lf st' ca' re en
  | 12, _ => wd_12 hR al st ca ov an th lf st' ca' re en
  | 13, _ => wd_13 hR al st ca ov an th lf st' ca' re en
  | 14, _ => wd_14 hR al st ca ov an th lf st' ca' re en
  | 15, _ => wd_15 hR al st ca ov an th lf st' ca' re en
  | 16, _ => wd_16 hR al st ca ov an th lf st' ca' re en
  | 17, _ => wd_17 hR al st ca ov an th lf st' ca' re en
  | 18, _ => wd_18 hR al st ca ov an th lf st' ca' re en
  | 19, _ => wd_19 hR al st ca ov an th lf st' ca' re en
  | 20, _ => wd_20 hR al st ca ov an th lf st' ca' re en
  | 21, _ => wd_21 hR al st ca ov an th lf st' ca' re en
  | 22, _ => wd_22 hR al st ca ov an th lf st' ca' re en
  | 23, _ => wd_23 hR al st ca ov an th lf st' ca' re en
  | 24, _ => wd_24 hR al st ca ov an th lf st' ca' re en
  | 25, _ => wd_25 hR al st ca ov an th lf st' ca' re en
  | 26, _ => wd_26 hR al st ca ov an th lf st' ca' re en
  | 27, _ => wd_27 hR al st ca ov an th lf st' ca' re en
  | 28, _ => wd_28 hR al st ca ov an th lf st' ca' re en
  | 29, _ => wd_29 hR al st ca ov an th lf st' ca' re en
  | 30, _ => wd_30 hR al st ca ov an th lf st' ca' re en
  | 31, _ => wd_31 hR al st ca ov an th lf st' ca' re en
  | 32, _ => wd_32 hR al st ca ov an th lf st' ca' re en
  | 33, _ => wd_33 hR al st ca ov an th lf st' ca' re en
  | 34, _ => wd_34 hR al st ca ov an th lf st' ca' re en
  | 35, _ => wd_35 hR al st ca ov an th lf st' ca' re en
  | 36, _ => wd_36 hR al st ca ov an th lf st' ca' re en
  | 37, _ => wd_37 hR al st ca ov an th lf st' ca' re en
  | 38, _ => wd_38 hR al st ca ov an th lf st' ca' re en
  | 39, _ => wd_39 hR al st ca ov an th lf st' ca' re en
  | 40, _ => wd_40 hR al st ca ov an th lf st' ca' re en
  | 41, _ => wd_41 hR al st ca ov an th lf st' ca' re en
  | 42, _ => wd_42 hR al st ca ov an th lf st' ca' re en
  | 43, _ => wd_43 hR al st ca ov an th lf st' ca' re en
  | 44, _ => wd_44 hR al st ca ov an th lf st' ca' re en
  | 45, _ => wd_45 hR al st ca ov an th lf st' ca' re en
  | 46, _ => wd_46 hR al st ca ov an th lf st' ca' re en
  | 47, _ => wd_47 hR al st ca ov an th lf st' ca' re en
  | 48, _ => wd_48 hR al st ca ov an th lf st' ca' re en
  | 49, _ => wd_49 hR al st ca ov an th lf st' ca' re en
  | 50, _ => wd_50 hR al st ca ov an th lf st' ca' re en
  | 51, _ => wd_51 hR al st ca ov an th lf st' ca' re en
  | 52, _ => wd_52 hR al st ca ov an th lf st' ca' re en
  | 53, _ => wd_53 hR al st ca ov an th lf st' ca' re en
  | 54, _ => wd_54 hR al st ca ov an th lf st' ca' re en
  | 55, _ => wd_55 hR al st ca ov an th lf st' ca' re en
  | 56, _ => wd_56 hR al st ca ov an th lf st' ca' re en
  | 57, _ => wd_57 hR al st ca ov an th lf st' ca' re en
  | 58, _ => wd_58 hR al st ca ov an th lf st' ca' re en
  | 59, _ => wd_59 hR al st ca ov an th lf st' ca' re en
  | 60, _ => wd_60 hR al st ca ov an th lf st' ca' re en
  | 61, _ => wd_61 hR al st ca ov an th lf st' ca' re en
  | 62, _ => wd_62 hR hP al st ca ov an th lf st' ca' re en
  | 63, _ => wd_63 hR al st ca ov an th lf st' ca' re en
  | 64, _ => wd_64 hR al st ca ov an th lf st' ca' re en
  | 65, _ => wd_65 hR al st ca ov an th lf st' ca' re en
  | 66, _ => wd_66 hR al st ca ov an th lf st' ca' re en
  | 67, _ => wd_67 hR al st ca ov an th lf st' ca' re en
  | 68, _ => wd_68 hR al st ca ov an th lf st' ca' re en
  | 69, _ => wd_69 hR al st ca ov an th lf st' ca' re en
  | 70, _ => wd_70 hR al st ca ov an th lf st' ca' re en
  | 71, _ => wd_71 hR al st ca ov an th lf st' ca' re en
  | 72, _ => wd_72 hR al st ca ov an th lf st' ca' re en
  | 73, _ => wd_73 hR al st ca ov an th lf st' ca' re en
  | 74, _ => wd_74 hR al st ca ov an th lf st' ca' re en
  | 75, _ => wd_75 hR al st ca ov an th lf st' ca' re en
  | 76, _ => wd_76 hR al st ca ov an th lf st' ca' re en
  | 77, _ => wd_77 hR al st ca ov an th lf st' ca' re en
  | 78, _ => wd_78 hR al st ca ov an th lf st' ca' re en
  | 79, _ => wd_79 hR al st ca ov an th lf st' ca' re en
  | 80, _ => wd_80 hR al st ca ov an th lf st' ca' re en
  | 81, _ => wd_81 hR al st ca ov an th lf st' ca' re en
  | j + 82, h => absurd h (by omega)
end ALL
