/-! what is written is characters -/
theorem okc_m (x : Int32) : okc ((x.toUInt32 % 65536).toInt32) := by
  unfold okc
  have h : (x.toUInt32 % 65536) % 65536 = x.toUInt32 % 65536 := by
    apply UInt32.toNat_inj.mp
    rw [UInt32.toNat_mod, UInt32.toNat_mod]
    exact Nat.mod_mod _ _
  have e : ((x.toUInt32 % 65536).toInt32).toUInt32 = x.toUInt32 % 65536 := rfl
  rw [e, h]
theorem okc_m2 (x : Int32) : (((x.toUInt32 % 65536).toInt32).toUInt32 % 65536).toInt32 = (x.toUInt32 % 65536).toInt32 := okc_m x
theorem okc_nar (x : Int32) : okc (vp_nar .char x) := okc_m x
def OC (o : tO) : Prop := ∀ i, okc (o.2 i)
theorem oc_write (x : Int32) {o : tO} (h : OC o) : PO OC (f_X7_write x o) := by
  unfold f_X7_write
  refine PO.ite (PO.some h) (PO.ck (PO.some fun i => ?_))
  show okc (upd o.2 o.1.toNatClampNeg (vp_nar .char x) i)
  rw [upd_at]; split
  · exact okc_nar x
  · exact h i
theorem oc_wn1 : ∀ (n : Nat) (a b : Int64) {o : tO}, OC o → PO OC (b_X7_writeNumber_58 n a b o) := by
  intro n
  induction n with
  | zero => intro a b o h z e; unfold b_X7_writeNumber_58 at e; cases e
  | succ n ih =>
    intro a b o h
    unfold b_X7_writeNumber_58
    exact PO.ite (PO.some h) (PO.ck (PO.ck (PO.bind (oc_write _ h) fun u hu => PO.ck (ih _ _ hu))))
theorem oc_wn2 : ∀ (n : Nat) (a b : Int64) (k : Int32) {o : tO}, OC o → PO OC (b_X7_writeNumber_22 n a b k o) := by
  intro n
  induction n with
  | zero => intro a b k o h z e; unfold b_X7_writeNumber_22 at e; cases e
  | succ n ih =>
    intro a b k o h
    unfold b_X7_writeNumber_22 b_X7_writeNumber_54
    exact PO.ite (oc_wn1 _ _ _ h) (PO.ite (oc_wn1 _ _ _ h) (ih _ _ _ h))
theorem oc_num (x : Int32) {o : tO} (h : OC o) : PO OC (f_X7_writeNumber x o) := by
  unfold f_X7_writeNumber b_X7_writeNumber_16
  exact PO.ite (oc_wn2 _ _ _ _ h) (PO.bind (oc_write _ h) fun u hu => oc_wn2 _ _ _ _ hu)
theorem oc_w (w : Nat) (s : tR) {o : tO} (h : OC o) : PO (fun u => OC u.2.2) (f_X3_write w s o) := by
  unfold f_X3_write
  exact PO.ck (PO.ck (PO.ite (PO.any fun u3 => PO.bind (oc_num _ h) fun u5 h5 => PO.bind (oc_write _ h5) fun u7 h7 => PO.some h7) (PO.ite (PO.any fun u => PO.bind (oc_write _ h) fun u7 h7 => PO.some h7) (PO.bind (oc_write _ h) fun u7 h7 => PO.some h7))))
theorem oc_next (t : tT) (s : tR) (y : tY) (d : tD) (q : tP) (k : tK) (r : tR) (c : tC) {o : tO} (m : tM) (h : OC o) : PO (fun z => OC z.2.2.2.2.2.2.2.2.2.1) (f_X3_carryOutNext t s y d q k r c o m) := by
  unfold f_X3_carryOutNext
  refine PO.ite (PO.ck (PO.any fun u3 => PO.ite ?_ (PO.some h))) (PO.any fun u => PO.some h)
  refine PO.ite (PO.any fun u => PO.some h) ?_
  refine PO.ite (PO.any fun u => PO.some h) ?_
  refine PO.ite (PO.any fun u => PO.any fun v => PO.any fun w => PO.some h) ?_
  refine PO.ite (PO.any fun u => PO.some h) ?_
  refine PO.ite (PO.any fun u => PO.some h) ?_
  refine PO.ite (PO.bind (oc_w _ _ h) fun u hu => PO.some hu) ?_
  refine PO.ite (PO.any fun u => PO.some h) ?_
  refine PO.ite (PO.any fun u => PO.some h) ?_
  refine PO.ite (PO.any fun u => PO.some h) ?_
  refine PO.ite (PO.any fun u => PO.some h) ?_
  refine PO.ite (PO.any fun u => PO.some h) ?_
  refine PO.ite (PO.any fun u => PO.some h) ?_
  refine PO.ite (PO.any fun u => PO.some h) ?_
  exact PO.any fun u => PO.some h
theorem oc_run : ∀ (n : Nat) (y2 : Int32) (t : tT) (s : tR) (y : tY) (d : tD) (q : tP) (k : tK) (r : tR) (c : tC) (o : tO) (m : tM), OC o → PO (fun z => OC z.2.2.2.2.2.2.2.2.2.1) (b_X3_interpret_35 n y2 t s y d q k r c o m) := by
  intro n
  induction n with
  | zero => intro y2 t s y d q k r c o m h z e; unfold b_X3_interpret_35 at e; cases e
  | succ n ih =>
    intro y2 t s y d q k r c o m h
    have h105 : ∀ t s y d q k r c o m, OC o → PO (fun z => OC z.2.2.2.2.2.2.2.2.2.1) (b_X3_interpret_105 t s y d q k r c o m) := fun t s y d q k r c o m h => by
      unfold b_X3_interpret_105; exact PO.any fun u => PO.some h
    have h96 : ∀ (y2 z0 : Int32) t s y d q k r c o m, OC o → PO (fun z => OC z.2.2.2.2.2.2.2.2.2.1) (b_X3_interpret_96 (b_X3_interpret_35 n) y2 z0 t s y d q k r c o m) := fun y2 z0 t s y d q k r c o m h => by
      unfold b_X3_interpret_96 b_X3_interpret_99; exact PO.any fun u => ih _ _ _ _ _ _ _ _ _ _ _ h
    have h76 : ∀ (y2 : Int32) t s y d q k r c o m, OC o → PO (fun z => OC z.2.2.2.2.2.2.2.2.2.1) (b_X3_interpret_76 (b_X3_interpret_35 n) y2 t s y d q k r c o m) := fun y2 t s y d q k r c o m h => by
      unfold b_X3_interpret_76
      exact PO.ite (PO.any fun u => h96 _ _ _ _ _ _ _ _ _ _ _ _ h) (PO.bind (oc_next t s y d q k r c m h) fun u hu => h96 _ _ _ _ _ _ _ _ _ _ _ _ hu)
    unfold b_X3_interpret_35 b_X3_interpret_99
    exact PO.ite (h105 _ _ _ _ _ _ _ _ _ _ h) (PO.ite (PO.ite (h76 _ _ _ _ _ _ _ _ _ _ _ h) (PO.ite (PO.any fun u => ih _ _ _ _ _ _ _ _ _ _ _ h) (h76 _ _ _ _ _ _ _ _ _ _ _ h))) (h105 _ _ _ _ _ _ _ _ _ _ h))
/-! the calls from outside -/
section OUTER
variable {t : tT} {s : tR} {y : tY} {d : tD} {q : tP} {k : tK} {r : tR} {c : tC} {o : tO} {m : tM} {T : mT} {S : mS} {R : mR} {C : mC} {Y : mY} {D : mD} {K : mK} {Q : mP} {O : mO} {M : mM}
theorem BW.th (h : BW t s y d q k r c o m T S R C Y D K Q O M) (z : Int32) : BW t s y d q k r c o m T S R C Y D K Q O (z, M.2) := h
theorem o_type (h : BW t s y d q k r c o m T S R C Y D K Q O M) {x : Int32} (hx : okc x) : ∃ (v : Int32) (t1 : tT) (T1 : mT), f_X11_type x t = some (v, t1) ∧ f_X12_type x T M = some (v, T1, (0, M.2)) ∧ BW t1 s y d q k r c o m T1 S R C Y D K Q O (0, M.2) := by
  obtain ⟨⟨a, u, l, x0, f, rfl, rfl, ha, hu, hf⟩, hrest⟩ := h
  unfold f_X11_type f_X9_add f_X12_type
  by_cases q0 : a = 200
  · subst q0
    refine ⟨0, (nI 200, 0, nI u, nI l, f), (nI 200, x0, nI u, nI l, f), ?_, ?_, ⟨200, u, l, x0, f, rfl, rfl, ha, hu, hf⟩, hrest⟩
    · rw [if_pos (show (nI 200, (0 : Int32), nI u, nI l, f).1 = 200 from rfl), sb, ck_t (.inl rfl)]
    · rw [if_pos (show (nI 200, x0, nI u, nI l, f).1 = 200 from rfl)]
  · have hne : ¬ nI a = 200 := nI_ne (b := 200) (by omega) (by omega) q0
    refine ⟨1, (nI (a + 1), 0, nI u, nI l, upd f a x), (nI (a + 1), x0, nI u, nI l, upd f a x), ?_, ?_, ⟨a + 1, u, l, x0, upd f a x, rfl, rfl, by omega, hu, fun i => ?_⟩, hrest⟩
    · rw [if_neg (show ¬ (nI a, (0 : Int32), nI u, nI l, f).1 = 200 from hne), ck_t (show ¬ ((nI a, (0 : Int32), nI u, nI l, f).1 < 0 ∨ 200 ≤ (nI a, (0 : Int32), nI u, nI l, f).1.toNatClampNeg) from in_ok (by omega) (by omega)), sb, ck_t (.inr rfl)]
      show some ((1 : Int32), (nI a + 1, (0 : Int32), nI u, nI l, upd f (nI a).toNatClampNeg (vp_nar .char x))) = _
      rw [nI_clamp (by omega), vc_ok hx, nI_1]
    · rw [if_neg (show ¬ (nI a, x0, nI u, nI l, f).1 = 200 from hne), ck_t (show ¬ ((nI a, x0, nI u, nI l, f).1 < 0 ∨ 200 ≤ (nI a, x0, nI u, nI l, f).1.toNatClampNeg) from in_ok (by omega) (by omega))]
      show some ((1 : Int32), (nI a + 1, x0, nI u, nI l, upd f (nI a).toNatClampNeg x), ((0 : Int32), M.2)) = _
      rw [nI_clamp (by omega), nI_1]
    · rw [upd_at]; split
      · exact hx
      · exact hf i
theorem o_run (h : BW t s y d q k r c o m T S R C Y D K Q O M) (hO : OC o) (x : Int32) : (∃ (v : Int32) (t1 : tT) (s1 : tR) (y1 : tY) (d1 : tD) (q1 : tP) (k1 : tK) (r1 : tR) (c1 : tC) (o1 : tO) (m1 : tM) (T1 : mT) (S1 : mS) (R1 : mR) (C1 : mC) (Y1 : mY) (D1 : mD) (K1' : mK) (Q1 : mP) (O1 : mO) (M1 : mM), f_X11_run x t s y d q k r c o m = some (v, t1, s1, y1, d1, q1, k1, r1, c1, o1, m1) ∧ f_X12_run x T S R C Y D K Q O M = some (v, T1, S1, R1, C1, Y1, D1, K1', Q1, O1, M1) ∧ M1.1 = 0 ∧ BW t1 s1 y1 d1 q1 k1 r1 c1 o1 m1 T1 S1 R1 C1 Y1 D1 K1' Q1 O1 M1 ∧ OC o1) ∨ (t_X11_run x t s y d q k r c o m = some 2 ∧ f_X12_run x T S R C Y D K Q O M = some (0, T, S, R, C, Y, D, K, Q, O, (1, M.2))) := by
  have hthr : (x < 0 ∨ ¬ x ≤ 3000) → t_X11_run x t s y d q k r c o m = some 2 ∧ f_X12_run x T S R C Y D K Q O M = some (0, T, S, R, C, Y, D, K, Q, O, (1, M.2)) := fun hx => by
    unfold t_X11_run tb_X11_run_11 f_X12_run b_X12_run_12 b_X12_run_17
    rcases hx with hx | hx
    · rw [if_pos hx, if_pos hx, if_neg (show ¬ (1 : Int32) ≤ 0 by decide)]; exact ⟨rfl, rfl⟩
    · by_cases h0 : x < 0
      · rw [if_pos h0, if_pos h0, if_neg (show ¬ (1 : Int32) ≤ 0 by decide)]; exact ⟨rfl, rfl⟩
      · rw [if_neg h0, if_neg hx, if_neg h0, if_neg hx, if_neg (show ¬ (1 : Int32) ≤ 0 by decide)]; exact ⟨rfl, rfl⟩
  rcases pk_ix x (n := 3001) (by omega) with hx | hx | ⟨A, hA, rfl⟩
  · exact .inr (hthr (.inl hx))
  · exact .inr (hthr (.inr fun z => absurd (Int32.le_trans (show nI 3001 ≤ x from hx) z) (by decide)))
  · left
    obtain ⟨v, t1, s1, y1, d1, q1, k1, r1, c1, o1, m1, T1, S1, R1, C1, Y1, D1, K1', Q1, O1, M1, e1, e2, e3, e4⟩ := run_eq h (A := A) (by omega)
    refine ⟨v, t1, s1, y1, d1, q1, k1, r1, c1, o1, m1, T1, S1, R1, C1, Y1, D1, K1', Q1, O1, M1, ?_, e2, e3, e4, ?_⟩
    · unfold f_X11_run
      rw [if_neg (nI_pos (by omega)), if_pos (le'_3000 (by omega)), e1, sb]
    · exact oc_run FU 0 t s y d q k r c (0, o.2) (nI A, 0, 0, m.2.2.2.1, 0, 0) (fun i => hO i) _ e1
theorem sh1 (v : Int32) (M : mM) : f_X12_shown 1 v M = some (v, (0, M.2)) := by
  unfold f_X12_shown b_X12_shown_10
  rw [if_neg (by decide), if_neg (by decide)]
theorem sh0 (v : Int32) (M : mM) : f_X12_shown 0 v M = some (0, (1, M.2)) := by
  unfold f_X12_shown b_X12_shown_10
  rw [if_pos rfl, if_pos rfl]
theorem o_output (h : BW t s y d q k r c o m T S R C Y D K Q O M) (hO : OC o) (x : Int32) : (∃ v : Int32, f_X11_output x o = some v ∧ f_X12_output x O M = some (v, (0, M.2))) ∨ (t_X11_output x o = some 1 ∧ ∃ v : Int32, f_X12_output x O M = some (v, (1, M.2))) := by
  obtain ⟨_, _, _, _, _, _, _, _, ⟨rfl, w, f, hw, rfl⟩, _⟩ := h
  unfold f_X11_output b_X11_output_18 t_X11_output tb_X11_output_18 f_X12_output b_X12_output_16 b_X12_output_17 b_X12_output_34
  rcases pk_ix x (n := w) (by omega) with hx | hx | ⟨j, hj, rfl⟩
  · right
    rw [if_pos hx, if_pos hx, if_pos (show (0 : Int32) = 0 from rfl), sh0, sb, ck_t (okc_m2 _)]
    exact ⟨rfl, _, rfl⟩
  · right
    have h0 : ¬ x < 0 := ge0N hx (by omega)
    have h1 : ¬ x < (nI w, f).1 := lt_of_nle hx
    rw [if_neg h0, if_neg h1, if_neg h0, if_pos (show (nI w, f).1 ≤ x from hx), if_pos (show (0 : Int32) = 0 from rfl), sh0, sb, ck_t (okc_m2 _)]
    exact ⟨rfl, _, rfl⟩
  · left
    have h0 : ¬ nI j < 0 := nI_pos (by omega)
    have hc := hO j
    refine ⟨f j, ?_, ?_⟩
    · rw [if_neg h0, if_pos (show nI j < (nI w, f).1 from nI_lt hj (by omega)), ck_t (in_ok (by omega) (by omega)), nI_clamp (by omega)]
      exact ck_t hc
    · rw [if_neg h0, if_neg (show ¬ (nI w, f).1 ≤ nI j from nI_ge hj (by omega)), if_neg (show ¬ (1 : Int32) = 0 by decide), ck_t (in_ok (by omega) (by omega)), nI_clamp (by omega), sh1, sb, ck_t (okc_m2 _)]
      show some (((f j).toUInt32 % 65536).toInt32, ((0 : Int32), M.2)) = _
      rw [show ((f j).toUInt32 % 65536).toInt32 = f j from hc]
theorem o_stack (h : BW t s y d q k r c o m T S R C Y D K Q O M) (x : Int32) : (∃ v : Int32, f_X11_stack x s = some v ∧ f_X12_stack x S M = some (v, (0, M.2))) ∨ (t_X11_stack x s = some 1 ∧ ∃ v : Int32, f_X12_stack x S M = some (v, (1, M.2))) := by
  obtain ⟨_, ⟨n, f, F, hn, rfl, rfl, hf⟩, _⟩ := h
  unfold f_X11_stack b_X11_stack_18 t_X11_stack tb_X11_stack_18 f_X12_stack b_X12_stack_16 b_X12_stack_17 b_X12_stack_34
  rcases pk_ix x (n := n) (by omega) with hx | hx | ⟨j, hj, rfl⟩
  · right
    rw [if_pos hx, if_pos hx, if_pos (show (0 : Int32) = 0 from rfl), sh0, sb]
    exact ⟨rfl, _, rfl⟩
  · right
    have h0 : ¬ x < 0 := ge0N hx (by omega)
    have h1 : ¬ x < (nI n, f).1 := lt_of_nle hx
    rw [if_neg h0, if_neg h1, if_neg h0, if_pos (show (nI n, F).1 ≤ x from hx), if_pos (show (0 : Int32) = 0 from rfl), sh0, sb]
    exact ⟨rfl, _, rfl⟩
  · left
    have h0 : ¬ nI j < 0 := nI_pos (by omega)
    refine ⟨f j, ?_, ?_⟩
    · rw [if_neg h0, if_pos (show nI j < (nI n, f).1 from nI_lt hj (by omega)), ck_t (in_ok (by omega) (by omega)), nI_clamp (by omega)]
    · rw [if_neg h0, if_neg (show ¬ (nI n, F).1 ≤ nI j from nI_ge hj (by omega)), if_neg (show ¬ (1 : Int32) = 0 by decide), ck_t (in_ok (by omega) (by omega)), nI_clamp (by omega), show (nI n, F).2 j = f j from hf j hj, sh1, sb]
theorem o_cell (h : BW t s y d q k r c o m T S R C Y D K Q O M) (x : Int32) : (∃ v : Int32, f_X11_cell x y = some v ∧ f_X12_cell x Y M = some (v, (0, M.2))) ∨ (t_X11_cell x y = some 1 ∧ ∃ v : Int32, f_X12_cell x Y M = some (v, (1, M.2))) := by
  obtain ⟨_, _, ⟨rfl, a, f, ha, rfl⟩, _⟩ := h
  unfold f_X11_cell t_X11_cell f_X12_cell b_X12_cell_15 b_X12_cell_16 b_X12_cell_33
  rw [v_isCell]
  rcases pk_ix x (n := 400) (by omega) with hx | hx | ⟨j, hj, rfl⟩
  · right
    rw [if_pos hx, sb, if_pos (show (0 : Int32) = 0 from rfl), if_pos hx, if_pos (show (0 : Int32) = 0 from rfl), sh0, sb]
    exact ⟨rfl, _, rfl⟩
  · right
    have hx1 : (400 : Int32) ≤ x := hx
    have h0 : ¬ x < 0 := ge0 hx1
    rw [if_neg h0, if_pos hx1, sb, if_pos (show (0 : Int32) = 0 from rfl), if_neg h0, if_pos hx1, if_pos (show (0 : Int32) = 0 from rfl), sh0, sb]
    exact ⟨rfl, _, rfl⟩
  · left
    have h0 : ¬ nI j < 0 := nI_pos (by omega)
    have h1 : ¬ (400 : Int32) ≤ nI j := nle_400 hj
    refine ⟨f j, ?_, ?_⟩
    · rw [if_neg h0, if_neg h1, sb, if_neg (show ¬ (1 : Int32) = 0 by decide), v_at hj, sb]
    · rw [if_neg h0, if_neg h1, if_neg (show ¬ (1 : Int32) = 0 by decide), ck_t (in_ok (by omega) (by omega)), nI_clamp (by omega), sh1, sb]
theorem o_word (h : BW t s y d q k r c o m T S R C Y D K Q O M) (x x2 : Int32) : (∃ v : Int32, f_X11_word x x2 d = some v ∧ f_X12_word x x2 D M = some (v, (0, M.2))) ∨ (t_X11_word x x2 d = some 1 ∧ ∃ v : Int32, f_X12_word x x2 D M = some (v, (1, M.2))) ∨ (t_X11_word x x2 d = some 2 ∧ ∃ v : Int32, f_X12_word x x2 D M = some (v, (2, M.2))) := by
  obtain ⟨_, _, _, ⟨e, bg, le, ln, pl, so, be, im, fi, he, rfl, rfl, hbg, hW⟩, _⟩ := h
  rcases pk_ix x (n := e) (by omega) with hx | hx | ⟨i, hi, rfl⟩
  · right; left
    simp (decide := true) (disch := omega) only [t_X11_word, tb_X11_word_20, f_X12_word, b_X12_word_13, b_X12_word_31, hx, ↓reduceIte]
    exact ⟨trivial, _, rfl⟩
  · right; left
    have h0 : ¬ x < 0 := ge0N hx (by omega)
    have h1 : ¬ x < nI e := lt_of_nle hx
    simp (decide := true) (disch := omega) only [t_X11_word, tb_X11_word_20, f_X12_word, b_X12_word_13, b_X12_word_31, h0, h1, ↓reduceIte]
    exact ⟨trivial, _, rfl⟩
  · have hi' : (i < e) = True := eq_true hi
    rcases pk_ix x2 (n := 5) (by omega) with hz | hz | ⟨j, hj, rfl⟩
    · right; right
      have n0 : ¬ x2 = 0 := fun z => by rw [z] at hz; exact absurd hz (by decide)
      have n1 : ¬ x2 = 1 := fun z => by rw [z] at hz; exact absurd hz (by decide)
      have n2 : ¬ x2 = 2 := fun z => by rw [z] at hz; exact absurd hz (by decide)
      have n3 : ¬ x2 = 3 := fun z => by rw [z] at hz; exact absurd hz (by decide)
      have n4 : ¬ x2 = 4 := fun z => by rw [z] at hz; exact absurd hz (by decide)
      simp (decide := true) (disch := omega) only [t_X11_word, tb_X11_word_20, f_X12_word, b_X12_word_26, b_X12_word_31, nI_lt0, LTn, hi', hz, n0, n1, n2, n3, n4, ↓reduceIte]
      exact ⟨trivial, _, rfl⟩
    · right; right
      have hz1 : (5 : Int32) ≤ x2 := hz
      have g0 : ¬ x2 < 0 := ge0N hz (by omega)
      have g4 : ¬ x2 ≤ 4 := fun z => absurd (Int32.le_trans hz1 z) (by decide)
      have n0 : ¬ x2 = 0 := fun z => by rw [z] at hz1; exact absurd hz1 (by decide)
      have n1 : ¬ x2 = 1 := fun z => by rw [z] at hz1; exact absurd hz1 (by decide)
      have n2 : ¬ x2 = 2 := fun z => by rw [z] at hz1; exact absurd hz1 (by decide)
      have n3 : ¬ x2 = 3 := fun z => by rw [z] at hz1; exact absurd hz1 (by decide)
      have n4 : ¬ x2 = 4 := fun z => by rw [z] at hz1; exact absurd hz1 (by decide)
      simp (decide := true) (disch := omega) only [t_X11_word, tb_X11_word_20, f_X12_word, b_X12_word_26, b_X12_word_31, nI_lt0, LTn, hi', g0, g4, n0, n1, n2, n3, n4, ↓reduceIte]
      exact ⟨trivial, _, rfl⟩
    · left
      rcases (show j = 0 ∨ j = 1 ∨ j = 2 ∨ j = 3 ∨ j = 4 by omega) with rfl | rfl | rfl | rfl | rfl
      · simp (decide := true) (disch := omega) only [f_X11_word, f_X12_word, b_X12_word_31, nI_lt0, LTn, hi', cl_nI, ck_T, ckn, not_false_eq_true, false_or, Nat.not_le, ↓reduceIte]
        exact ⟨_, rfl, rfl⟩
      · simp (decide := true) (disch := omega) only [f_X11_word, f_X12_word, b_X12_word_31, nI_lt0, LTn, hi', cl_nI, ck_T, ckn, not_false_eq_true, false_or, Nat.not_le, ↓reduceIte]
        exact ⟨_, rfl, rfl⟩
      · by_cases hv : im i = 0
        · simp (decide := true) (disch := omega) only [f_X11_word, f_X12_word, b_X12_word_31, nI_lt0, LTn, hi', hv, cl_nI, ck_T, ckn, not_false_eq_true, false_or, Nat.not_le, ↓reduceIte]
          exact ⟨_, rfl, rfl⟩
        · simp (decide := true) (disch := omega) only [f_X11_word, f_X12_word, b_X12_word_31, nI_lt0, LTn, hi', hv, cl_nI, ck_T, ckn, not_false_eq_true, false_or, Nat.not_le, ↓reduceIte]
          exact ⟨_, rfl, rfl⟩
      · simp (decide := true) (disch := omega) only [f_X11_word, f_X12_word, b_X12_word_31, nI_lt0, LTn, hi', cl_nI, ck_T, ckn, not_false_eq_true, false_or, Nat.not_le, ↓reduceIte]
        exact ⟨_, rfl, rfl⟩
      · by_cases hv : fi i = 0
        · simp (decide := true) (disch := omega) only [f_X11_word, f_X12_word, b_X12_word_31, nI_lt0, LTn, hi', hv, cl_nI, ck_T, ckn, not_false_eq_true, false_or, Nat.not_le, ↓reduceIte]
          exact ⟨_, rfl, rfl⟩
        · simp (decide := true) (disch := omega) only [f_X11_word, f_X12_word, b_X12_word_31, nI_lt0, LTn, hi', hv, cl_nI, ck_T, ckn, not_false_eq_true, false_or, Nat.not_le, ↓reduceIte]
          exact ⟨_, rfl, rfl⟩
theorem o_count (h : BW t s y d q k r c o m T S R C Y D K Q O M) (x : Int32) : ∃ v : Int32, f_X11_count x s y d q k r o m = some v ∧ f_X12_count x S R Y D K Q O M = some (v, (0, M.2)) := by
  obtain ⟨_, ⟨n, f, F, hn, rfl, rfl, hf⟩, ⟨rfl, a, cz, ha, rfl⟩, ⟨e, bg, le, ln, pl, so, be, im, fi, he, rfl, rfl, hbg, hW⟩, ⟨rfl, g, os, op, hg, rfl, hq⟩, ⟨rfl, hk⟩, ⟨p, h, G, hp, rfl, rfl, hh⟩, _, ⟨rfl, w, ou, hw, rfl⟩, _, _, h6, h7⟩ := h
  unfold f_X11_count f_X12_count
  by_cases x0 : x = 0
  · rw [if_pos x0, if_pos x0]; exact ⟨_, rfl, rfl⟩
  rw [if_neg x0, if_neg x0]
  by_cases x1 : x = 1
  · rw [if_pos x1, if_pos x1]; exact ⟨_, rfl, rfl⟩
  rw [if_neg x1, if_neg x1]
  by_cases x2 : x = 2
  · rw [if_pos x2, if_pos x2]; exact ⟨_, rfl, rfl⟩
  rw [if_neg x2, if_neg x2]
  by_cases x3 : x = 3
  · rw [if_pos x3, if_pos x3]; exact ⟨_, rfl, rfl⟩
  rw [if_neg x3, if_neg x3]
  by_cases x4 : x = 4
  · rw [if_pos x4, if_pos x4]; exact ⟨_, rfl, rfl⟩
  rw [if_neg x4, if_neg x4]
  by_cases x5 : x = 5
  · rw [if_pos x5, if_pos x5]
    by_cases z : K = 0
    · rw [if_pos z, if_pos z]; exact ⟨_, rfl, rfl⟩
    · rw [if_neg z, if_neg z]; exact ⟨_, rfl, rfl⟩
  rw [if_neg x5, if_neg x5]
  by_cases x6 : x = 6
  · rw [if_pos x6, if_pos x6]; exact ⟨_, rfl, by rw [← h6]⟩
  rw [if_neg x6, if_neg x6]
  by_cases x7 : x = 7
  · rw [if_pos x7, if_pos x7]; exact ⟨_, rfl, by rw [← h7]⟩
  rw [if_neg x7, if_neg x7]
  by_cases x8 : x = 8
  · rw [if_pos x8, if_pos x8]; exact ⟨_, rfl, rfl⟩
  rw [if_neg x8, if_neg x8]
  exact ⟨_, rfl, rfl⟩
end OUTER
