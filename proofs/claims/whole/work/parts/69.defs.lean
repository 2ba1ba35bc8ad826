/-! words that make words: facts -/
theorem vb0 : vp_nar .boolean 0 = 0 := by decide +kernel
theorem vb1 : vp_nar .boolean 1 = 1 := by decide +kernel
theorem mkf01 (e : Nat) (fi : Nat → Int32) : mkf e fi = 0 ∨ mkf e fi = 1 := by
  unfold mkf; split
  · exact .inl rfl
  · split
    · exact .inr rfl
    · exact .inl rfl
theorem mkf_pos {e : Nat} {fi : Nat → Int32} (h : mkf e fi = 1) : 0 < e := by
  rcases Nat.eq_zero_or_pos e with q | q
  · subst q; exact absurd h (by unfold mkf; rw [if_pos rfl]; decide)
  · exact q
theorem a82 (e : Nat) : (82 : Int32) + nI e = nI (82 + e) := nI_add 82 e
theorem ne_m1 {j : Nat} (h : j < 2 ^ 31) : (nI j = -1) = False := eq_false fun q => nI_pos h (by rw [q]; decide)
theorem LTn {a b : Nat} (h1 : a < 2 ^ 31) (h2 : b < 2 ^ 31) : (nI a < nI b) = (a < b) := propext ⟨fun q => Nat.not_le.mp fun z => absurd q (nI_nlt z h1), fun q => nI_lt q h2⟩
theorem s_fromN {n k : Nat} {er : Int32} {f : Nat → Int32} (hn : n ≤ 30) (h : k < n) : f_X8_fromTop (nI k) er (nI n, f) = some (f (n - 1 - k)) := by
  rw [v_fromTop hn k (by omega), if_pos h]
theorem U9 {n : Nat} (h : n ≤ 9) : (nI n ≤ (9 : Int32)) = True := eq_true (le'_9 h)
theorem rT.mk {a b u l : Nat} {f : Nat → Int32} (h1 : a ≤ 200) (h2 : b ≤ a) (h3 : u + l ≤ 200) (h4 : ∀ i, okc (f i)) : rT (nI a, nI b, nI u, nI l, f) (nI a, nI b, nI u, nI l, f) := ⟨rfl, a, b, u, l, f, rfl, h1, h2, h3, h4⟩
theorem ge0N {n : Nat} {x : Int32} (h : nI n ≤ x) (hn : n < 2 ^ 31) : ¬ x < 0 := fun q => nI_pos hn (Int32.lt_of_le_of_lt h q)
theorem PL.catc {l : Nat} {pa ic ns nr : Nat → Int32} (hl : l < 30) : PL (nI (l + 1), pa, upd ic l 1, ns, nr) := fun m h1 h2 h3 => by
  have h4 : nI (l + 1) = nI (m + 1) := h1
  have h5 := (nI_eq (by omega) (by omega)).mp h4
  have h6 : upd ic l 1 m = 0 := h3
  rw [upd_at, if_pos (by omega)] at h6
  exact absurd h6 (by decide)
section MADE
variable {e : Nat} {bg : Int32} {le ln pl so be im fi : Nat → Int32}
theorem v_making (he : e ≤ 40) : f_X2_isMaking (nI e, le, ln, pl, so, be, im, fi) = some (mkf e fi) := by
  unfold f_X2_isMaking mkf
  show (if nI e ≤ 0 then _ else ck (¬ ((nI e - 1) < 0 ∨ 40 ≤ (nI e - 1).toNatClampNeg)) (if fi ((nI e - 1).toNatClampNeg) = 0 then _ else _)) = _
  by_cases q : e = 0
  · subst q; rw [if_pos (le'_0 (by omega)), if_pos rfl]
  · rw [if_neg (nle'_0 (by omega) (by omega)), nI_m1 (by omega), ck_t (in_ok (by omega) (by omega)), nI_clamp (by omega), if_neg q]
    split <;> rfl
theorem rD.same0 (hm : mkf e fi = 0) (he : e ≤ 40) (hbg : mkf e fi = 1 → bg = pl (e - 1)) (hW : WD e ln pl so be im fi) : rD (nI e, le, ln, pl, so, be, im, fi) (nI e, 0, bg, pl, so, be, im, fi, le, ln) := by
  have h := rD.same (le := le) he hbg hW
  rw [hm] at h
  exact h
theorem rD.imm (he : e ≤ 40) (hbg : mkf e fi = 1 → bg = pl (e - 1)) (hW : WD e ln pl so be im fi) : rD (nI e, le, ln, pl, so, be, upd im (e - 1) 1, fi) (nI e, mkf e fi, bg, pl, so, be, upd im (e - 1) 1, fi, le, ln) := rD.same he hbg fun i hi => by
  obtain ⟨h1, h2, h3, h4, h5⟩ := hW i hi
  refine ⟨h1, h2, ?_, h4, h5⟩
  rw [upd_at]; split
  · exact .inr rfl
  · exact h3
theorem mkf_fin (e : Nat) (fi : Nat → Int32) : mkf e (upd fi (e - 1) 1) = 0 := by
  unfold mkf; rw [upd_at, if_pos rfl]; split
  · rfl
  · rw [if_neg (by decide)]
theorem rD.fin (he : e ≤ 40) (hW : WD e ln pl so be im fi) : rD (nI e, le, ln, pl, so, be, im, upd fi (e - 1) 1) (nI e, 0, bg, pl, so, be, im, upd fi (e - 1) 1, le, ln) := by
  have h := rD.same (e := e) (bg := bg) (le := le) (ln := ln) (pl := pl) (so := so) (be := be) (im := im) (fi := upd fi (e - 1) 1) he (fun q => absurd (q.symm.trans (mkf_fin e fi)) (by decide)) fun i hi => by
    obtain ⟨h1, h2, h3, h4, h5⟩ := hW i hi
    refine ⟨h1, h2, h3, ?_, h5⟩
    rw [upd_at]; split
    · exact .inr rfl
    · exact h4
  rw [mkf_fin] at h
  exact h
theorem WD.add (hm : mkf e fi = 0) (hW : WD e ln pl so be im fi) {a l : Nat} {x v : Int32} (ha : a ≤ 400) (hx : x = 3 → a < 400) (hv : v = 0 ∨ v = 1) (h1 : 1 ≤ l) (h9 : l ≤ 9) : WD (e + 1) (upd ln e (nI l)) (upd pl e (nI a)) (upd so e x) (upd be e (-1)) (upd im e 0) (upd fi e v) := fun i hi => by
  by_cases q : i = e
  · subst q
    simp only [upd_at, ↓reduceIte]
    exact ⟨⟨a, ha, rfl, hx⟩, .inl trivial, .inl trivial, hv.imp (fun z => ⟨z, trivial⟩) id, l, h1, h9, rfl⟩
  · simp only [upd_at, if_neg q]
    obtain ⟨w1, w2, w3, w4, w5⟩ := hW i (by omega)
    refine ⟨w1, w2, w3, .inr (w4.elim (fun z => ?_) id), w5⟩
    obtain ⟨z1, z2⟩ := z
    exact absurd hm (by unfold mkf; rw [if_neg (by omega), show e - 1 = i by omega, if_pos z1]; decide)
theorem rD.addC (hm0 : mkf e fi = 0) (he : e < 40) (hW : WD e ln pl so be im fi) {a l : Nat} {le' : Nat → Int32} (ha : a ≤ 400) (h1 : 1 ≤ l) (h9 : l ≤ 9) : rD (nI (e + 1), le', upd ln e (nI l), upd pl e (nI a), upd so e 1, upd be e (-1), upd im e 0, upd fi e 0) (nI (e + 1), 1, nI a, upd pl e (nI a), upd so e 1, upd be e (-1), upd im e 0, upd fi e 0, le', upd ln e (nI l)) := by
  have hm : mkf (e + 1) (upd fi e 0) = 1 := by
    unfold mkf; rw [if_neg (by omega), Nat.add_sub_cancel, upd_at, if_pos rfl, if_pos rfl]
  have h := rD.same (e := e + 1) (bg := nI a) (le := le') (by omega) (fun _ => by rw [Nat.add_sub_cancel, upd_at, if_pos rfl]) (WD.add hm0 hW (x := 1) (v := 0) ha (fun z => absurd z (by decide)) (.inl rfl) h1 h9)
  rw [hm] at h
  exact h
theorem rD.addP (hm0 : mkf e fi = 0) (he : e < 40) (hW : WD e ln pl so be im fi) {a l : Nat} {x b : Int32} {le' : Nat → Int32} (ha : a ≤ 400) (hx : x = 3 → a < 400) (h1 : 1 ≤ l) (h9 : l ≤ 9) : rD (nI (e + 1), le', upd ln e (nI l), upd pl e (nI a), upd so e x, upd be e (-1), upd im e 0, upd fi e 1) (nI (e + 1), 0, b, upd pl e (nI a), upd so e x, upd be e (-1), upd im e 0, upd fi e 1, le', upd ln e (nI l)) := by
  have hm : mkf (e + 1) (upd fi e 1) = 0 := by
    unfold mkf; rw [if_neg (by omega), Nat.add_sub_cancel, upd_at, if_pos rfl, if_neg (by decide)]
  have h := rD.same (e := e + 1) (bg := b) (le := le') (by omega) (fun z => absurd (z.symm.trans hm) (by decide)) (WD.add hm0 hW (x := x) (v := 1) ha hx (.inr rfl) h1 h9)
  rw [hm] at h
  exact h
theorem vc_ok {x : Int32} (h : okc x) : vp_nar .char x = x := by
  obtain ⟨m, hm, rfl⟩ := okc_n h
  exact h
/-- a name goes into the dictionary: the same letters on both sides -/
theorem add_loop {l u : Nat} {A B : Int32} {f : Nat → Int32} (he : e < 40) (hl : l ≤ 9) (hu : u + l ≤ 200) (hc : ∀ i, okc (f i)) : ∀ (r j n m : Nat) (le : Nat → Int32), j + r = l → r < n → r < m → ∃ le' : Nat → Int32, (∀ x2 x3 : Int32, b_X2_add_18 n x2 x3 (nI j) (nI e, le, ln, pl, so, be, im, fi) (A, B, nI u, nI l, f) = some (nI (e + 1), le', upd ln e (nI l), upd pl e x3, upd so e x2, upd be e (-1), upd im e 0, upd fi e (if x2 = 1 then 0 else 1))) ∧ (∀ (y1 : Int32) (s : mS) (y : mY) (mk bg : Int32) (pl so be im fi ln : Nat → Int32) (k : mK), b_X12_begins_153 m y1 (nI j) (A, B, nI u, nI l, f) s y (nI e, mk, bg, pl, so, be, im, fi, le, ln) k = if y1 = 53 then b_X12_begins_222 y1 1 (A, B, nI u, nI l, f) s y (nI e + 1, mk, y.1, pl, so, be, im, fi, le', ln) k else b_X12_begins_222 y1 0 (A, B, nI u, nI l, f) s y (nI e + 1, mk, y.1, pl, so, be, im, fi, le', ln) k) := by
  intro r
  induction r with
  | zero =>
    intro j n m le h1 h2 h3
    obtain ⟨n, rfl⟩ : ∃ z, n = z + 1 := ⟨n - 1, by omega⟩
    obtain ⟨m, rfl⟩ : ∃ z, m = z + 1 := ⟨m - 1, by omega⟩
    obtain rfl : j = l := by omega
    refine ⟨le, fun x2 x3 => ?_, fun y1 s y mk bg pl so be im fi ln k => ?_⟩
    · unfold b_X2_add_18 b_X2_add_125
      rw [if_pos (show nI j ≤ nI j from Int32.le_refl _)]
      simp only [cl_nI (show e < 2 ^ 31 by omega), nI_lt0 (show e < 2 ^ 31 by omega), show (40 ≤ e) = False from eq_false (by omega), or_self, not_false_eq_true, ck_T, vb0, vb1, nI_1]
      by_cases q : x2 = 1
      · rw [if_pos q, if_pos q]
      · rw [if_neg q, if_neg q]
    · unfold b_X12_begins_153
      rw [if_pos (show nI j ≤ nI j from Int32.le_refl _)]
  | succ r ih =>
    intro j n m le h1 h2 h3
    obtain ⟨n, rfl⟩ : ∃ z, n = z + 1 := ⟨n - 1, by omega⟩
    obtain ⟨m, rfl⟩ : ∃ z, m = z + 1 := ⟨m - 1, by omega⟩
    obtain ⟨le', g1, g2⟩ := ih (j + 1) n m (upd le (e * 9 + j) (f (u + j))) (by omega) (by omega) (by omega)
    refine ⟨le', fun x2 x3 => ?_, fun y1 s y mk bg pl so be im fi ln k => ?_⟩
    · unfold b_X2_add_18
      show (if nI l ≤ nI j then _ else (f_X9_nameAt (nI j) (A, B, nI u, nI l, f)).bind fun u14 => ck (¬ (nI e * 9 + nI j < 0 ∨ 360 ≤ (nI e * 9 + nI j).toNatClampNeg)) (b_X2_add_18 n x2 x3 (nI j + 1) (nI e, upd le (nI e * 9 + nI j).toNatClampNeg (vp_nar .char u14), ln, pl, so, be, im, fi) (A, B, nI u, nI l, f))) = _
      rw [if_neg (nI_ge (by omega) (by omega)), at_name hu (by omega) hc, sb, t9, nI_add, ck_t (in_ok (by omega) (by omega)), nI_clamp (by omega), vc_ok (hc _), nI_1]
      exact g1 x2 x3
    · unfold b_X12_begins_153
      show (if nI l ≤ nI j then _ else ck (¬ (nI u + nI j < 0 ∨ 200 ≤ (nI u + nI j).toNatClampNeg)) (ck (¬ (9 * nI e + nI j < 0 ∨ 360 ≤ (9 * nI e + nI j).toNatClampNeg)) (b_X12_begins_153 m y1 (nI j + 1) (A, B, nI u, nI l, f) s y (nI e, mk, bg, pl, so, be, im, fi, upd le (9 * nI e + nI j).toNatClampNeg (f (nI u + nI j).toNatClampNeg), ln) k))) = _
      rw [if_neg (nI_ge (by omega) (by omega)), t9', nI_add, nI_add, ck_t (in_ok (by omega) (by omega)), ck_t (in_ok (by omega) (by omega)), nI_clamp (by omega), nI_clamp (by omega), nI_1, show 9 * e = e * 9 by omega]
      exact g2 y1 s y mk bg pl so be im fi ln k
theorem add_eq {l u : Nat} {A B : Int32} {f : Nat → Int32} (he : e < 40) (hl : l ≤ 9) (hu : u + l ≤ 200) (hc : ∀ i, okc (f i)) (le : Nat → Int32) : ∃ le' : Nat → Int32, (∀ x2 x3 : Int32, f_X2_add x2 x3 (nI e, le, ln, pl, so, be, im, fi) (A, B, nI u, nI l, f) = some (nI (e + 1), le', upd ln e (nI l), upd pl e x3, upd so e x2, upd be e (-1), upd im e 0, upd fi e (if x2 = 1 then 0 else 1))) ∧ (∀ (y1 : Int32) (s : mS) (y : mY) (mk bg : Int32) (pl so be im fi ln : Nat → Int32) (k : mK), b_X12_begins_153 FU y1 0 (A, B, nI u, nI l, f) s y (nI e, mk, bg, pl, so, be, im, fi, le, ln) k = if y1 = 53 then b_X12_begins_222 y1 1 (A, B, nI u, nI l, f) s y (nI e + 1, mk, y.1, pl, so, be, im, fi, le', ln) k else b_X12_begins_222 y1 0 (A, B, nI u, nI l, f) s y (nI e + 1, mk, y.1, pl, so, be, im, fi, le', ln) k) := by
  obtain ⟨le', g1, g2⟩ := add_loop (e := e) (ln := ln) (pl := pl) (so := so) (be := be) (im := im) (fi := fi) (A := A) (B := B) (f := f) he hl hu hc l 0 FU FU le (by omega) (by rw [FU_s]; omega) (by rw [FU_s]; omega)
  refine ⟨le', fun x2 x3 => ?_, g2⟩
  rw [← g1 x2 x3]
  unfold f_X2_add f_X2_isFull f_X9_nameIsTooLong
  rw [if_neg (show ¬ (nI e, le, ln, pl, so, be, im, fi).1 = 40 from ne_40 (n := e) (by omega) (by omega)), sb, if_pos (show (0 : Int32) = 0 from rfl), if_pos (show (A, B, nI u, nI l, f).2.2.2.1 ≤ 9 from le'_9 hl), sb, if_pos (show (0 : Int32) = 0 from rfl)]
  rfl
theorem imm_tab : ∀ j, j < 82 → (wV_immediate.getD j 0 = 0 ∨ wV_immediate.getD j 0 = 1) ∧ f_X12_isImmediate (nI j) (0, 0, 0, fun _ => 0, fun _ => 0, fun _ => 0, fun _ => 0, fun _ => 0, fun _ => 0, fun _ => 0) = some (wV_immediate.getD j 0) := by decide +kernel
/-- is a word carried out while others are compiled? -/
theorem imm_eq {j : Nat} (hj : j < 82 + e) (he : e ≤ 40) (hW : WD e ln pl so be im fi) : ∃ v : Int32, (v = 0 ∨ v = 1) ∧ f_X2_isImmediate (nI j) (nI e, le, ln, pl, so, be, im, fi) = some v ∧ f_X12_isImmediate (nI j) (nI e, mkf e fi, bg, pl, so, be, im, fi, le, ln) = some v := by
  by_cases q : j < 82
  · obtain ⟨t1, t2⟩ := imm_tab j q
    refine ⟨wV_immediate.getD j 0, t1, ?_, ?_⟩
    · unfold f_X2_isImmediate
      rw [if_neg (nle_82 q), if_neg (nI_pos (by omega)), ck_t (in_ok q (by omega)), nI_clamp (by omega)]
      rcases t1 with z | z
      · rw [z, if_pos rfl]
      · rw [z, if_neg (by decide)]
    · rw [← t2]
      unfold f_X12_isImmediate
      rw [if_pos (lt'_82 q), if_pos (lt'_82 q)]
      rfl
  · obtain ⟨i, rfl⟩ : ∃ i, j = 82 + i := ⟨j - 82, by omega⟩
    obtain ⟨_, _, h3, _, _⟩ := hW i (by omega)
    have e1 : nI (82 + i) - 82 = nI i := by
      rw [show nI (82 + i) - 82 = nI (82 + i) - nI 82 from rfl, nI_subN (by omega), show 82 + i - 82 = i by omega]
    refine ⟨im i, h3, ?_, ?_⟩
    · unfold f_X2_isImmediate f_X2_isWord
      rw [if_pos (gle_82 (by omega) (by omega)), if_neg (nI_pos (by omega)), e1, ck_t (in_ok (by omega) (by omega)), nI_clamp (by omega), if_neg (show ¬ 82 + (nI e, le, ln, pl, so, be, im, fi).1 ≤ nI (82 + i) from by rw [show 82 + (nI e, le, ln, pl, so, be, im, fi).1 = nI (82 + e) from a82 e]; exact nI_ge (by omega) (by omega)), sb, if_neg (show ¬ (1 : Int32) = 0 by decide)]
      show (if im i = 0 then some 0 else some 1) = some (im i)
      rcases h3 with z | z
      · rw [z, if_pos rfl]
      · rw [z, if_neg (by decide)]
    · unfold f_X12_isImmediate
      rw [if_neg (nlt'_82 (by omega) (by omega)), e1, ck_t (in_ok (by omega) (by omega)), nI_clamp (by omega)]
      exact ck_t h3
end MADE
/-! words 54, 58, 59, 63, 64, 66 to 68 -/
section DEFS
variable {t : tT} {s : tR} {y : tY} {d : tD} {q : tP} {k : tK} {r : tR} {c : tC} {o : tO} {T : mT} {S : mS} {R : mR} {C : mC} {Y : mY} {D : mD} {K : mK} {Q : mP} {O : mO}

theorem wd_54 (hR : REL t s y d q k r c o T S R C Y D K Q O) (al st ca ov an th lf st' ca' re en : Int32) : ST (f_X3_carryOutNext t s y d q k r c o (al, st, ca, 54, ov, an)) (f_X12_done 54 T S R C Y D K Q O (th, lf, st', ca', -1, re, en)) al (st + 1) ca ov an th lf st' ca' re en := by
  obtain ⟨hT, ⟨n, f, F, hn, rfl, rfl, hf⟩, hY, hD, hQ, hK, ⟨p, h, G, hp, rfl, rfl, hh⟩, hC, hO⟩ := hR
  rw [dn_ge (by decide) (by decide) hC]
  obtain ⟨rfl, a, z, ha, rfl⟩ := hY
  obtain ⟨e, bg, le, ln, pl, so, be, im, fi, he, rfl, rfl, hbg, hW⟩ := hD
  obtain ⟨rfl, g, os, op, hg, rfl, hq⟩ := hQ
  obtain ⟨rfl, hk⟩ := hK
  by_cases hk0 : K = 0
  · subst hk0
    simp (maxSteps := 500000) (decide := true) (disch := omega) only [f_X3_carryOutNext, f_X3_askFirst, b_X3_askFirst_20, b_X3_askFirst_40, Int32.reduceToNatClampNeg, gp_54, fc_54, tk_54, wi_54, od_54, sw_54, b_X12_done_52, b_X12_done_69, f_X12_isStarred, b_X12_isStarred_42, f_X12_wants, f_X12_wantsStore, b_X12_wantsStore_27, L_0, L_1, L_2, L_3, nlt30, cl_nI, nI_lt0, nI_sub1, nI_sub2, nI_sub3, nI_add1, nI_add2, e_30, Nat.sub_sub, Nat.reduceAdd, hf, hh, sb, ck_T, ckn, not_false_eq_true, false_or, Nat.not_le, ite_self, ↓reduceIte, s_from0, s_from1, s_from2, s_drop1, s_drop2, s_put, s_putF, s_room1, s_room1F, s_take, s_rep, s_raise1, s_raise2, w_push, w_pop, f_X4_compileInto, f_X4_endColon, f_X2_finishLatest, f_X2_latestNumber, f_X8_dropOneUnless, s_both, s_bothF, s_app, s_appF, vb0, vb1, U_0, nz, f_X12_makes, w_append, E400, U_0, nz, vb0, vb1]
    refine ST.m1 ⟨?_, rS.mk2 (by omega) (by omega) ?_, ?_, ?_, ?_, ?_, rS.mk2 (by omega) (by omega) ?_, ?_, ?_⟩
    all_goals try (first | exact hT | exact rT.mk hta (by omega) (by omega) htc | exact hY | exact rY.mk2 (by omega) rfl (by omega) | exact hD | exact rD.same he hbg hW | exact rD.same0 hm he hbg hW | exact rD.imm he hbg hW | exact rD.fin he hW | exact rD.addC hm (by omega) hW (by omega) (by omega) (by omega) | exact rD.addP hm (by omega) hW (by omega) (by omega) (by omega) (by omega) | exact rD.addP hm (by omega) hW (by omega) (fun z => absurd z (by decide)) (by omega) (by omega) | exact hQ | exact rQ.same hg hq | exact hK | exact ⟨rfl, hk⟩ | exact ⟨rfl, .inl rfl⟩ | exact ⟨rfl, .inr ⟨rfl, rfl⟩⟩ | exact ⟨rfl, .inr ⟨rfl, hm1⟩⟩ | (rw [hm] at hK; exact hK) | exact hC | exact rC.same hl hc | exact rC.catc (by omega) hc (by omega) (by omega) | exact hO)
    all_goals (intro i hi; try simp only [upd_at])
    all_goals repeat' split
    all_goals first | rfl | exact hf _ (by omega) | exact hh _ (by omega) | (exfalso; omega) | exact absurd trivial (by assumption) | (simp (disch := omega) only [hf, hh]; done)
  · have hm1 : mkf e fi = 1 := hk.elim (fun z => absurd z hk0) And.right
    have he0 : ¬ e = 0 := by have := mkf_pos hm1; omega
    by_cases hg0 : g = 0
    · subst hg0
      by_cases h5 : a ≤ 399
      · simp (maxSteps := 500000) (decide := true) (disch := omega) only [f_X3_carryOutNext, f_X3_askFirst, b_X3_askFirst_20, b_X3_askFirst_40, Int32.reduceToNatClampNeg, gp_54, fc_54, tk_54, wi_54, od_54, sw_54, b_X12_done_52, b_X12_done_69, f_X12_isStarred, b_X12_isStarred_42, f_X12_wants, f_X12_wantsStore, b_X12_wantsStore_27, L_0, L_1, L_2, L_3, nlt30, cl_nI, nI_lt0, nI_sub1, nI_sub2, nI_sub3, nI_add1, nI_add2, e_30, Nat.sub_sub, Nat.reduceAdd, hf, hh, sb, ck_T, ckn, not_false_eq_true, false_or, Nat.not_le, ite_self, ↓reduceIte, s_from0, s_from1, s_from2, s_drop1, s_drop2, s_put, s_putF, s_room1, s_room1F, s_take, s_rep, s_raise1, s_raise2, w_push, w_pop, f_X4_compileInto, f_X4_endColon, f_X2_finishLatest, f_X2_latestNumber, f_X8_dropOneUnless, s_both, s_bothF, s_app, s_appF, vb0, vb1, U_0, nz, f_X12_makes, w_append, E400, U_0, nz, vb0, vb1, hk0, he0, h5]
        refine ST.m1 ⟨?_, rS.mk2 (by omega) (by omega) ?_, ?_, ?_, ?_, ?_, rS.mk2 (by omega) (by omega) ?_, ?_, ?_⟩
        all_goals try (first | exact hT | exact rT.mk hta (by omega) (by omega) htc | exact hY | exact rY.mk2 (by omega) rfl (by omega) | exact hD | exact rD.same he hbg hW | exact rD.same0 hm he hbg hW | exact rD.imm he hbg hW | exact rD.fin he hW | exact rD.addC hm (by omega) hW (by omega) (by omega) (by omega) | exact rD.addP hm (by omega) hW (by omega) (by omega) (by omega) (by omega) | exact rD.addP hm (by omega) hW (by omega) (fun z => absurd z (by decide)) (by omega) (by omega) | exact hQ | exact rQ.same hg hq | exact hK | exact ⟨rfl, hk⟩ | exact ⟨rfl, .inl rfl⟩ | exact ⟨rfl, .inr ⟨rfl, rfl⟩⟩ | exact ⟨rfl, .inr ⟨rfl, hm1⟩⟩ | (rw [hm] at hK; exact hK) | exact hC | exact rC.same hl hc | exact rC.catc (by omega) hc (by omega) (by omega) | exact hO)
        all_goals (intro i hi; try simp only [upd_at])
        all_goals repeat' split
        all_goals first | rfl | exact hf _ (by omega) | exact hh _ (by omega) | (exfalso; omega) | exact absurd trivial (by assumption) | (simp (disch := omega) only [hf, hh]; done)
      · simp (maxSteps := 500000) (decide := true) (disch := omega) only [f_X3_carryOutNext, f_X3_askFirst, b_X3_askFirst_20, b_X3_askFirst_40, Int32.reduceToNatClampNeg, gp_54, fc_54, tk_54, wi_54, od_54, sw_54, b_X12_done_52, b_X12_done_69, f_X12_isStarred, b_X12_isStarred_42, f_X12_wants, f_X12_wantsStore, b_X12_wantsStore_27, L_0, L_1, L_2, L_3, nlt30, cl_nI, nI_lt0, nI_sub1, nI_sub2, nI_sub3, nI_add1, nI_add2, e_30, Nat.sub_sub, Nat.reduceAdd, hf, hh, sb, ck_T, ckn, not_false_eq_true, false_or, Nat.not_le, ite_self, ↓reduceIte, s_from0, s_from1, s_from2, s_drop1, s_drop2, s_put, s_putF, s_room1, s_room1F, s_take, s_rep, s_raise1, s_raise2, w_push, w_pop, f_X4_compileInto, f_X4_endColon, f_X2_finishLatest, f_X2_latestNumber, f_X8_dropOneUnless, s_both, s_bothF, s_app, s_appF, vb0, vb1, U_0, nz, f_X12_makes, w_append, E400, U_0, nz, vb0, vb1, hk0, he0, h5]
        refine ST.m1 ⟨?_, rS.mk2 (by omega) (by omega) ?_, ?_, ?_, ?_, ?_, rS.mk2 (by omega) (by omega) ?_, ?_, ?_⟩
        all_goals try (first | exact hT | exact rT.mk hta (by omega) (by omega) htc | exact hY | exact rY.mk2 (by omega) rfl (by omega) | exact hD | exact rD.same he hbg hW | exact rD.same0 hm he hbg hW | exact rD.imm he hbg hW | exact rD.fin he hW | exact rD.addC hm (by omega) hW (by omega) (by omega) (by omega) | exact rD.addP hm (by omega) hW (by omega) (by omega) (by omega) (by omega) | exact rD.addP hm (by omega) hW (by omega) (fun z => absurd z (by decide)) (by omega) (by omega) | exact hQ | exact rQ.same hg hq | exact hK | exact ⟨rfl, hk⟩ | exact ⟨rfl, .inl rfl⟩ | exact ⟨rfl, .inr ⟨rfl, rfl⟩⟩ | exact ⟨rfl, .inr ⟨rfl, hm1⟩⟩ | (rw [hm] at hK; exact hK) | exact hC | exact rC.same hl hc | exact rC.catc (by omega) hc (by omega) (by omega) | exact hO)
        all_goals (intro i hi; try simp only [upd_at])
        all_goals repeat' split
        all_goals first | rfl | exact hf _ (by omega) | exact hh _ (by omega) | (exfalso; omega) | exact absurd trivial (by assumption) | (simp (disch := omega) only [hf, hh]; done)
    · simp (maxSteps := 500000) (decide := true) (disch := omega) only [f_X3_carryOutNext, f_X3_askFirst, b_X3_askFirst_20, b_X3_askFirst_40, Int32.reduceToNatClampNeg, gp_54, fc_54, tk_54, wi_54, od_54, sw_54, b_X12_done_52, b_X12_done_69, f_X12_isStarred, b_X12_isStarred_42, f_X12_wants, f_X12_wantsStore, b_X12_wantsStore_27, L_0, L_1, L_2, L_3, nlt30, cl_nI, nI_lt0, nI_sub1, nI_sub2, nI_sub3, nI_add1, nI_add2, e_30, Nat.sub_sub, Nat.reduceAdd, hf, hh, sb, ck_T, ckn, not_false_eq_true, false_or, Nat.not_le, ite_self, ↓reduceIte, s_from0, s_from1, s_from2, s_drop1, s_drop2, s_put, s_putF, s_room1, s_room1F, s_take, s_rep, s_raise1, s_raise2, w_push, w_pop, f_X4_compileInto, f_X4_endColon, f_X2_finishLatest, f_X2_latestNumber, f_X8_dropOneUnless, s_both, s_bothF, s_app, s_appF, vb0, vb1, U_0, nz, f_X12_makes, w_append, E400, U_0, nz, vb0, vb1, hk0, he0, hg0]
      refine ST.m1 ⟨?_, rS.mk2 (by omega) (by omega) ?_, ?_, ?_, ?_, ?_, rS.mk2 (by omega) (by omega) ?_, ?_, ?_⟩
      all_goals try (first | exact hT | exact rT.mk hta (by omega) (by omega) htc | exact hY | exact rY.mk2 (by omega) rfl (by omega) | exact hD | exact rD.same he hbg hW | exact rD.same0 hm he hbg hW | exact rD.imm he hbg hW | exact rD.fin he hW | exact rD.addC hm (by omega) hW (by omega) (by omega) (by omega) | exact rD.addP hm (by omega) hW (by omega) (by omega) (by omega) (by omega) | exact rD.addP hm (by omega) hW (by omega) (fun z => absurd z (by decide)) (by omega) (by omega) | exact hQ | exact rQ.same hg hq | exact hK | exact ⟨rfl, hk⟩ | exact ⟨rfl, .inl rfl⟩ | exact ⟨rfl, .inr ⟨rfl, rfl⟩⟩ | exact ⟨rfl, .inr ⟨rfl, hm1⟩⟩ | (rw [hm] at hK; exact hK) | exact hC | exact rC.same hl hc | exact rC.catc (by omega) hc (by omega) (by omega) | exact hO)
      all_goals (intro i hi; try simp only [upd_at])
      all_goals repeat' split
      all_goals first | rfl | exact hf _ (by omega) | exact hh _ (by omega) | (exfalso; omega) | exact absurd trivial (by assumption) | (simp (disch := omega) only [hf, hh]; done)
theorem wd_58 (hR : REL t s y d q k r c o T S R C Y D K Q O) (al st ca ov an th lf st' ca' re en : Int32) : ST (f_X3_carryOutNext t s y d q k r c o (al, st, ca, 58, ov, an)) (f_X12_done 58 T S R C Y D K Q O (th, lf, st', ca', -1, re, en)) al (st + 1) ca ov an th lf st' ca' re en := by
  obtain ⟨hT, ⟨n, f, F, hn, rfl, rfl, hf⟩, hY, hD, hQ, hK, ⟨p, h, G, hp, rfl, rfl, hh⟩, hC, hO⟩ := hR
  rw [dn_ge (by decide) (by decide) hC]
  obtain ⟨rfl, a, z, ha, rfl⟩ := hY
  obtain ⟨rfl, hk⟩ := hK
  by_cases hk0 : K = 0
  · subst hk0
    simp (maxSteps := 500000) (decide := true) (disch := omega) only [f_X3_carryOutNext, f_X3_askFirst, b_X3_askFirst_20, b_X3_askFirst_40, Int32.reduceToNatClampNeg, gp_58, fc_58, tk_58, wi_58, od_58, sw_58, b_X12_done_52, b_X12_done_69, f_X12_isStarred, b_X12_isStarred_42, f_X12_wants, f_X12_wantsStore, b_X12_wantsStore_27, L_0, L_1, L_2, L_3, nlt30, cl_nI, nI_lt0, nI_sub1, nI_sub2, nI_sub3, nI_add1, nI_add2, e_30, Nat.sub_sub, Nat.reduceAdd, hf, hh, sb, ck_T, ckn, not_false_eq_true, false_or, Nat.not_le, ite_self, ↓reduceIte, s_from0, s_from1, s_from2, s_drop1, s_drop2, s_put, s_putF, s_room1, s_room1F, s_take, s_rep, s_raise1, s_raise2, w_push, w_pop, f_X4_compileInto, f_X4_endColon, f_X2_finishLatest, f_X2_latestNumber, f_X8_dropOneUnless, s_both, s_bothF, s_app, s_appF, vb0, vb1, U_0, nz, f_X12_makes, w_append, E400, U_0, nz, vb0, vb1]
    refine ST.m1 ⟨?_, rS.mk2 (by omega) (by omega) ?_, ?_, ?_, ?_, ?_, rS.mk2 (by omega) (by omega) ?_, ?_, ?_⟩
    all_goals try (first | exact hT | exact rT.mk hta (by omega) (by omega) htc | exact hY | exact rY.mk2 (by omega) rfl (by omega) | exact hD | exact rD.same he hbg hW | exact rD.same0 hm he hbg hW | exact rD.imm he hbg hW | exact rD.fin he hW | exact rD.addC hm (by omega) hW (by omega) (by omega) (by omega) | exact rD.addP hm (by omega) hW (by omega) (by omega) (by omega) (by omega) | exact rD.addP hm (by omega) hW (by omega) (fun z => absurd z (by decide)) (by omega) (by omega) | exact hQ | exact rQ.same hg hq | exact hK | exact ⟨rfl, hk⟩ | exact ⟨rfl, .inl rfl⟩ | exact ⟨rfl, .inr ⟨rfl, rfl⟩⟩ | exact ⟨rfl, .inr ⟨rfl, hm1⟩⟩ | (rw [hm] at hK; exact hK) | exact hC | exact rC.same hl hc | exact rC.catc (by omega) hc (by omega) (by omega) | exact hO)
    all_goals (intro i hi; try simp only [upd_at])
    all_goals repeat' split
    all_goals first | rfl | exact hf _ (by omega) | exact hh _ (by omega) | (exfalso; omega) | exact absurd trivial (by assumption) | (simp (disch := omega) only [hf, hh]; done)
  · by_cases h5 : a ≤ 399
    · simp (maxSteps := 500000) (decide := true) (disch := omega) only [f_X3_carryOutNext, f_X3_askFirst, b_X3_askFirst_20, b_X3_askFirst_40, Int32.reduceToNatClampNeg, gp_58, fc_58, tk_58, wi_58, od_58, sw_58, b_X12_done_52, b_X12_done_69, f_X12_isStarred, b_X12_isStarred_42, f_X12_wants, f_X12_wantsStore, b_X12_wantsStore_27, L_0, L_1, L_2, L_3, nlt30, cl_nI, nI_lt0, nI_sub1, nI_sub2, nI_sub3, nI_add1, nI_add2, e_30, Nat.sub_sub, Nat.reduceAdd, hf, hh, sb, ck_T, ckn, not_false_eq_true, false_or, Nat.not_le, ite_self, ↓reduceIte, s_from0, s_from1, s_from2, s_drop1, s_drop2, s_put, s_putF, s_room1, s_room1F, s_take, s_rep, s_raise1, s_raise2, w_push, w_pop, f_X4_compileInto, f_X4_endColon, f_X2_finishLatest, f_X2_latestNumber, f_X8_dropOneUnless, s_both, s_bothF, s_app, s_appF, vb0, vb1, U_0, nz, f_X12_makes, w_append, E400, U_0, nz, vb0, vb1, hk0, h5]
      refine ST.m1 ⟨?_, rS.mk2 (by omega) (by omega) ?_, ?_, ?_, ?_, ?_, rS.mk2 (by omega) (by omega) ?_, ?_, ?_⟩
      all_goals try (first | exact hT | exact rT.mk hta (by omega) (by omega) htc | exact hY | exact rY.mk2 (by omega) rfl (by omega) | exact hD | exact rD.same he hbg hW | exact rD.same0 hm he hbg hW | exact rD.imm he hbg hW | exact rD.fin he hW | exact rD.addC hm (by omega) hW (by omega) (by omega) (by omega) | exact rD.addP hm (by omega) hW (by omega) (by omega) (by omega) (by omega) | exact rD.addP hm (by omega) hW (by omega) (fun z => absurd z (by decide)) (by omega) (by omega) | exact hQ | exact rQ.same hg hq | exact hK | exact ⟨rfl, hk⟩ | exact ⟨rfl, .inl rfl⟩ | exact ⟨rfl, .inr ⟨rfl, rfl⟩⟩ | exact ⟨rfl, .inr ⟨rfl, hm1⟩⟩ | (rw [hm] at hK; exact hK) | exact hC | exact rC.same hl hc | exact rC.catc (by omega) hc (by omega) (by omega) | exact hO)
      all_goals (intro i hi; try simp only [upd_at])
      all_goals repeat' split
      all_goals first | rfl | exact hf _ (by omega) | exact hh _ (by omega) | (exfalso; omega) | exact absurd trivial (by assumption) | (simp (disch := omega) only [hf, hh]; done)
    · simp (maxSteps := 500000) (decide := true) (disch := omega) only [f_X3_carryOutNext, f_X3_askFirst, b_X3_askFirst_20, b_X3_askFirst_40, Int32.reduceToNatClampNeg, gp_58, fc_58, tk_58, wi_58, od_58, sw_58, b_X12_done_52, b_X12_done_69, f_X12_isStarred, b_X12_isStarred_42, f_X12_wants, f_X12_wantsStore, b_X12_wantsStore_27, L_0, L_1, L_2, L_3, nlt30, cl_nI, nI_lt0, nI_sub1, nI_sub2, nI_sub3, nI_add1, nI_add2, e_30, Nat.sub_sub, Nat.reduceAdd, hf, hh, sb, ck_T, ckn, not_false_eq_true, false_or, Nat.not_le, ite_self, ↓reduceIte, s_from0, s_from1, s_from2, s_drop1, s_drop2, s_put, s_putF, s_room1, s_room1F, s_take, s_rep, s_raise1, s_raise2, w_push, w_pop, f_X4_compileInto, f_X4_endColon, f_X2_finishLatest, f_X2_latestNumber, f_X8_dropOneUnless, s_both, s_bothF, s_app, s_appF, vb0, vb1, U_0, nz, f_X12_makes, w_append, E400, U_0, nz, vb0, vb1, hk0, h5]
      refine ST.m1 ⟨?_, rS.mk2 (by omega) (by omega) ?_, ?_, ?_, ?_, ?_, rS.mk2 (by omega) (by omega) ?_, ?_, ?_⟩
      all_goals try (first | exact hT | exact rT.mk hta (by omega) (by omega) htc | exact hY | exact rY.mk2 (by omega) rfl (by omega) | exact hD | exact rD.same he hbg hW | exact rD.same0 hm he hbg hW | exact rD.imm he hbg hW | exact rD.fin he hW | exact rD.addC hm (by omega) hW (by omega) (by omega) (by omega) | exact rD.addP hm (by omega) hW (by omega) (by omega) (by omega) (by omega) | exact rD.addP hm (by omega) hW (by omega) (fun z => absurd z (by decide)) (by omega) (by omega) | exact hQ | exact rQ.same hg hq | exact hK | exact ⟨rfl, hk⟩ | exact ⟨rfl, .inl rfl⟩ | exact ⟨rfl, .inr ⟨rfl, rfl⟩⟩ | exact ⟨rfl, .inr ⟨rfl, hm1⟩⟩ | (rw [hm] at hK; exact hK) | exact hC | exact rC.same hl hc | exact rC.catc (by omega) hc (by omega) (by omega) | exact hO)
      all_goals (intro i hi; try simp only [upd_at])
      all_goals repeat' split
      all_goals first | rfl | exact hf _ (by omega) | exact hh _ (by omega) | (exfalso; omega) | exact absurd trivial (by assumption) | (simp (disch := omega) only [hf, hh]; done)
theorem wd_59 (hR : REL t s y d q k r c o T S R C Y D K Q O) (al st ca ov an th lf st' ca' re en : Int32) : ST (f_X3_carryOutNext t s y d q k r c o (al, st, ca, 59, ov, an)) (f_X12_done 59 T S R C Y D K Q O (th, lf, st', ca', -1, re, en)) al (st + 1) ca ov an th lf st' ca' re en := by
  obtain ⟨hT, ⟨n, f, F, hn, rfl, rfl, hf⟩, hY, hD, hQ, hK, ⟨p, h, G, hp, rfl, rfl, hh⟩, hC, hO⟩ := hR
  rw [dn_ge (by decide) (by decide) hC]
  obtain ⟨e, bg, le, ln, pl, so, be, im, fi, he, rfl, rfl, hbg, hW⟩ := hD
  by_cases he0 : e = 0
  · subst he0
    simp (maxSteps := 500000) (decide := true) (disch := omega) only [f_X3_carryOutNext, f_X3_askFirst, b_X3_askFirst_20, b_X3_askFirst_40, Int32.reduceToNatClampNeg, gp_59, fc_59, tk_59, wi_59, od_59, sw_59, b_X12_done_52, b_X12_done_69, f_X12_isStarred, b_X12_isStarred_42, f_X12_wants, f_X12_wantsStore, b_X12_wantsStore_27, L_0, L_1, L_2, L_3, nlt30, cl_nI, nI_lt0, nI_sub1, nI_sub2, nI_sub3, nI_add1, nI_add2, e_30, Nat.sub_sub, Nat.reduceAdd, hf, hh, sb, ck_T, ckn, not_false_eq_true, false_or, Nat.not_le, ite_self, ↓reduceIte, s_from0, s_from1, s_from2, s_drop1, s_drop2, s_put, s_putF, s_room1, s_room1F, s_take, s_rep, s_raise1, s_raise2, w_push, w_pop, f_X4_make, f_X2_makeLatestImmediate, e_0, f_X12_makes, w_append, E400, U_0, nz, vb0, vb1]
    refine ST.m1 ⟨?_, rS.mk2 (by omega) (by omega) ?_, ?_, ?_, ?_, ?_, rS.mk2 (by omega) (by omega) ?_, ?_, ?_⟩
    all_goals try (first | exact hT | exact rT.mk hta (by omega) (by omega) htc | exact hY | exact rY.mk2 (by omega) rfl (by omega) | exact hD | exact rD.same he hbg hW | exact rD.same0 hm he hbg hW | exact rD.imm he hbg hW | exact rD.fin he hW | exact rD.addC hm (by omega) hW (by omega) (by omega) (by omega) | exact rD.addP hm (by omega) hW (by omega) (by omega) (by omega) (by omega) | exact rD.addP hm (by omega) hW (by omega) (fun z => absurd z (by decide)) (by omega) (by omega) | exact hQ | exact rQ.same hg hq | exact hK | exact ⟨rfl, hk⟩ | exact ⟨rfl, .inl rfl⟩ | exact ⟨rfl, .inr ⟨rfl, rfl⟩⟩ | exact ⟨rfl, .inr ⟨rfl, hm1⟩⟩ | (rw [hm] at hK; exact hK) | exact hC | exact rC.same hl hc | exact rC.catc (by omega) hc (by omega) (by omega) | exact hO)
    all_goals (intro i hi; try simp only [upd_at])
    all_goals repeat' split
    all_goals first | rfl | exact hf _ (by omega) | exact hh _ (by omega) | (exfalso; omega) | exact absurd trivial (by assumption) | (simp (disch := omega) only [hf, hh]; done)
  · simp (maxSteps := 500000) (decide := true) (disch := omega) only [f_X3_carryOutNext, f_X3_askFirst, b_X3_askFirst_20, b_X3_askFirst_40, Int32.reduceToNatClampNeg, gp_59, fc_59, tk_59, wi_59, od_59, sw_59, b_X12_done_52, b_X12_done_69, f_X12_isStarred, b_X12_isStarred_42, f_X12_wants, f_X12_wantsStore, b_X12_wantsStore_27, L_0, L_1, L_2, L_3, nlt30, cl_nI, nI_lt0, nI_sub1, nI_sub2, nI_sub3, nI_add1, nI_add2, e_30, Nat.sub_sub, Nat.reduceAdd, hf, hh, sb, ck_T, ckn, not_false_eq_true, false_or, Nat.not_le, ite_self, ↓reduceIte, s_from0, s_from1, s_from2, s_drop1, s_drop2, s_put, s_putF, s_room1, s_room1F, s_take, s_rep, s_raise1, s_raise2, w_push, w_pop, f_X4_make, f_X2_makeLatestImmediate, e_0, f_X12_makes, w_append, E400, U_0, nz, vb0, vb1, he0]
    refine ST.m1 ⟨?_, rS.mk2 (by omega) (by omega) ?_, ?_, ?_, ?_, ?_, rS.mk2 (by omega) (by omega) ?_, ?_, ?_⟩
    all_goals try (first | exact hT | exact rT.mk hta (by omega) (by omega) htc | exact hY | exact rY.mk2 (by omega) rfl (by omega) | exact hD | exact rD.same he hbg hW | exact rD.same0 hm he hbg hW | exact rD.imm he hbg hW | exact rD.fin he hW | exact rD.addC hm (by omega) hW (by omega) (by omega) (by omega) | exact rD.addP hm (by omega) hW (by omega) (by omega) (by omega) (by omega) | exact rD.addP hm (by omega) hW (by omega) (fun z => absurd z (by decide)) (by omega) (by omega) | exact hQ | exact rQ.same hg hq | exact hK | exact ⟨rfl, hk⟩ | exact ⟨rfl, .inl rfl⟩ | exact ⟨rfl, .inr ⟨rfl, rfl⟩⟩ | exact ⟨rfl, .inr ⟨rfl, hm1⟩⟩ | (rw [hm] at hK; exact hK) | exact hC | exact rC.same hl hc | exact rC.catc (by omega) hc (by omega) (by omega) | exact hO)
    all_goals (intro i hi; try simp only [upd_at])
    all_goals repeat' split
    all_goals first | rfl | exact hf _ (by omega) | exact hh _ (by omega) | (exfalso; omega) | exact absurd trivial (by assumption) | (simp (disch := omega) only [hf, hh]; done)
theorem wd_63 (hR : REL t s y d q k r c o T S R C Y D K Q O) (al st ca ov an th lf st' ca' re en : Int32) : ST (f_X3_carryOutNext t s y d q k r c o (al, st, ca, 63, ov, an)) (f_X12_done 63 T S R C Y D K Q O (th, lf, st', ca', -1, re, en)) al (st + 1) ca ov an th lf st' ca' re en := by
  obtain ⟨hT, ⟨n, f, F, hn, rfl, rfl, hf⟩, hY, hD, hQ, hK, ⟨p, h, G, hp, rfl, rfl, hh⟩, hC, hO⟩ := hR
  rw [dn_ge (by decide) (by decide) hC]
  obtain ⟨rfl, a, z, ha, rfl⟩ := hY
  obtain ⟨e, bg, le, ln, pl, so, be, im, fi, he, rfl, rfl, hbg, hW⟩ := hD
  by_cases h1 : 1 ≤ n
  · rcases pk_ix (f (n - 1)) (n := 82 + e) (by omega) with hx | hx | ⟨j, hj, hx⟩
    · simp (maxSteps := 500000) (decide := true) (disch := omega) only [f_X3_carryOutNext, f_X3_askFirst, b_X3_askFirst_20, b_X3_askFirst_40, Int32.reduceToNatClampNeg, gp_63, fc_63, tk_63, wi_63, od_63, sw_63, b_X12_done_52, b_X12_done_69, f_X12_isStarred, b_X12_isStarred_42, f_X12_wants, f_X12_wantsStore, b_X12_wantsStore_27, L_0, L_1, L_2, L_3, nlt30, cl_nI, nI_lt0, nI_sub1, nI_sub2, nI_sub3, nI_add1, nI_add2, e_30, Nat.sub_sub, Nat.reduceAdd, hf, hh, sb, ck_T, ckn, not_false_eq_true, false_or, Nat.not_le, ite_self, ↓reduceIte, s_from0, s_from1, s_from2, s_drop1, s_drop2, s_put, s_putF, s_room1, s_room1F, s_take, s_rep, s_raise1, s_raise2, w_push, w_pop, f_X4_make, f_X4_compile, f_X8_dropOneUnless, s_app, s_appF, f_X12_tells, b_X12_tells_18, b_X12_tells_23, b_X12_tells_36, b_X12_tells_72, b_X12_tells_105, b_X12_tells_119, b_X12_tells_131, b_X12_tells_143, b_X12_tells_198, b_X12_tells_214, b_X12_tells_226, b_X12_tells_258, b_X12_tells_262, b_X12_tells_263, b_X12_tells_292, b_X12_tells_310, b_X12_tells_335, b_X12_tells_347, f_X12_isWord, f_X2_isWord, a82, w_append, K1, K2, K3, LEn, a11, a21, h1, hx]
      refine ST.m1 ⟨?_, rS.mk2 (by omega) (by omega) ?_, ?_, ?_, ?_, ?_, rS.mk2 (by omega) (by omega) ?_, ?_, ?_⟩
      all_goals try (first | exact hT | exact rT.mk hta (by omega) (by omega) htc | exact hY | exact rY.mk2 (by omega) rfl (by omega) | exact hD | exact rD.same he hbg hW | exact rD.same0 hm he hbg hW | exact rD.imm he hbg hW | exact rD.fin he hW | exact rD.addC hm (by omega) hW (by omega) (by omega) (by omega) | exact rD.addP hm (by omega) hW (by omega) (by omega) (by omega) (by omega) | exact rD.addP hm (by omega) hW (by omega) (fun z => absurd z (by decide)) (by omega) (by omega) | exact hQ | exact rQ.same hg hq | exact hK | exact ⟨rfl, hk⟩ | exact ⟨rfl, .inl rfl⟩ | exact ⟨rfl, .inr ⟨rfl, rfl⟩⟩ | exact ⟨rfl, .inr ⟨rfl, hm1⟩⟩ | (rw [hm] at hK; exact hK) | exact hC | exact rC.same hl hc | exact rC.catc (by omega) hc (by omega) (by omega) | exact hO)
      all_goals (intro i hi; try simp only [upd_at])
      all_goals repeat' split
      all_goals first | rfl | exact hf _ (by omega) | exact hh _ (by omega) | (exfalso; omega) | exact absurd trivial (by assumption) | (simp (disch := omega) only [hf, hh]; done)
    · have hx1 : nI (82 + e) ≤ f (n - 1) := hx
      have hx0 := ge0N hx1 (by omega)
      simp (maxSteps := 500000) (decide := true) (disch := omega) only [f_X3_carryOutNext, f_X3_askFirst, b_X3_askFirst_20, b_X3_askFirst_40, Int32.reduceToNatClampNeg, gp_63, fc_63, tk_63, wi_63, od_63, sw_63, b_X12_done_52, b_X12_done_69, f_X12_isStarred, b_X12_isStarred_42, f_X12_wants, f_X12_wantsStore, b_X12_wantsStore_27, L_0, L_1, L_2, L_3, nlt30, cl_nI, nI_lt0, nI_sub1, nI_sub2, nI_sub3, nI_add1, nI_add2, e_30, Nat.sub_sub, Nat.reduceAdd, hf, hh, sb, ck_T, ckn, not_false_eq_true, false_or, Nat.not_le, ite_self, ↓reduceIte, s_from0, s_from1, s_from2, s_drop1, s_drop2, s_put, s_putF, s_room1, s_room1F, s_take, s_rep, s_raise1, s_raise2, w_push, w_pop, f_X4_make, f_X4_compile, f_X8_dropOneUnless, s_app, s_appF, f_X12_tells, b_X12_tells_18, b_X12_tells_23, b_X12_tells_36, b_X12_tells_72, b_X12_tells_105, b_X12_tells_119, b_X12_tells_131, b_X12_tells_143, b_X12_tells_198, b_X12_tells_214, b_X12_tells_226, b_X12_tells_258, b_X12_tells_262, b_X12_tells_263, b_X12_tells_292, b_X12_tells_310, b_X12_tells_335, b_X12_tells_347, f_X12_isWord, f_X2_isWord, a82, w_append, K1, K2, K3, LEn, a11, a21, h1, hx0, hx1]
      refine ST.m1 ⟨?_, rS.mk2 (by omega) (by omega) ?_, ?_, ?_, ?_, ?_, rS.mk2 (by omega) (by omega) ?_, ?_, ?_⟩
      all_goals try (first | exact hT | exact rT.mk hta (by omega) (by omega) htc | exact hY | exact rY.mk2 (by omega) rfl (by omega) | exact hD | exact rD.same he hbg hW | exact rD.same0 hm he hbg hW | exact rD.imm he hbg hW | exact rD.fin he hW | exact rD.addC hm (by omega) hW (by omega) (by omega) (by omega) | exact rD.addP hm (by omega) hW (by omega) (by omega) (by omega) (by omega) | exact rD.addP hm (by omega) hW (by omega) (fun z => absurd z (by decide)) (by omega) (by omega) | exact hQ | exact rQ.same hg hq | exact hK | exact ⟨rfl, hk⟩ | exact ⟨rfl, .inl rfl⟩ | exact ⟨rfl, .inr ⟨rfl, rfl⟩⟩ | exact ⟨rfl, .inr ⟨rfl, hm1⟩⟩ | (rw [hm] at hK; exact hK) | exact hC | exact rC.same hl hc | exact rC.catc (by omega) hc (by omega) (by omega) | exact hO)
      all_goals (intro i hi; try simp only [upd_at])
      all_goals repeat' split
      all_goals first | rfl | exact hf _ (by omega) | exact hh _ (by omega) | (exfalso; omega) | exact absurd trivial (by assumption) | (simp (disch := omega) only [hf, hh]; done)
    · have hj2 : (82 + e ≤ j) = False := eq_false (by omega)
      by_cases h5 : a ≤ 399
      · simp (maxSteps := 500000) (decide := true) (disch := omega) only [f_X3_carryOutNext, f_X3_askFirst, b_X3_askFirst_20, b_X3_askFirst_40, Int32.reduceToNatClampNeg, gp_63, fc_63, tk_63, wi_63, od_63, sw_63, b_X12_done_52, b_X12_done_69, f_X12_isStarred, b_X12_isStarred_42, f_X12_wants, f_X12_wantsStore, b_X12_wantsStore_27, L_0, L_1, L_2, L_3, nlt30, cl_nI, nI_lt0, nI_sub1, nI_sub2, nI_sub3, nI_add1, nI_add2, e_30, Nat.sub_sub, Nat.reduceAdd, hf, hh, sb, ck_T, ckn, not_false_eq_true, false_or, Nat.not_le, ite_self, ↓reduceIte, s_from0, s_from1, s_from2, s_drop1, s_drop2, s_put, s_putF, s_room1, s_room1F, s_take, s_rep, s_raise1, s_raise2, w_push, w_pop, f_X4_make, f_X4_compile, f_X8_dropOneUnless, s_app, s_appF, f_X12_tells, b_X12_tells_18, b_X12_tells_23, b_X12_tells_36, b_X12_tells_72, b_X12_tells_105, b_X12_tells_119, b_X12_tells_131, b_X12_tells_143, b_X12_tells_198, b_X12_tells_214, b_X12_tells_226, b_X12_tells_258, b_X12_tells_262, b_X12_tells_263, b_X12_tells_292, b_X12_tells_310, b_X12_tells_335, b_X12_tells_347, f_X12_isWord, f_X2_isWord, a82, w_append, K1, K2, K3, LEn, a11, a21, h1, hx, hj2, h5]
        refine ST.m1 ⟨?_, rS.mk2 (by omega) (by omega) ?_, ?_, ?_, ?_, ?_, rS.mk2 (by omega) (by omega) ?_, ?_, ?_⟩
        all_goals try (first | exact hT | exact rT.mk hta (by omega) (by omega) htc | exact hY | exact rY.mk2 (by omega) rfl (by omega) | exact hD | exact rD.same he hbg hW | exact rD.same0 hm he hbg hW | exact rD.imm he hbg hW | exact rD.fin he hW | exact rD.addC hm (by omega) hW (by omega) (by omega) (by omega) | exact rD.addP hm (by omega) hW (by omega) (by omega) (by omega) (by omega) | exact rD.addP hm (by omega) hW (by omega) (fun z => absurd z (by decide)) (by omega) (by omega) | exact hQ | exact rQ.same hg hq | exact hK | exact ⟨rfl, hk⟩ | exact ⟨rfl, .inl rfl⟩ | exact ⟨rfl, .inr ⟨rfl, rfl⟩⟩ | exact ⟨rfl, .inr ⟨rfl, hm1⟩⟩ | (rw [hm] at hK; exact hK) | exact hC | exact rC.same hl hc | exact rC.catc (by omega) hc (by omega) (by omega) | exact hO)
        all_goals (intro i hi; try simp only [upd_at])
        all_goals repeat' split
        all_goals first | rfl | exact hf _ (by omega) | exact hh _ (by omega) | (exfalso; omega) | exact absurd trivial (by assumption) | (simp (disch := omega) only [hf, hh]; done)
      · simp (maxSteps := 500000) (decide := true) (disch := omega) only [f_X3_carryOutNext, f_X3_askFirst, b_X3_askFirst_20, b_X3_askFirst_40, Int32.reduceToNatClampNeg, gp_63, fc_63, tk_63, wi_63, od_63, sw_63, b_X12_done_52, b_X12_done_69, f_X12_isStarred, b_X12_isStarred_42, f_X12_wants, f_X12_wantsStore, b_X12_wantsStore_27, L_0, L_1, L_2, L_3, nlt30, cl_nI, nI_lt0, nI_sub1, nI_sub2, nI_sub3, nI_add1, nI_add2, e_30, Nat.sub_sub, Nat.reduceAdd, hf, hh, sb, ck_T, ckn, not_false_eq_true, false_or, Nat.not_le, ite_self, ↓reduceIte, s_from0, s_from1, s_from2, s_drop1, s_drop2, s_put, s_putF, s_room1, s_room1F, s_take, s_rep, s_raise1, s_raise2, w_push, w_pop, f_X4_make, f_X4_compile, f_X8_dropOneUnless, s_app, s_appF, f_X12_tells, b_X12_tells_18, b_X12_tells_23, b_X12_tells_36, b_X12_tells_72, b_X12_tells_105, b_X12_tells_119, b_X12_tells_131, b_X12_tells_143, b_X12_tells_198, b_X12_tells_214, b_X12_tells_226, b_X12_tells_258, b_X12_tells_262, b_X12_tells_263, b_X12_tells_292, b_X12_tells_310, b_X12_tells_335, b_X12_tells_347, f_X12_isWord, f_X2_isWord, a82, w_append, K1, K2, K3, LEn, a11, a21, h1, hx, hj2, h5]
        refine ST.m1 ⟨?_, rS.mk2 (by omega) (by omega) ?_, ?_, ?_, ?_, ?_, rS.mk2 (by omega) (by omega) ?_, ?_, ?_⟩
        all_goals try (first | exact hT | exact rT.mk hta (by omega) (by omega) htc | exact hY | exact rY.mk2 (by omega) rfl (by omega) | exact hD | exact rD.same he hbg hW | exact rD.same0 hm he hbg hW | exact rD.imm he hbg hW | exact rD.fin he hW | exact rD.addC hm (by omega) hW (by omega) (by omega) (by omega) | exact rD.addP hm (by omega) hW (by omega) (by omega) (by omega) (by omega) | exact rD.addP hm (by omega) hW (by omega) (fun z => absurd z (by decide)) (by omega) (by omega) | exact hQ | exact rQ.same hg hq | exact hK | exact ⟨rfl, hk⟩ | exact ⟨rfl, .inl rfl⟩ | exact ⟨rfl, .inr ⟨rfl, rfl⟩⟩ | exact ⟨rfl, .inr ⟨rfl, hm1⟩⟩ | (rw [hm] at hK; exact hK) | exact hC | exact rC.same hl hc | exact rC.catc (by omega) hc (by omega) (by omega) | exact hO)
        all_goals (intro i hi; try simp only [upd_at])
        all_goals repeat' split
        all_goals first | rfl | exact hf _ (by omega) | exact hh _ (by omega) | (exfalso; omega) | exact absurd trivial (by assumption) | (simp (disch := omega) only [hf, hh]; done)
  · simp (maxSteps := 500000) (decide := true) (disch := omega) only [f_X3_carryOutNext, f_X3_askFirst, b_X3_askFirst_20, b_X3_askFirst_40, Int32.reduceToNatClampNeg, gp_63, fc_63, tk_63, wi_63, od_63, sw_63, b_X12_done_52, b_X12_done_69, f_X12_isStarred, b_X12_isStarred_42, f_X12_wants, f_X12_wantsStore, b_X12_wantsStore_27, L_0, L_1, L_2, L_3, nlt30, cl_nI, nI_lt0, nI_sub1, nI_sub2, nI_sub3, nI_add1, nI_add2, e_30, Nat.sub_sub, Nat.reduceAdd, hf, hh, sb, ck_T, ckn, not_false_eq_true, false_or, Nat.not_le, ite_self, ↓reduceIte, s_from0, s_from1, s_from2, s_drop1, s_drop2, s_put, s_putF, s_room1, s_room1F, s_take, s_rep, s_raise1, s_raise2, w_push, w_pop, f_X4_make, f_X4_compile, f_X8_dropOneUnless, s_app, s_appF, f_X12_tells, b_X12_tells_18, b_X12_tells_23, b_X12_tells_36, b_X12_tells_72, b_X12_tells_105, b_X12_tells_119, b_X12_tells_131, b_X12_tells_143, b_X12_tells_198, b_X12_tells_214, b_X12_tells_226, b_X12_tells_258, b_X12_tells_262, b_X12_tells_263, b_X12_tells_292, b_X12_tells_310, b_X12_tells_335, b_X12_tells_347, f_X12_isWord, f_X2_isWord, a82, w_append, K1, K2, K3, LEn, a11, a21, h1]
    refine ST.m1 ⟨?_, rS.mk2 (by omega) (by omega) ?_, ?_, ?_, ?_, ?_, rS.mk2 (by omega) (by omega) ?_, ?_, ?_⟩
    all_goals try (first | exact hT | exact rT.mk hta (by omega) (by omega) htc | exact hY | exact rY.mk2 (by omega) rfl (by omega) | exact hD | exact rD.same he hbg hW | exact rD.same0 hm he hbg hW | exact rD.imm he hbg hW | exact rD.fin he hW | exact rD.addC hm (by omega) hW (by omega) (by omega) (by omega) | exact rD.addP hm (by omega) hW (by omega) (by omega) (by omega) (by omega) | exact rD.addP hm (by omega) hW (by omega) (fun z => absurd z (by decide)) (by omega) (by omega) | exact hQ | exact rQ.same hg hq | exact hK | exact ⟨rfl, hk⟩ | exact ⟨rfl, .inl rfl⟩ | exact ⟨rfl, .inr ⟨rfl, rfl⟩⟩ | exact ⟨rfl, .inr ⟨rfl, hm1⟩⟩ | (rw [hm] at hK; exact hK) | exact hC | exact rC.same hl hc | exact rC.catc (by omega) hc (by omega) (by omega) | exact hO)
    all_goals (intro i hi; try simp only [upd_at])
    all_goals repeat' split
    all_goals first | rfl | exact hf _ (by omega) | exact hh _ (by omega) | (exfalso; omega) | exact absurd trivial (by assumption) | (simp (disch := omega) only [hf, hh]; done)
theorem wd_64 (hR : REL t s y d q k r c o T S R C Y D K Q O) (al st ca ov an th lf st' ca' re en : Int32) : ST (f_X3_carryOutNext t s y d q k r c o (al, st, ca, 64, ov, an)) (f_X12_done 64 T S R C Y D K Q O (th, lf, st', ca', -1, re, en)) al (st + 1) ca ov an th lf st' ca' re en := by
  obtain ⟨hT, ⟨n, f, F, hn, rfl, rfl, hf⟩, hY, hD, hQ, hK, ⟨p, h, G, hp, rfl, rfl, hh⟩, hC, hO⟩ := hR
  rw [dn_ge (by decide) (by decide) hC]
  obtain ⟨rfl, a, z, ha, rfl⟩ := hY
  obtain ⟨rfl, hk⟩ := hK
  by_cases hk0 : K = 0
  · subst hk0
    simp (maxSteps := 500000) (decide := true) (disch := omega) only [f_X3_carryOutNext, f_X3_askFirst, b_X3_askFirst_20, b_X3_askFirst_40, Int32.reduceToNatClampNeg, gp_64, fc_64, tk_64, wi_64, od_64, sw_64, b_X12_done_52, b_X12_done_69, f_X12_isStarred, b_X12_isStarred_42, f_X12_wants, f_X12_wantsStore, b_X12_wantsStore_27, L_0, L_1, L_2, L_3, nlt30, cl_nI, nI_lt0, nI_sub1, nI_sub2, nI_sub3, nI_add1, nI_add2, e_30, Nat.sub_sub, Nat.reduceAdd, hf, hh, sb, ck_T, ckn, not_false_eq_true, false_or, Nat.not_le, ite_self, ↓reduceIte, s_from0, s_from1, s_from2, s_drop1, s_drop2, s_put, s_putF, s_room1, s_room1F, s_take, s_rep, s_raise1, s_raise2, w_push, w_pop, f_X4_compileInto, f_X4_endColon, f_X2_finishLatest, f_X2_latestNumber, f_X8_dropOneUnless, s_both, s_bothF, s_app, s_appF, vb0, vb1, U_0, nz, f_X12_tells, b_X12_tells_18, b_X12_tells_23, b_X12_tells_36, b_X12_tells_72, b_X12_tells_105, b_X12_tells_119, b_X12_tells_131, b_X12_tells_143, b_X12_tells_198, b_X12_tells_214, b_X12_tells_226, b_X12_tells_258, b_X12_tells_262, b_X12_tells_263, b_X12_tells_292, b_X12_tells_310, b_X12_tells_335, b_X12_tells_347, f_X12_isWord, f_X2_isWord, a82, w_append, K1, K2, K3, LEn, a11, a21]
    refine ST.m1 ⟨?_, rS.mk2 (by omega) (by omega) ?_, ?_, ?_, ?_, ?_, rS.mk2 (by omega) (by omega) ?_, ?_, ?_⟩
    all_goals try (first | exact hT | exact rT.mk hta (by omega) (by omega) htc | exact hY | exact rY.mk2 (by omega) rfl (by omega) | exact hD | exact rD.same he hbg hW | exact rD.same0 hm he hbg hW | exact rD.imm he hbg hW | exact rD.fin he hW | exact rD.addC hm (by omega) hW (by omega) (by omega) (by omega) | exact rD.addP hm (by omega) hW (by omega) (by omega) (by omega) (by omega) | exact rD.addP hm (by omega) hW (by omega) (fun z => absurd z (by decide)) (by omega) (by omega) | exact hQ | exact rQ.same hg hq | exact hK | exact ⟨rfl, hk⟩ | exact ⟨rfl, .inl rfl⟩ | exact ⟨rfl, .inr ⟨rfl, rfl⟩⟩ | exact ⟨rfl, .inr ⟨rfl, hm1⟩⟩ | (rw [hm] at hK; exact hK) | exact hC | exact rC.same hl hc | exact rC.catc (by omega) hc (by omega) (by omega) | exact hO)
    all_goals (intro i hi; try simp only [upd_at])
    all_goals repeat' split
    all_goals first | rfl | exact hf _ (by omega) | exact hh _ (by omega) | (exfalso; omega) | exact absurd trivial (by assumption) | (simp (disch := omega) only [hf, hh]; done)
  · by_cases h1 : 1 ≤ n
    · by_cases h5 : a ≤ 398
      · simp (maxSteps := 500000) (decide := true) (disch := omega) only [f_X3_carryOutNext, f_X3_askFirst, b_X3_askFirst_20, b_X3_askFirst_40, Int32.reduceToNatClampNeg, gp_64, fc_64, tk_64, wi_64, od_64, sw_64, b_X12_done_52, b_X12_done_69, f_X12_isStarred, b_X12_isStarred_42, f_X12_wants, f_X12_wantsStore, b_X12_wantsStore_27, L_0, L_1, L_2, L_3, nlt30, cl_nI, nI_lt0, nI_sub1, nI_sub2, nI_sub3, nI_add1, nI_add2, e_30, Nat.sub_sub, Nat.reduceAdd, hf, hh, sb, ck_T, ckn, not_false_eq_true, false_or, Nat.not_le, ite_self, ↓reduceIte, s_from0, s_from1, s_from2, s_drop1, s_drop2, s_put, s_putF, s_room1, s_room1F, s_take, s_rep, s_raise1, s_raise2, w_push, w_pop, f_X4_compileInto, f_X4_endColon, f_X2_finishLatest, f_X2_latestNumber, f_X8_dropOneUnless, s_both, s_bothF, s_app, s_appF, vb0, vb1, U_0, nz, f_X12_tells, b_X12_tells_18, b_X12_tells_23, b_X12_tells_36, b_X12_tells_72, b_X12_tells_105, b_X12_tells_119, b_X12_tells_131, b_X12_tells_143, b_X12_tells_198, b_X12_tells_214, b_X12_tells_226, b_X12_tells_258, b_X12_tells_262, b_X12_tells_263, b_X12_tells_292, b_X12_tells_310, b_X12_tells_335, b_X12_tells_347, f_X12_isWord, f_X2_isWord, a82, w_append, K1, K2, K3, LEn, a11, a21, hk0, h1, h5]
        refine ST.m1 ⟨?_, rS.mk2 (by omega) (by omega) ?_, ?_, ?_, ?_, ?_, rS.mk2 (by omega) (by omega) ?_, ?_, ?_⟩
        all_goals try (first | exact hT | exact rT.mk hta (by omega) (by omega) htc | exact hY | exact rY.mk2 (by omega) rfl (by omega) | exact hD | exact rD.same he hbg hW | exact rD.same0 hm he hbg hW | exact rD.imm he hbg hW | exact rD.fin he hW | exact rD.addC hm (by omega) hW (by omega) (by omega) (by omega) | exact rD.addP hm (by omega) hW (by omega) (by omega) (by omega) (by omega) | exact rD.addP hm (by omega) hW (by omega) (fun z => absurd z (by decide)) (by omega) (by omega) | exact hQ | exact rQ.same hg hq | exact hK | exact ⟨rfl, hk⟩ | exact ⟨rfl, .inl rfl⟩ | exact ⟨rfl, .inr ⟨rfl, rfl⟩⟩ | exact ⟨rfl, .inr ⟨rfl, hm1⟩⟩ | (rw [hm] at hK; exact hK) | exact hC | exact rC.same hl hc | exact rC.catc (by omega) hc (by omega) (by omega) | exact hO)
        all_goals (intro i hi; try simp only [upd_at])
        all_goals repeat' split
        all_goals first | rfl | exact hf _ (by omega) | exact hh _ (by omega) | (exfalso; omega) | exact absurd trivial (by assumption) | (simp (disch := omega) only [hf, hh]; done)
      · simp (maxSteps := 500000) (decide := true) (disch := omega) only [f_X3_carryOutNext, f_X3_askFirst, b_X3_askFirst_20, b_X3_askFirst_40, Int32.reduceToNatClampNeg, gp_64, fc_64, tk_64, wi_64, od_64, sw_64, b_X12_done_52, b_X12_done_69, f_X12_isStarred, b_X12_isStarred_42, f_X12_wants, f_X12_wantsStore, b_X12_wantsStore_27, L_0, L_1, L_2, L_3, nlt30, cl_nI, nI_lt0, nI_sub1, nI_sub2, nI_sub3, nI_add1, nI_add2, e_30, Nat.sub_sub, Nat.reduceAdd, hf, hh, sb, ck_T, ckn, not_false_eq_true, false_or, Nat.not_le, ite_self, ↓reduceIte, s_from0, s_from1, s_from2, s_drop1, s_drop2, s_put, s_putF, s_room1, s_room1F, s_take, s_rep, s_raise1, s_raise2, w_push, w_pop, f_X4_compileInto, f_X4_endColon, f_X2_finishLatest, f_X2_latestNumber, f_X8_dropOneUnless, s_both, s_bothF, s_app, s_appF, vb0, vb1, U_0, nz, f_X12_tells, b_X12_tells_18, b_X12_tells_23, b_X12_tells_36, b_X12_tells_72, b_X12_tells_105, b_X12_tells_119, b_X12_tells_131, b_X12_tells_143, b_X12_tells_198, b_X12_tells_214, b_X12_tells_226, b_X12_tells_258, b_X12_tells_262, b_X12_tells_263, b_X12_tells_292, b_X12_tells_310, b_X12_tells_335, b_X12_tells_347, f_X12_isWord, f_X2_isWord, a82, w_append, K1, K2, K3, LEn, a11, a21, hk0, h1, h5]
        refine ST.m1 ⟨?_, rS.mk2 (by omega) (by omega) ?_, ?_, ?_, ?_, ?_, rS.mk2 (by omega) (by omega) ?_, ?_, ?_⟩
        all_goals try (first | exact hT | exact rT.mk hta (by omega) (by omega) htc | exact hY | exact rY.mk2 (by omega) rfl (by omega) | exact hD | exact rD.same he hbg hW | exact rD.same0 hm he hbg hW | exact rD.imm he hbg hW | exact rD.fin he hW | exact rD.addC hm (by omega) hW (by omega) (by omega) (by omega) | exact rD.addP hm (by omega) hW (by omega) (by omega) (by omega) (by omega) | exact rD.addP hm (by omega) hW (by omega) (fun z => absurd z (by decide)) (by omega) (by omega) | exact hQ | exact rQ.same hg hq | exact hK | exact ⟨rfl, hk⟩ | exact ⟨rfl, .inl rfl⟩ | exact ⟨rfl, .inr ⟨rfl, rfl⟩⟩ | exact ⟨rfl, .inr ⟨rfl, hm1⟩⟩ | (rw [hm] at hK; exact hK) | exact hC | exact rC.same hl hc | exact rC.catc (by omega) hc (by omega) (by omega) | exact hO)
        all_goals (intro i hi; try simp only [upd_at])
        all_goals repeat' split
        all_goals first | rfl | exact hf _ (by omega) | exact hh _ (by omega) | (exfalso; omega) | exact absurd trivial (by assumption) | (simp (disch := omega) only [hf, hh]; done)
    · simp (maxSteps := 500000) (decide := true) (disch := omega) only [f_X3_carryOutNext, f_X3_askFirst, b_X3_askFirst_20, b_X3_askFirst_40, Int32.reduceToNatClampNeg, gp_64, fc_64, tk_64, wi_64, od_64, sw_64, b_X12_done_52, b_X12_done_69, f_X12_isStarred, b_X12_isStarred_42, f_X12_wants, f_X12_wantsStore, b_X12_wantsStore_27, L_0, L_1, L_2, L_3, nlt30, cl_nI, nI_lt0, nI_sub1, nI_sub2, nI_sub3, nI_add1, nI_add2, e_30, Nat.sub_sub, Nat.reduceAdd, hf, hh, sb, ck_T, ckn, not_false_eq_true, false_or, Nat.not_le, ite_self, ↓reduceIte, s_from0, s_from1, s_from2, s_drop1, s_drop2, s_put, s_putF, s_room1, s_room1F, s_take, s_rep, s_raise1, s_raise2, w_push, w_pop, f_X4_compileInto, f_X4_endColon, f_X2_finishLatest, f_X2_latestNumber, f_X8_dropOneUnless, s_both, s_bothF, s_app, s_appF, vb0, vb1, U_0, nz, f_X12_tells, b_X12_tells_18, b_X12_tells_23, b_X12_tells_36, b_X12_tells_72, b_X12_tells_105, b_X12_tells_119, b_X12_tells_131, b_X12_tells_143, b_X12_tells_198, b_X12_tells_214, b_X12_tells_226, b_X12_tells_258, b_X12_tells_262, b_X12_tells_263, b_X12_tells_292, b_X12_tells_310, b_X12_tells_335, b_X12_tells_347, f_X12_isWord, f_X2_isWord, a82, w_append, K1, K2, K3, LEn, a11, a21, hk0, h1]
      refine ST.m1 ⟨?_, rS.mk2 (by omega) (by omega) ?_, ?_, ?_, ?_, ?_, rS.mk2 (by omega) (by omega) ?_, ?_, ?_⟩
      all_goals try (first | exact hT | exact rT.mk hta (by omega) (by omega) htc | exact hY | exact rY.mk2 (by omega) rfl (by omega) | exact hD | exact rD.same he hbg hW | exact rD.same0 hm he hbg hW | exact rD.imm he hbg hW | exact rD.fin he hW | exact rD.addC hm (by omega) hW (by omega) (by omega) (by omega) | exact rD.addP hm (by omega) hW (by omega) (by omega) (by omega) (by omega) | exact rD.addP hm (by omega) hW (by omega) (fun z => absurd z (by decide)) (by omega) (by omega) | exact hQ | exact rQ.same hg hq | exact hK | exact ⟨rfl, hk⟩ | exact ⟨rfl, .inl rfl⟩ | exact ⟨rfl, .inr ⟨rfl, rfl⟩⟩ | exact ⟨rfl, .inr ⟨rfl, hm1⟩⟩ | (rw [hm] at hK; exact hK) | exact hC | exact rC.same hl hc | exact rC.catc (by omega) hc (by omega) (by omega) | exact hO)
      all_goals (intro i hi; try simp only [upd_at])
      all_goals repeat' split
      all_goals first | rfl | exact hf _ (by omega) | exact hh _ (by omega) | (exfalso; omega) | exact absurd trivial (by assumption) | (simp (disch := omega) only [hf, hh]; done)
theorem wd_66 (hR : REL t s y d q k r c o T S R C Y D K Q O) (al st ca ov an th lf st' ca' re en : Int32) : ST (f_X3_carryOutNext t s y d q k r c o (al, st, ca, 66, ov, an)) (f_X12_done 66 T S R C Y D K Q O (th, lf, st', ca', -1, re, en)) al (st + 1) ca ov an th lf st' ca' re en := by
  obtain ⟨hT, ⟨n, f, F, hn, rfl, rfl, hf⟩, hY, hD, hQ, hK, ⟨p, h, G, hp, rfl, rfl, hh⟩, hC, hO⟩ := hR
  rw [dn_ge (by decide) (by decide) hC]
  simp (maxSteps := 500000) (decide := true) (disch := omega) only [f_X3_carryOutNext, f_X3_askFirst, b_X3_askFirst_20, b_X3_askFirst_40, Int32.reduceToNatClampNeg, gp_66, fc_66, tk_66, wi_66, od_66, sw_66, b_X12_done_52, b_X12_done_69, f_X12_isStarred, b_X12_isStarred_42, f_X12_wants, f_X12_wantsStore, b_X12_wantsStore_27, L_0, L_1, L_2, L_3, nlt30, cl_nI, nI_lt0, nI_sub1, nI_sub2, nI_sub3, nI_add1, nI_add2, e_30, Nat.sub_sub, Nat.reduceAdd, hf, hh, sb, ck_T, ckn, not_false_eq_true, false_or, Nat.not_le, ite_self, ↓reduceIte, s_from0, s_from1, s_from2, s_drop1, s_drop2, s_put, s_putF, s_room1, s_room1F, s_take, s_rep, s_raise1, s_raise2, w_push, w_pop, f_X4_doAtOnce, f_X12_tells, b_X12_tells_18, b_X12_tells_23, b_X12_tells_36, b_X12_tells_72, b_X12_tells_105, b_X12_tells_119, b_X12_tells_131, b_X12_tells_143, b_X12_tells_198, b_X12_tells_214, b_X12_tells_226, b_X12_tells_258, b_X12_tells_262, b_X12_tells_263, b_X12_tells_292, b_X12_tells_310, b_X12_tells_335, b_X12_tells_347, f_X12_isWord, f_X2_isWord, a82, w_append, K1, K2, K3, LEn, a11, a21]
  refine ST.m1 ⟨?_, rS.mk2 (by omega) (by omega) ?_, ?_, ?_, ?_, ?_, rS.mk2 (by omega) (by omega) ?_, ?_, ?_⟩
  all_goals try (first | exact hT | exact rT.mk hta (by omega) (by omega) htc | exact hY | exact rY.mk2 (by omega) rfl (by omega) | exact hD | exact rD.same he hbg hW | exact rD.same0 hm he hbg hW | exact rD.imm he hbg hW | exact rD.fin he hW | exact rD.addC hm (by omega) hW (by omega) (by omega) (by omega) | exact rD.addP hm (by omega) hW (by omega) (by omega) (by omega) (by omega) | exact rD.addP hm (by omega) hW (by omega) (fun z => absurd z (by decide)) (by omega) (by omega) | exact hQ | exact rQ.same hg hq | exact hK | exact ⟨rfl, hk⟩ | exact ⟨rfl, .inl rfl⟩ | exact ⟨rfl, .inr ⟨rfl, rfl⟩⟩ | exact ⟨rfl, .inr ⟨rfl, hm1⟩⟩ | (rw [hm] at hK; exact hK) | exact hC | exact rC.same hl hc | exact rC.catc (by omega) hc (by omega) (by omega) | exact hO)
  all_goals (intro i hi; try simp only [upd_at])
  all_goals repeat' split
  all_goals first | rfl | exact hf _ (by omega) | exact hh _ (by omega) | (exfalso; omega) | exact absurd trivial (by assumption) | (simp (disch := omega) only [hf, hh]; done)
theorem wd_67 (hR : REL t s y d q k r c o T S R C Y D K Q O) (al st ca ov an th lf st' ca' re en : Int32) : ST (f_X3_carryOutNext t s y d q k r c o (al, st, ca, 67, ov, an)) (f_X12_done 67 T S R C Y D K Q O (th, lf, st', ca', -1, re, en)) al (st + 1) ca ov an th lf st' ca' re en := by
  obtain ⟨hT, ⟨n, f, F, hn, rfl, rfl, hf⟩, hY, hD, hQ, hK, ⟨p, h, G, hp, rfl, rfl, hh⟩, hC, hO⟩ := hR
  rw [dn_ge (by decide) (by decide) hC]
  obtain ⟨e, bg, le, ln, pl, so, be, im, fi, he, rfl, rfl, hbg, hW⟩ := hD
  have hm2 := mkf01 e fi
  by_cases hm : mkf e fi = 0
  · simp (maxSteps := 500000) (decide := true) (disch := omega) only [f_X3_carryOutNext, f_X3_askFirst, b_X3_askFirst_20, b_X3_askFirst_40, Int32.reduceToNatClampNeg, gp_67, fc_67, tk_67, wi_67, od_67, sw_67, b_X12_done_52, b_X12_done_69, f_X12_isStarred, b_X12_isStarred_42, f_X12_wants, f_X12_wantsStore, b_X12_wantsStore_27, L_0, L_1, L_2, L_3, nlt30, cl_nI, nI_lt0, nI_sub1, nI_sub2, nI_sub3, nI_add1, nI_add2, e_30, Nat.sub_sub, Nat.reduceAdd, hf, hh, sb, ck_T, ckn, not_false_eq_true, false_or, Nat.not_le, ite_self, ↓reduceIte, s_from0, s_from1, s_from2, s_drop1, s_drop2, s_put, s_putF, s_room1, s_room1F, s_take, s_rep, s_raise1, s_raise2, w_push, w_pop, f_X4_make, f_X4_goOnCompiling, v_making, f_X12_tells, b_X12_tells_18, b_X12_tells_23, b_X12_tells_36, b_X12_tells_72, b_X12_tells_105, b_X12_tells_119, b_X12_tells_131, b_X12_tells_143, b_X12_tells_198, b_X12_tells_214, b_X12_tells_226, b_X12_tells_258, b_X12_tells_262, b_X12_tells_263, b_X12_tells_292, b_X12_tells_310, b_X12_tells_335, b_X12_tells_347, f_X12_isWord, f_X2_isWord, a82, w_append, K1, K2, K3, LEn, a11, a21, hm]
    refine ST.m1 ⟨?_, rS.mk2 (by omega) (by omega) ?_, ?_, ?_, ?_, ?_, rS.mk2 (by omega) (by omega) ?_, ?_, ?_⟩
    all_goals try exact ⟨rfl, .inr ⟨rfl, hm2.resolve_left hm⟩⟩
    all_goals try (first | exact hT | exact rT.mk hta (by omega) (by omega) htc | exact hY | exact rY.mk2 (by omega) rfl (by omega) | exact hD | exact rD.same he hbg hW | exact rD.same0 hm he hbg hW | exact rD.imm he hbg hW | exact rD.fin he hW | exact rD.addC hm (by omega) hW (by omega) (by omega) (by omega) | exact rD.addP hm (by omega) hW (by omega) (by omega) (by omega) (by omega) | exact rD.addP hm (by omega) hW (by omega) (fun z => absurd z (by decide)) (by omega) (by omega) | exact hQ | exact rQ.same hg hq | exact hK | exact ⟨rfl, hk⟩ | exact ⟨rfl, .inl rfl⟩ | exact ⟨rfl, .inr ⟨rfl, rfl⟩⟩ | exact ⟨rfl, .inr ⟨rfl, hm1⟩⟩ | (rw [hm] at hK; exact hK) | exact hC | exact rC.same hl hc | exact rC.catc (by omega) hc (by omega) (by omega) | exact hO)
    all_goals (intro i hi; try simp only [upd_at])
    all_goals repeat' split
    all_goals first | rfl | exact hf _ (by omega) | exact hh _ (by omega) | (exfalso; omega) | exact absurd trivial (by assumption) | (simp (disch := omega) only [hf, hh]; done)
  · simp (maxSteps := 500000) (decide := true) (disch := omega) only [f_X3_carryOutNext, f_X3_askFirst, b_X3_askFirst_20, b_X3_askFirst_40, Int32.reduceToNatClampNeg, gp_67, fc_67, tk_67, wi_67, od_67, sw_67, b_X12_done_52, b_X12_done_69, f_X12_isStarred, b_X12_isStarred_42, f_X12_wants, f_X12_wantsStore, b_X12_wantsStore_27, L_0, L_1, L_2, L_3, nlt30, cl_nI, nI_lt0, nI_sub1, nI_sub2, nI_sub3, nI_add1, nI_add2, e_30, Nat.sub_sub, Nat.reduceAdd, hf, hh, sb, ck_T, ckn, not_false_eq_true, false_or, Nat.not_le, ite_self, ↓reduceIte, s_from0, s_from1, s_from2, s_drop1, s_drop2, s_put, s_putF, s_room1, s_room1F, s_take, s_rep, s_raise1, s_raise2, w_push, w_pop, f_X4_make, f_X4_goOnCompiling, v_making, f_X12_tells, b_X12_tells_18, b_X12_tells_23, b_X12_tells_36, b_X12_tells_72, b_X12_tells_105, b_X12_tells_119, b_X12_tells_131, b_X12_tells_143, b_X12_tells_198, b_X12_tells_214, b_X12_tells_226, b_X12_tells_258, b_X12_tells_262, b_X12_tells_263, b_X12_tells_292, b_X12_tells_310, b_X12_tells_335, b_X12_tells_347, f_X12_isWord, f_X2_isWord, a82, w_append, K1, K2, K3, LEn, a11, a21, hm]
    refine ST.m1 ⟨?_, rS.mk2 (by omega) (by omega) ?_, ?_, ?_, ?_, ?_, rS.mk2 (by omega) (by omega) ?_, ?_, ?_⟩
    all_goals try exact ⟨rfl, .inr ⟨rfl, hm2.resolve_left hm⟩⟩
    all_goals try (first | exact hT | exact rT.mk hta (by omega) (by omega) htc | exact hY | exact rY.mk2 (by omega) rfl (by omega) | exact hD | exact rD.same he hbg hW | exact rD.same0 hm he hbg hW | exact rD.imm he hbg hW | exact rD.fin he hW | exact rD.addC hm (by omega) hW (by omega) (by omega) (by omega) | exact rD.addP hm (by omega) hW (by omega) (by omega) (by omega) (by omega) | exact rD.addP hm (by omega) hW (by omega) (fun z => absurd z (by decide)) (by omega) (by omega) | exact hQ | exact rQ.same hg hq | exact hK | exact ⟨rfl, hk⟩ | exact ⟨rfl, .inl rfl⟩ | exact ⟨rfl, .inr ⟨rfl, rfl⟩⟩ | exact ⟨rfl, .inr ⟨rfl, hm1⟩⟩ | (rw [hm] at hK; exact hK) | exact hC | exact rC.same hl hc | exact rC.catc (by omega) hc (by omega) (by omega) | exact hO)
    all_goals (intro i hi; try simp only [upd_at])
    all_goals repeat' split
    all_goals first | rfl | exact hf _ (by omega) | exact hh _ (by omega) | (exfalso; omega) | exact absurd trivial (by assumption) | (simp (disch := omega) only [hf, hh]; done)
theorem wd_68 (hR : REL t s y d q k r c o T S R C Y D K Q O) (al st ca ov an th lf st' ca' re en : Int32) : ST (f_X3_carryOutNext t s y d q k r c o (al, st, ca, 68, ov, an)) (f_X12_done 68 T S R C Y D K Q O (th, lf, st', ca', -1, re, en)) al (st + 1) ca ov an th lf st' ca' re en := by
  obtain ⟨hT, ⟨n, f, F, hn, rfl, rfl, hf⟩, hY, hD, hQ, hK, ⟨p, h, G, hp, rfl, rfl, hh⟩, hC, hO⟩ := hR
  rw [dn_ge (by decide) (by decide) hC]
  obtain ⟨rfl, a, z, ha, rfl⟩ := hY
  obtain ⟨e, bg, le, ln, pl, so, be, im, fi, he, rfl, rfl, hbg, hW⟩ := hD
  obtain ⟨rfl, hk⟩ := hK
  by_cases hk0 : K = 0
  · subst hk0
    simp (maxSteps := 500000) (decide := true) (disch := omega) only [f_X3_carryOutNext, f_X3_askFirst, b_X3_askFirst_20, b_X3_askFirst_40, Int32.reduceToNatClampNeg, gp_68, fc_68, tk_68, wi_68, od_68, sw_68, b_X12_done_52, b_X12_done_69, f_X12_isStarred, b_X12_isStarred_42, f_X12_wants, f_X12_wantsStore, b_X12_wantsStore_27, L_0, L_1, L_2, L_3, nlt30, cl_nI, nI_lt0, nI_sub1, nI_sub2, nI_sub3, nI_add1, nI_add2, e_30, Nat.sub_sub, Nat.reduceAdd, hf, hh, sb, ck_T, ckn, not_false_eq_true, false_or, Nat.not_le, ite_self, ↓reduceIte, s_from0, s_from1, s_from2, s_drop1, s_drop2, s_put, s_putF, s_room1, s_room1F, s_take, s_rep, s_raise1, s_raise2, w_push, w_pop, f_X4_compileInto, f_X4_endColon, f_X2_finishLatest, f_X2_latestNumber, f_X8_dropOneUnless, s_both, s_bothF, s_app, s_appF, vb0, vb1, U_0, nz, f_X12_tells, b_X12_tells_18, b_X12_tells_23, b_X12_tells_36, b_X12_tells_72, b_X12_tells_105, b_X12_tells_119, b_X12_tells_131, b_X12_tells_143, b_X12_tells_198, b_X12_tells_214, b_X12_tells_226, b_X12_tells_258, b_X12_tells_262, b_X12_tells_263, b_X12_tells_292, b_X12_tells_310, b_X12_tells_335, b_X12_tells_347, f_X12_isWord, f_X2_isWord, a82, w_append, K1, K2, K3, LEn, a11, a21]
    refine ST.m1 ⟨?_, rS.mk2 (by omega) (by omega) ?_, ?_, ?_, ?_, ?_, rS.mk2 (by omega) (by omega) ?_, ?_, ?_⟩
    all_goals try (first | exact hT | exact rT.mk hta (by omega) (by omega) htc | exact hY | exact rY.mk2 (by omega) rfl (by omega) | exact hD | exact rD.same he hbg hW | exact rD.same0 hm he hbg hW | exact rD.imm he hbg hW | exact rD.fin he hW | exact rD.addC hm (by omega) hW (by omega) (by omega) (by omega) | exact rD.addP hm (by omega) hW (by omega) (by omega) (by omega) (by omega) | exact rD.addP hm (by omega) hW (by omega) (fun z => absurd z (by decide)) (by omega) (by omega) | exact hQ | exact rQ.same hg hq | exact hK | exact ⟨rfl, hk⟩ | exact ⟨rfl, .inl rfl⟩ | exact ⟨rfl, .inr ⟨rfl, rfl⟩⟩ | exact ⟨rfl, .inr ⟨rfl, hm1⟩⟩ | (rw [hm] at hK; exact hK) | exact hC | exact rC.same hl hc | exact rC.catc (by omega) hc (by omega) (by omega) | exact hO)
    all_goals (intro i hi; try simp only [upd_at])
    all_goals repeat' split
    all_goals first | rfl | exact hf _ (by omega) | exact hh _ (by omega) | (exfalso; omega) | exact absurd trivial (by assumption) | (simp (disch := omega) only [hf, hh]; done)
  · by_cases h5 : a ≤ 399
    · simp (maxSteps := 500000) (decide := true) (disch := omega) only [f_X3_carryOutNext, f_X3_askFirst, b_X3_askFirst_20, b_X3_askFirst_40, Int32.reduceToNatClampNeg, gp_68, fc_68, tk_68, wi_68, od_68, sw_68, b_X12_done_52, b_X12_done_69, f_X12_isStarred, b_X12_isStarred_42, f_X12_wants, f_X12_wantsStore, b_X12_wantsStore_27, L_0, L_1, L_2, L_3, nlt30, cl_nI, nI_lt0, nI_sub1, nI_sub2, nI_sub3, nI_add1, nI_add2, e_30, Nat.sub_sub, Nat.reduceAdd, hf, hh, sb, ck_T, ckn, not_false_eq_true, false_or, Nat.not_le, ite_self, ↓reduceIte, s_from0, s_from1, s_from2, s_drop1, s_drop2, s_put, s_putF, s_room1, s_room1F, s_take, s_rep, s_raise1, s_raise2, w_push, w_pop, f_X4_compileInto, f_X4_endColon, f_X2_finishLatest, f_X2_latestNumber, f_X8_dropOneUnless, s_both, s_bothF, s_app, s_appF, vb0, vb1, U_0, nz, f_X12_tells, b_X12_tells_18, b_X12_tells_23, b_X12_tells_36, b_X12_tells_72, b_X12_tells_105, b_X12_tells_119, b_X12_tells_131, b_X12_tells_143, b_X12_tells_198, b_X12_tells_214, b_X12_tells_226, b_X12_tells_258, b_X12_tells_262, b_X12_tells_263, b_X12_tells_292, b_X12_tells_310, b_X12_tells_335, b_X12_tells_347, f_X12_isWord, f_X2_isWord, a82, w_append, K1, K2, K3, LEn, a11, a21, hk0, h5]
      refine ST.m1 ⟨?_, rS.mk2 (by omega) (by omega) ?_, ?_, ?_, ?_, ?_, rS.mk2 (by omega) (by omega) ?_, ?_, ?_⟩
      all_goals try (first | exact hT | exact rT.mk hta (by omega) (by omega) htc | exact hY | exact rY.mk2 (by omega) rfl (by omega) | exact hD | exact rD.same he hbg hW | exact rD.same0 hm he hbg hW | exact rD.imm he hbg hW | exact rD.fin he hW | exact rD.addC hm (by omega) hW (by omega) (by omega) (by omega) | exact rD.addP hm (by omega) hW (by omega) (by omega) (by omega) (by omega) | exact rD.addP hm (by omega) hW (by omega) (fun z => absurd z (by decide)) (by omega) (by omega) | exact hQ | exact rQ.same hg hq | exact hK | exact ⟨rfl, hk⟩ | exact ⟨rfl, .inl rfl⟩ | exact ⟨rfl, .inr ⟨rfl, rfl⟩⟩ | exact ⟨rfl, .inr ⟨rfl, hm1⟩⟩ | (rw [hm] at hK; exact hK) | exact hC | exact rC.same hl hc | exact rC.catc (by omega) hc (by omega) (by omega) | exact hO)
      all_goals (intro i hi; try simp only [upd_at])
      all_goals repeat' split
      all_goals first | rfl | exact hf _ (by omega) | exact hh _ (by omega) | (exfalso; omega) | exact absurd trivial (by assumption) | (simp (disch := omega) only [hf, hh]; done)
    · simp (maxSteps := 500000) (decide := true) (disch := omega) only [f_X3_carryOutNext, f_X3_askFirst, b_X3_askFirst_20, b_X3_askFirst_40, Int32.reduceToNatClampNeg, gp_68, fc_68, tk_68, wi_68, od_68, sw_68, b_X12_done_52, b_X12_done_69, f_X12_isStarred, b_X12_isStarred_42, f_X12_wants, f_X12_wantsStore, b_X12_wantsStore_27, L_0, L_1, L_2, L_3, nlt30, cl_nI, nI_lt0, nI_sub1, nI_sub2, nI_sub3, nI_add1, nI_add2, e_30, Nat.sub_sub, Nat.reduceAdd, hf, hh, sb, ck_T, ckn, not_false_eq_true, false_or, Nat.not_le, ite_self, ↓reduceIte, s_from0, s_from1, s_from2, s_drop1, s_drop2, s_put, s_putF, s_room1, s_room1F, s_take, s_rep, s_raise1, s_raise2, w_push, w_pop, f_X4_compileInto, f_X4_endColon, f_X2_finishLatest, f_X2_latestNumber, f_X8_dropOneUnless, s_both, s_bothF, s_app, s_appF, vb0, vb1, U_0, nz, f_X12_tells, b_X12_tells_18, b_X12_tells_23, b_X12_tells_36, b_X12_tells_72, b_X12_tells_105, b_X12_tells_119, b_X12_tells_131, b_X12_tells_143, b_X12_tells_198, b_X12_tells_214, b_X12_tells_226, b_X12_tells_258, b_X12_tells_262, b_X12_tells_263, b_X12_tells_292, b_X12_tells_310, b_X12_tells_335, b_X12_tells_347, f_X12_isWord, f_X2_isWord, a82, w_append, K1, K2, K3, LEn, a11, a21, hk0, h5]
      refine ST.m1 ⟨?_, rS.mk2 (by omega) (by omega) ?_, ?_, ?_, ?_, ?_, rS.mk2 (by omega) (by omega) ?_, ?_, ?_⟩
      all_goals try (first | exact hT | exact rT.mk hta (by omega) (by omega) htc | exact hY | exact rY.mk2 (by omega) rfl (by omega) | exact hD | exact rD.same he hbg hW | exact rD.same0 hm he hbg hW | exact rD.imm he hbg hW | exact rD.fin he hW | exact rD.addC hm (by omega) hW (by omega) (by omega) (by omega) | exact rD.addP hm (by omega) hW (by omega) (by omega) (by omega) (by omega) | exact rD.addP hm (by omega) hW (by omega) (fun z => absurd z (by decide)) (by omega) (by omega) | exact hQ | exact rQ.same hg hq | exact hK | exact ⟨rfl, hk⟩ | exact ⟨rfl, .inl rfl⟩ | exact ⟨rfl, .inr ⟨rfl, rfl⟩⟩ | exact ⟨rfl, .inr ⟨rfl, hm1⟩⟩ | (rw [hm] at hK; exact hK) | exact hC | exact rC.same hl hc | exact rC.catc (by omega) hc (by omega) (by omega) | exact hO)
      all_goals (intro i hi; try simp only [upd_at])
      all_goals repeat' split
      all_goals first | rfl | exact hf _ (by omega) | exact hh _ (by omega) | (exfalso; omega) | exact absurd trivial (by assumption) | (simp (disch := omega) only [hf, hh]; done)
end DEFS
