/-! without a word to carry out: one is looked for, on both sides -/
abbrev tX : Type := Int32 × tT × tR × tY × tD × tP × tK × tR × tC × tO × tM
abbrev mX : Type := Int32 × mT × mS × mR × mC × mY × mD × mK × mP × mO × mM
/-- what the model does behind a meeting -/
def gM (m : Nat) (y3 : Int32) (T : mT) (O : mO) (x : Option (mS × mR × mC × mY × mD × mK × mP × mM)) : Option mX := x.bind fun u => b_X12_run_114 (b_X12_run_61 m) y3 T u.1 u.2.1 u.2.2.1 u.2.2.2.1 u.2.2.2.2.1 u.2.2.2.2.2.1 u.2.2.2.2.2.2.1 O u.2.2.2.2.2.2.2
/-- what the model does behind words carried out -/
def gC (m : Nat) (y3 : Int32) (x : Option (mT × mS × mR × mC × mY × mD × mK × mP × mO × mM)) : Option mX := x.bind fun u => b_X12_run_114 (b_X12_run_61 m) y3 u.1 u.2.1 u.2.2.1 u.2.2.2.1 u.2.2.2.2.1 u.2.2.2.2.2.1 u.2.2.2.2.2.2.1 u.2.2.2.2.2.2.2.1 u.2.2.2.2.2.2.2.2.1 u.2.2.2.2.2.2.2.2.2
def GO (l ts ta m : Nat) (y3 : Int32) (d : tD) (q : tP) (k : tK) (r : tR) (o : tO) (R : mR) (D : mD) (K : mK) (Q : mP) (O : mO) (al st ca an th lf st' ca' nx0 : Int32) (x : Option (Int32 × tT × tR × tY × tC × tM)) (X : Option mX) : Prop :=
  ∃ (e : Int32) (t1 : tT) (s1 : tR) (y1 : tY) (c1 : tC) (nx re : Int32) (T1 : mT) (S1 : mS) (C1 : mC) (Y1 : mY) (l1 ta1 : Nat), x = some (e, t1, s1, y1, c1, (al, st, ca, nx, 0, an)) ∧ REL t1 s1 y1 d q k r c1 o T1 S1 R C1 Y1 D K Q O ∧ c1.1 = nI l1 ∧ l1 ≤ 30 ∧ t1.1 = nI ts ∧ t1.2.1 = nI ta1 ∧ ta ≤ ta1 ∧ ta1 ≤ ts ∧
    ((nx = -1 ∧ (l1 + (ts - ta1) < l + (ts - ta) ∨ (e ≠ 0 ∧ l1 ≤ l)) ∧ X = gM m y3 T1 O (f_X12_meet e S1 R C1 Y1 D K Q (th, lf, st', ca', nx0, re, 0))) ∨
     (∃ j z : Nat, nx = nI j ∧ e = 0 ∧ PL c1 ∧ d.1 = nI z ∧ z ≤ 40 ∧ j < 82 + z ∧ l1 ≤ l ∧ X = gC m y3 (f_X12_carry (nI j) T1 S1 R C1 Y1 D K Q O (th, lf, st', ca', nx0, re, 0))))
theorem bb {α β γ : Type} (x : Option α) (f : α → Option β) (g : β → Option γ) : (x.bind f).bind g = x.bind fun a => (f a).bind g := by cases x <;> rfl
section GOON
variable {t : tT} {s : tR} {y : tY} {d : tD} {q : tP} {k : tK} {r : tR} {o : tO} {T : mT} {S : mS} {R : mR} {Y : mY} {D : mD} {K : mK} {Q : mP} {O : mO} {l ts ta m y3 : Nat} {pa ic ns nr PA HS HR : Nat → Int32}
theorem U10k {n : Nat} (h : n < 10000) : ((10000 : Int32) ≤ nI n) = False := eq_false (show ¬ nI 10000 ≤ nI n from nI_ge h (by omega))
/-- the latest call is a catch that wasn't needed -/
theorem go_catch (hR : REL t s y d q k r (nI l, pa, ic, ns, nr) o T S R (nI l, PA, HS, HR) Y D K Q O) (hl0 : ¬ l = 0) (hl : l ≤ 30) (hi : ¬ ic (l - 1) = 0) (hts : t.1 = nI ts) (hta : t.2.1 = nI ta) (h1 : ta ≤ ts) (hy3 : y3 < 10000) (al st ca an th lf st' ca' nx0 re : Int32) : GO l ts ta m (nI y3) d q k r o R D K Q O al st ca an th lf st' ca' nx0 (f_X3_goOn t s y d k (nI l, pa, ic, ns, nr) (al, st, ca, -1, 0, an)) (b_X12_run_61 (m + 1) (nI y3) T S R (nI l, PA, HS, HR) Y D K Q O (th, lf, st', ca', nx0, re, 0)) := by
  obtain ⟨hT, ⟨n, f, F, hn, rfl, rfl, hf⟩, hY, hD, hQ, hK, hr, hC, hO⟩ := hR
  obtain ⟨l', pa', ic', ns', nr', PA', HS', HR', hl', hcc, hCC, hc⟩ := hC
  obtain ⟨e1, rfl, rfl, rfl, rfl⟩ : nI l = nI l' ∧ pa = pa' ∧ ic = ic' ∧ ns = ns' ∧ nr = nr' := by
    injection hcc with a b; injection b with b c; injection c with c d; injection d with d e; exact ⟨a, b, c, d, e⟩
  obtain rfl : l = l' := (nI_eq (by omega) (by omega)).mp e1
  obtain ⟨rfl, rfl, rfl⟩ : PA = PA' ∧ HS = HS' ∧ HR = HR' := by
    injection hCC with a b; injection b with b c; injection c with c d; exact ⟨b, c, d⟩
  rcases hc (l - 1) (by omega) with ⟨i1, _⟩ | ⟨i1, u, v, hu, hv, i2, i3, i4, i5⟩
  · exact absurd i1 hi
  have hi' : ic (l - 1) = 1 := i1
  have hc2 : ∀ i, i < l - 1 → rC1 pa ic ns nr PA HS HR i := fun i hi => hc i (by omega)
  by_cases h30 : n < 30
  · simp (decide := true) (disch := omega) only [f_X3_goOn, v_cCall, v_cIsCatch, v_cBack, hl0, hi', s_put, b_X12_run_61, U10k, e_0, nI_sub1, cl_nI, nI_lt0, ck_T, ckn, not_false_eq_true, false_or, Nat.not_le, i3, f_X12_comesBack, b_X12_comesBack_30, e_30, nlt30, w_push, bb, sb, ↓reduceIte]
    exact ⟨0, _, _, _, _, -1, re, _, _, _, _, l - 1, ta, rfl, ⟨hT, rS.mk (by omega) fun i hi => by
      rw [upd_at, upd_at]; split
      · rfl
      · exact hf i (by omega), hY, hD, hQ, hK, hr, rC.same (by omega) hc2, hO⟩, rfl, by omega, hts, hta, by omega, h1, .inl ⟨rfl, .inl (by omega), rfl⟩⟩
  · obtain rfl : n = 30 := by omega
    simp (decide := true) (disch := omega) only [f_X3_goOn, v_cCall, v_cIsCatch, v_cBack, hl0, hi', s_putF, b_X12_run_61, U10k, e_0, nI_sub1, cl_nI, nI_lt0, ck_T, ckn, not_false_eq_true, false_or, Nat.not_le, i3, f_X12_comesBack, b_X12_comesBack_30, e_30, bb, sb, ↓reduceIte]
    exact ⟨-3, _, _, _, _, -1, re, _, _, _, _, l - 1, ta, rfl, ⟨hT, rS.mk hn hf, hY, hD, hQ, hK, hr, rC.same (by omega) hc2, hO⟩, rfl, by omega, hts, hta, by omega, h1, .inl ⟨rfl, .inl (by omega), rfl⟩⟩
/-- the latest call goes on, or its place is wrong -/
theorem go_call (hR : REL t s y d q k r (nI l, pa, ic, ns, nr) o T S R (nI l, PA, HS, HR) Y D K Q O) (hl0 : ¬ l = 0) (hl : l ≤ 30) (hi : ic (l - 1) = 0) (hts : t.1 = nI ts) (hta : t.2.1 = nI ta) (h1 : ta ≤ ts) (hy3 : y3 < 10000) (al st ca an th lf st' ca' nx0 re : Int32) : GO l ts ta m (nI y3) d q k r o R D K Q O al st ca an th lf st' ca' nx0 (f_X3_goOn t s y d k (nI l, pa, ic, ns, nr) (al, st, ca, -1, 0, an)) (b_X12_run_61 (m + 1) (nI y3) T S R (nI l, PA, HS, HR) Y D K Q O (th, lf, st', ca', nx0, re, 0)) := by
  obtain ⟨hT, hs, hY, hD, hQ, hK, hr, hC, hO⟩ := hR
  obtain ⟨l', pa', ic', ns', nr', PA', HS', HR', hl', hcc, hCC, hc⟩ := hC
  obtain ⟨e1, rfl, rfl, rfl, rfl⟩ : nI l = nI l' ∧ pa = pa' ∧ ic = ic' ∧ ns = ns' ∧ nr = nr' := by
    injection hcc with a b; injection b with b c; injection c with c d; injection d with d e; exact ⟨a, b, c, d, e⟩
  obtain rfl : l = l' := (nI_eq (by omega) (by omega)).mp e1
  obtain ⟨rfl, rfl, rfl⟩ : PA = PA' ∧ HS = HS' ∧ HR = HR' := by
    injection hCC with a b; injection b with b c; injection c with c d; exact ⟨b, c, d⟩
  obtain ⟨rfl, a, cz, ha, rfl⟩ := hY
  obtain ⟨e, bg, le, ln, pl, so, be, im, fi, he, rfl, rfl, hbg, hW⟩ := hD
  rcases hc (l - 1) (by omega) with ⟨i1, i2, i3⟩ | ⟨i1, _⟩
  case inr => exact absurd (i1.symm.trans hi) (by decide)
  have rD0 := rD.same (le := le) he hbg hW
  rcases pk_ix (pa (l - 1)) (n := 400) (by omega) with hx | hx | ⟨u, hu, hx⟩
  · simp (decide := true) (disch := omega) only [f_X3_goOn, f_X3_goOnWithCall, f_X5_isCell, v_cCall, v_cPlace, hl0, hi, hx, b_X12_run_61, U10k, e_0, nI_sub1, cl_nI, nI_lt0, ck_T, ckn, not_false_eq_true, false_or, Nat.not_le, i2, i3, f_X12_goesOn, b_X12_goesOn_36, bb, sb, ↓reduceIte]
    exact ⟨-9, _, _, _, _, -1, re, _, _, _, _, l, ta, rfl, ⟨hT, hs, rY.mk ha, rD0, hQ, hK, hr, rC.same hl hc, hO⟩, rfl, hl, hts, hta, by omega, h1, .inl ⟨rfl, .inr ⟨by decide, by omega⟩, rfl⟩⟩
  · have hx1 : (400 : Int32) ≤ pa (l - 1) := hx
    have hx0 := ge0 hx1
    have hx2 := lt_of_nle hx1
    simp (decide := true) (disch := omega) only [f_X3_goOn, f_X3_goOnWithCall, f_X5_isCell, v_cCall, v_cPlace, hl0, hi, hx0, hx1, hx2, b_X12_run_61, U10k, e_0, nI_sub1, cl_nI, nI_lt0, ck_T, ckn, not_false_eq_true, false_or, Nat.not_le, i2, i3, f_X12_goesOn, b_X12_goesOn_36, bb, sb, ↓reduceIte]
    exact ⟨-9, _, _, _, _, -1, re, _, _, _, _, l, ta, rfl, ⟨hT, hs, rY.mk ha, rD0, hQ, hK, hr, rC.same hl hc, hO⟩, rfl, hl, hts, hta, by omega, h1, .inl ⟨rfl, .inr ⟨by decide, by omega⟩, rfl⟩⟩
  · rcases pk_ix (cz u) (n := 82 + e) (by omega) with hz | hz | ⟨j, hj, hz⟩
    · simp (decide := true) (disch := omega) only [f_X3_goOn, f_X3_goOnWithCall, f_X5_isCell, v_cCall, v_cPlace, v_at, f_X2_isWord, hl0, hi, hx, hz, LE400, LT400, b_X12_run_61, U10k, e_0, nI_sub1, cl_nI, nI_lt0, ck_T, ckn, not_false_eq_true, false_or, Nat.not_le, i2, i3, f_X12_goesOn, b_X12_goesOn_36, f_X12_isWord, bb, sb, ↓reduceIte]
      exact ⟨-9, _, _, _, _, -1, re, _, _, _, _, l, ta, rfl, ⟨hT, hs, rY.mk ha, rD0, hQ, hK, hr, rC.same hl hc, hO⟩, rfl, hl, hts, hta, by omega, h1, .inl ⟨rfl, .inr ⟨by decide, by omega⟩, rfl⟩⟩
    · have hz1 : nI (82 + e) ≤ cz u := hz
      have hz0 := ge0N hz1 (by omega)
      simp (decide := true) (disch := omega) only [f_X3_goOn, f_X3_goOnWithCall, f_X5_isCell, v_cCall, v_cPlace, v_at, f_X2_isWord, a82, hl0, hi, hx, hz0, hz1, LE400, LT400, b_X12_run_61, U10k, e_0, nI_sub1, cl_nI, nI_lt0, ck_T, ckn, not_false_eq_true, false_or, Nat.not_le, i2, i3, f_X12_goesOn, b_X12_goesOn_36, f_X12_isWord, bb, sb, ↓reduceIte]
      exact ⟨-9, _, _, _, _, -1, re, _, _, _, _, l, ta, rfl, ⟨hT, hs, rY.mk ha, rD0, hQ, hK, hr, rC.same hl hc, hO⟩, rfl, hl, hts, hta, by omega, h1, .inl ⟨rfl, .inr ⟨by decide, by omega⟩, rfl⟩⟩
    · have hj2 : (82 + e ≤ j) = False := eq_false (by omega)
      simp (decide := true) (disch := omega) only [f_X3_goOn, f_X3_goOnWithCall, f_X5_isCell, v_cCall, v_cPlace, v_cGo, v_at, f_X2_isWord, a82, LEn, hl0, hi, hx, hz, hj2, LE400, LT400, b_X12_run_61, U10k, e_0, nI_sub1, nI_add1, cl_nI, nI_lt0, ck_T, ckn, not_false_eq_true, false_or, Nat.not_le, i2, i3, f_X12_goesOn, b_X12_goesOn_36, f_X12_isWord, bb, sb, ↓reduceIte]
      refine ⟨0, _, _, _, _, nI j, re, _, _, _, _, l, ta, rfl, ⟨hT, hs, rY.mk ha, rD0, hQ, hK, hr, rC.go hl hl0 hi i2 hc, hO⟩, rfl, hl, hts, hta, by omega, h1, .inr ⟨j, e, rfl, rfl, ?_, rfl, he, hj, by omega, rfl⟩⟩
      intro v e1 e2 e3
      have e4 : nI l = nI (v + 1) := e1
      have e5 := (nI_eq (by omega) (by omega)).mp e4
      refine ⟨u + 1, by omega, ?_⟩
      show upd pa (l - 1) (nI (u + 1)) v = nI (u + 1)
      rw [upd_at, if_pos (by omega)]
def gI (T : mT) (O : mO) (x : Option (mS × mR × mC × mY × mD × mK × mP × mM)) : Option (mT × mS × mR × mC × mY × mD × mK × mP × mO × mM) := x.bind fun u => some (T, u.1, u.2.1, u.2.2.1, u.2.2.2.1, u.2.2.2.2.1, u.2.2.2.2.2.1, u.2.2.2.2.2.2.1, O, u.2.2.2.2.2.2.2)
def gJ (x : Option (mT × mS × mR × mC × mY × mD × mK × mP × mO × mM)) : Option (mT × mS × mR × mC × mY × mD × mK × mP × mO × mM) := x.bind fun u => some (u.1, u.2.1, u.2.2.1, u.2.2.2.1, u.2.2.2.2.1, u.2.2.2.2.2.1, u.2.2.2.2.2.2.1, u.2.2.2.2.2.2.2.1, u.2.2.2.2.2.2.2.2.1, u.2.2.2.2.2.2.2.2.2)
theorem gI_M (m : Nat) (y3 : Int32) (T : mT) (O : mO) (x : Option (mS × mR × mC × mY × mD × mK × mP × mM)) : gC m y3 (gI T O x) = gM m y3 T O x := by cases x <;> rfl
theorem gJ_C (m : Nat) (y3 : Int32) (x : Option (mT × mS × mR × mC × mY × mD × mK × mP × mO × mM)) : gC m y3 (gJ x) = gC m y3 x := by cases x <;> rfl
/-- no call: the text is read on -/
theorem go_text (hR : REL t s y d q k r (nI 0, pa, ic, ns, nr) o T S R (nI 0, PA, HS, HR) Y D K Q O) (hts : t.1 = nI ts) (hta : t.2.1 = nI ta) (hts2 : ts ≤ 200) (h0 : ta ≤ ts) (hy3 : y3 < 10000) (al st ca an th lf st' ca' nx0 re : Int32) : GO 0 ts ta m (nI y3) d q k r o R D K Q O al st ca an th lf st' ca' nx0 (f_X3_goOn t s y d k (nI 0, pa, ic, ns, nr) (al, st, ca, -1, 0, an)) (b_X12_run_61 (m + 1) (nI y3) T S R (nI 0, PA, HS, HR) Y D K Q O (th, lf, st', ca', nx0, re, 0)) ∨ ∃ (t1 : tT) (T1 : mT), f_X3_goOn t s y d k (nI 0, pa, ic, ns, nr) (al, st, ca, -1, 0, an) = some (0, t1, s, y, (nI 0, pa, ic, ns, nr), (al, st, ca, -1, 1, an)) ∧ b_X12_run_61 (m + 1) (nI y3) T S R (nI 0, PA, HS, HR) Y D K Q O (th, lf, st', ca', nx0, re, 0) = b_X12_run_114 (b_X12_run_61 m) (nI y3) T1 S R (nI 0, PA, HS, HR) Y D K Q O (th, lf, st', ca', nx0, 0, 1) ∧ rT t1 T1 := by
  obtain ⟨hT, ⟨n, f, F, hn, rfl, rfl, hf⟩, hY, hD, hQ, hK, hr, hC, hO⟩ := hR
  obtain ⟨rfl, tA, tB, tu, tl, tf, rfl, htA, htB, htu, htc⟩ := hT
  obtain rfl : tA = ts := (nI_eq (by omega) (by omega)).mp hts
  obtain rfl : tB = ta := (nI_eq (by omega) (by omega)).mp hta
  obtain ⟨a1, b1, c1, h1, h2, h3, h4, h5, h6, g1, g2⟩ := take_name tf tA tB htA htB (nI tu) (nI tl)
  by_cases q0 : a1 < b1
  case neg =>
    refine .inr ⟨(nI tA, nI c1, nI a1, nI (b1 - a1), tf), (nI tA, nI c1, nI a1, nI (b1 - a1), tf), ?_, ?_, rT.mk htA (by omega) (by omega) htc⟩
    · simp (decide := true) (disch := omega) only [f_X3_goOn, v_cCall, v_cIsCatch, g1, if_neg q0, sb, ↓reduceIte]
    · simp (decide := true) (disch := omega) only [b_X12_run_61, U10k, f_X12_interpret, g2, if_neg q0, sb, ↓reduceIte]
  case pos =>
  left
  obtain ⟨rfl, a, cz, ha, rfl⟩ := hY
  obtain ⟨e, bg, le, ln, pl, so, be, im, fi, he, rfl, rfl, hbg, hW⟩ := hD
  obtain ⟨rfl, hk⟩ := hK
  have rD0 := rD.same (le := le) he hbg hW
  have hC0 : rC (nI 0, pa, ic, ns, nr) (nI 0, PA, HS, HR) := hC
  have PL0 : PL (nI 0, pa, ic, ns, nr) := fun v e1 e2 e3 => absurd ((nI_eq (by omega) (by omega)).mp (show nI 0 = nI (v + 1) from e1)) (by omega)
  have hup : ∀ x : Int32, ∀ i, i < n + 1 → upd F n x i = upd f n x i := fun x i hi => by
    rw [upd_at, upd_at]; split
    · rfl
    · exact hf i (by omega)
  have h6' := h6 q0
  have hcl : f_X3_goOn (nI tA, nI tB, nI tu, nI tl, tf) (nI n, f) (nI a, cz) (nI e, le, ln, pl, so, be, im, fi) K (nI 0, pa, ic, ns, nr) (al, st, ca, -1, 0, an) = (f_X3_readName (nI tA, nI c1, nI a1, nI (b1 - a1), tf) (nI n, f) (nI a, cz) (nI e, le, ln, pl, so, be, im, fi) K (al, st, ca, -1, 0, an)).bind (fun u10 => some (u10.1, (nI tA, nI c1, nI a1, nI (b1 - a1), tf), u10.2.1, u10.2.2.1, (nI 0, pa, ic, ns, nr), u10.2.2.2)) := by
    simp (decide := true) (disch := omega) only [f_X3_goOn, v_cCall, v_cIsCatch, g1, if_pos q0, sb, ↓reduceIte]
  have hmo : b_X12_run_61 (m + 1) (nI y3) (nI tA, nI tB, nI tu, nI tl, tf) (nI n, F) R (nI 0, PA, HS, HR) (nI a, cz) (nI e, mkf e fi, bg, pl, so, be, im, fi, le, ln) K Q O (th, lf, st', ca', nx0, re, 0) = gC m (nI y3) (f_X12_interpret (nI tA, nI tB, nI tu, nI tl, tf) (nI n, F) R (nI 0, PA, HS, HR) (nI a, cz) (nI e, mkf e fi, bg, pl, so, be, im, fi, le, ln) K Q O (th, lf, st', ca', nx0, re, 0)) := by
    simp (decide := true) (disch := omega) only [b_X12_run_61, U10k, gC, ↓reduceIte]
  obtain ⟨w, g3, g4, hw⟩ := find_eq (e := e) (l := b1 - a1) (u := a1) (A := nI tA) (B := nI c1) (mk := mkf e fi) (bg := bg) (le := le) (ln := ln) (pl := pl) (so := so) (be := be) (im := im) (fi := fi) (f := tf) he (by omega) (by omega) htc (fun i hi => by obtain ⟨_, _, _, _, l, _, h2, h3⟩ := hW i hi; exact ⟨l, h2, h3⟩)
  rcases hw with rfl | ⟨j, hj, rfl⟩
  · have hin : f_X12_interpret (nI tA, nI tB, nI tu, nI tl, tf) (nI n, F) R (nI 0, PA, HS, HR) (nI a, cz) (nI e, mkf e fi, bg, pl, so, be, im, fi, le, ln) K Q O (th, lf, st', ca', nx0, re, 0) = b_X12_interpret_69 (-1) (nI tA, nI c1, nI a1, nI (b1 - a1), tf) (nI n, F) R (nI 0, PA, HS, HR) (nI a, cz) (nI e, mkf e fi, bg, pl, so, be, im, fi, le, ln) K Q O (th, lf, st', ca', nx0, re, 0) := by
      unfold f_X12_interpret
      rw [g2, if_pos q0, sb]
      dsimp only
      rw [if_neg (show ¬ (1 : Int32) = 0 by decide), g4, sb, if_pos (show (-1 : Int32) < 0 by decide)]
    rcases number_eq (a := a1) (l := b1 - a1) (by omega) (by omega) htc (nI tA) (nI c1) (th, lf, st', ca', nx0, re, 0) with ⟨n1, n2⟩ | ⟨v, hv, n1, n2⟩
    · by_cases h9 : b1 - a1 ≤ 9
      · have h9' : nI (b1 - a1) ≤ 9 := le'_9 h9
        have r1 : f_X3_readName (nI tA, nI c1, nI a1, nI (b1 - a1), tf) (nI n, f) (nI a, cz) (nI e, le, ln, pl, so, be, im, fi) K (al, st, ca, -1, 0, an) = some ((-13), (nI n, f), (nI a, cz), (al, st, ca, (-1), 0, an)) := by
          simp (decide := true) (disch := omega) only [f_X3_readName, b_X3_readName_47, g3, ne_m1, cl_nI, nI_lt0, nI_add1, a11, f_X9_nameIsTooLong, s_put, s_putF, s_both, s_bothF, s_app, s_appF, sb, ↓reduceIte, n1, n2, h9']
        have r2 : f_X12_interpret (nI tA, nI tB, nI tu, nI tl, tf) (nI n, F) R (nI 0, PA, HS, HR) (nI a, cz) (nI e, mkf e fi, bg, pl, so, be, im, fi, le, ln) K Q O (th, lf, st', ca', nx0, re, 0) = gI (nI tA, nI c1, nI a1, nI (b1 - a1), tf) O (f_X12_meet (-13) (nI n, F) R (nI 0, PA, HS, HR) (nI a, cz) (nI e, mkf e fi, bg, pl, so, be, im, fi, le, ln) K Q (th, lf, st', ca', nx0, re, 0)) := by
          simp (decide := true) (disch := omega) only [hin, b_X12_interpret_63, b_X12_interpret_69, b_X12_interpret_105, b_X12_interpret_148, b_X12_interpret_177, Int32.add_zero, cl_nI, nI_lt0, nI_add1, a11, nlt30, e_30, E400, K398, LEn, w_push, w_append, gI, gJ, sb, ↓reduceIte, n1, n2, h9']
        rw [r1] at hcl; rw [r2] at hmo; rw [hcl, hmo, sb, gI_M]
        exact ⟨(-13), _, _, _, _, -1, re, _, _, _, _, 0, c1, rfl, ⟨rT.mk htA (by omega) (by omega) htc, rS.mk hn hf, rY.mk ha, rD0, hQ, ⟨rfl, hk⟩, hr, hC0, hO⟩, rfl, by omega, rfl, rfl, by omega, h4, .inl ⟨rfl, .inl (by omega), rfl⟩⟩
      · have h9' : ¬ nI (b1 - a1) ≤ 9 := nle'_9 (by omega) (by omega)
        have r1 : f_X3_readName (nI tA, nI c1, nI a1, nI (b1 - a1), tf) (nI n, f) (nI a, cz) (nI e, le, ln, pl, so, be, im, fi) K (al, st, ca, -1, 0, an) = some ((-19), (nI n, f), (nI a, cz), (al, st, ca, (-1), 0, an)) := by
          simp (decide := true) (disch := omega) only [f_X3_readName, b_X3_readName_47, g3, ne_m1, cl_nI, nI_lt0, nI_add1, a11, f_X9_nameIsTooLong, s_put, s_putF, s_both, s_bothF, s_app, s_appF, sb, ↓reduceIte, n1, n2, h9']
        have r2 : f_X12_interpret (nI tA, nI tB, nI tu, nI tl, tf) (nI n, F) R (nI 0, PA, HS, HR) (nI a, cz) (nI e, mkf e fi, bg, pl, so, be, im, fi, le, ln) K Q O (th, lf, st', ca', nx0, re, 0) = gI (nI tA, nI c1, nI a1, nI (b1 - a1), tf) O (f_X12_meet (-19) (nI n, F) R (nI 0, PA, HS, HR) (nI a, cz) (nI e, mkf e fi, bg, pl, so, be, im, fi, le, ln) K Q (th, lf, st', ca', nx0, re, 0)) := by
          simp (decide := true) (disch := omega) only [hin, b_X12_interpret_63, b_X12_interpret_69, b_X12_interpret_105, b_X12_interpret_148, b_X12_interpret_177, Int32.add_zero, cl_nI, nI_lt0, nI_add1, a11, nlt30, e_30, E400, K398, LEn, w_push, w_append, gI, gJ, sb, ↓reduceIte, n1, n2, h9']
        rw [r1] at hcl; rw [r2] at hmo; rw [hcl, hmo, sb, gI_M]
        exact ⟨(-19), _, _, _, _, -1, re, _, _, _, _, 0, c1, rfl, ⟨rT.mk htA (by omega) (by omega) htc, rS.mk hn hf, rY.mk ha, rD0, hQ, ⟨rfl, hk⟩, hr, hC0, hO⟩, rfl, by omega, rfl, rfl, by omega, h4, .inl ⟨rfl, .inl (by omega), rfl⟩⟩
    · have hv' : ¬ lg_cmp v 2147483648 = 0 := fun z => hv ((lg_cmp_eq _ _).mp z)
      rcases hk with rfl | ⟨rfl, hk1⟩
      · by_cases h30 : n < 30
        · have r1 : f_X3_readName (nI tA, nI c1, nI a1, nI (b1 - a1), tf) (nI n, f) (nI a, cz) (nI e, le, ln, pl, so, be, im, fi) 0 (al, st, ca, -1, 0, an) = some (0, (nI (n + 1), upd f n v.toInt32), (nI a, cz), (al, st, ca, (-1), 0, an)) := by
            simp (decide := true) (disch := omega) only [f_X3_readName, b_X3_readName_47, g3, ne_m1, cl_nI, nI_lt0, nI_add1, a11, f_X9_nameIsTooLong, s_put, s_putF, s_both, s_bothF, s_app, s_appF, sb, ↓reduceIte, n1, n2, hv', numM, h30]
          have r2 : f_X12_interpret (nI tA, nI tB, nI tu, nI tl, tf) (nI n, F) R (nI 0, PA, HS, HR) (nI a, cz) (nI e, mkf e fi, bg, pl, so, be, im, fi, le, ln) 0 Q O (th, lf, st', ca', nx0, re, 0) = gI (nI tA, nI c1, nI a1, nI (b1 - a1), tf) O (f_X12_meet 0 (nI (n + 1), upd F n v.toInt32) R (nI 0, PA, HS, HR) (nI a, cz) (nI e, mkf e fi, bg, pl, so, be, im, fi, le, ln) 0 Q (th, lf, st', ca', nx0, v.toInt32, 0)) := by
            simp (decide := true) (disch := omega) only [hin, b_X12_interpret_63, b_X12_interpret_69, b_X12_interpret_105, b_X12_interpret_148, b_X12_interpret_177, Int32.add_zero, cl_nI, nI_lt0, nI_add1, a11, nlt30, e_30, E400, K398, LEn, w_push, w_append, gI, gJ, sb, ↓reduceIte, n1, n2, hv', numM, h30]
          rw [r1] at hcl; rw [r2] at hmo; rw [hcl, hmo, sb, gI_M]
          exact ⟨0, _, _, _, _, -1, v.toInt32, _, _, _, _, 0, c1, rfl, ⟨rT.mk htA (by omega) (by omega) htc, rS.mk (by omega) (hup _), rY.mk ha, rD0, hQ, ⟨rfl, .inl rfl⟩, hr, hC0, hO⟩, rfl, by omega, rfl, rfl, by omega, h4, .inl ⟨rfl, .inl (by omega), rfl⟩⟩
        · obtain rfl : n = 30 := by omega
          have r1 : f_X3_readName (nI tA, nI c1, nI a1, nI (b1 - a1), tf) (nI 30, f) (nI a, cz) (nI e, le, ln, pl, so, be, im, fi) 0 (al, st, ca, -1, 0, an) = some ((-3), (nI 30, f), (nI a, cz), (al, st, ca, (-1), 0, an)) := by
            simp (decide := true) (disch := omega) only [f_X3_readName, b_X3_readName_47, g3, ne_m1, cl_nI, nI_lt0, nI_add1, a11, f_X9_nameIsTooLong, s_put, s_putF, s_both, s_bothF, s_app, s_appF, sb, ↓reduceIte, n1, n2, hv', numM]
          have r2 : f_X12_interpret (nI tA, nI tB, nI tu, nI tl, tf) (nI 30, F) R (nI 0, PA, HS, HR) (nI a, cz) (nI e, mkf e fi, bg, pl, so, be, im, fi, le, ln) 0 Q O (th, lf, st', ca', nx0, re, 0) = gI (nI tA, nI c1, nI a1, nI (b1 - a1), tf) O (f_X12_meet (-3) (nI 30, F) R (nI 0, PA, HS, HR) (nI a, cz) (nI e, mkf e fi, bg, pl, so, be, im, fi, le, ln) 0 Q (th, lf, st', ca', nx0, v.toInt32, 0)) := by
            simp (decide := true) (disch := omega) only [hin, b_X12_interpret_63, b_X12_interpret_69, b_X12_interpret_105, b_X12_interpret_148, b_X12_interpret_177, Int32.add_zero, cl_nI, nI_lt0, nI_add1, a11, nlt30, e_30, E400, K398, LEn, w_push, w_append, gI, gJ, sb, ↓reduceIte, n1, n2, hv', numM]
          rw [r1] at hcl; rw [r2] at hmo; rw [hcl, hmo, sb, gI_M]
          exact ⟨(-3), _, _, _, _, -1, v.toInt32, _, _, _, _, 0, c1, rfl, ⟨rT.mk htA (by omega) (by omega) htc, rS.mk hn hf, rY.mk ha, rD0, hQ, ⟨rfl, .inl rfl⟩, hr, hC0, hO⟩, rfl, by omega, rfl, rfl, by omega, h4, .inl ⟨rfl, .inl (by omega), rfl⟩⟩
      · by_cases h5 : a ≤ 398
        · have r1 : f_X3_readName (nI tA, nI c1, nI a1, nI (b1 - a1), tf) (nI n, f) (nI a, cz) (nI e, le, ln, pl, so, be, im, fi) 1 (al, st, ca, -1, 0, an) = some (0, (nI n, f), (nI (a + 2), upd (upd cz a 1) (a + 1) v.toInt32), (al, st, ca, (-1), 0, an)) := by
            simp (decide := true) (disch := omega) only [f_X3_readName, b_X3_readName_47, g3, ne_m1, cl_nI, nI_lt0, nI_add1, a11, f_X9_nameIsTooLong, s_put, s_putF, s_both, s_bothF, s_app, s_appF, sb, ↓reduceIte, n1, n2, hv', numM, h5]
          have r2 : f_X12_interpret (nI tA, nI tB, nI tu, nI tl, tf) (nI n, F) R (nI 0, PA, HS, HR) (nI a, cz) (nI e, mkf e fi, bg, pl, so, be, im, fi, le, ln) 1 Q O (th, lf, st', ca', nx0, re, 0) = gI (nI tA, nI c1, nI a1, nI (b1 - a1), tf) O (f_X12_meet 0 (nI n, F) R (nI 0, PA, HS, HR) (nI (a + 2), upd (upd cz a 1) (a + 1) v.toInt32) (nI e, mkf e fi, bg, pl, so, be, im, fi, le, ln) 1 Q (th, lf, st', ca', nx0, v.toInt32, 0)) := by
            simp (decide := true) (disch := omega) only [hin, b_X12_interpret_63, b_X12_interpret_69, b_X12_interpret_105, b_X12_interpret_148, b_X12_interpret_177, Int32.add_zero, cl_nI, nI_lt0, nI_add1, a11, nlt30, e_30, E400, K398, LEn, w_push, w_append, gI, gJ, sb, ↓reduceIte, n1, n2, hv', numM, h5]
          rw [r1] at hcl; rw [r2] at hmo; rw [hcl, hmo, sb, gI_M]
          exact ⟨0, _, _, _, _, -1, v.toInt32, _, _, _, _, 0, c1, rfl, ⟨rT.mk htA (by omega) (by omega) htc, rS.mk hn hf, rY.mk (by omega), rD0, hQ, ⟨rfl, .inr ⟨rfl, hk1⟩⟩, hr, hC0, hO⟩, rfl, by omega, rfl, rfl, by omega, h4, .inl ⟨rfl, .inl (by omega), rfl⟩⟩
        · have r1 : f_X3_readName (nI tA, nI c1, nI a1, nI (b1 - a1), tf) (nI n, f) (nI a, cz) (nI e, le, ln, pl, so, be, im, fi) 1 (al, st, ca, -1, 0, an) = some ((-8), (nI n, f), (nI a, cz), (al, st, ca, (-1), 0, an)) := by
            simp (decide := true) (disch := omega) only [f_X3_readName, b_X3_readName_47, g3, ne_m1, cl_nI, nI_lt0, nI_add1, a11, f_X9_nameIsTooLong, s_put, s_putF, s_both, s_bothF, s_app, s_appF, sb, ↓reduceIte, n1, n2, hv', numM, h5]
          have r2 : f_X12_interpret (nI tA, nI tB, nI tu, nI tl, tf) (nI n, F) R (nI 0, PA, HS, HR) (nI a, cz) (nI e, mkf e fi, bg, pl, so, be, im, fi, le, ln) 1 Q O (th, lf, st', ca', nx0, re, 0) = gI (nI tA, nI c1, nI a1, nI (b1 - a1), tf) O (f_X12_meet (-8) (nI n, F) R (nI 0, PA, HS, HR) (nI a, cz) (nI e, mkf e fi, bg, pl, so, be, im, fi, le, ln) 1 Q (th, lf, st', ca', nx0, v.toInt32, 0)) := by
            simp (decide := true) (disch := omega) only [hin, b_X12_interpret_63, b_X12_interpret_69, b_X12_interpret_105, b_X12_interpret_148, b_X12_interpret_177, Int32.add_zero, cl_nI, nI_lt0, nI_add1, a11, nlt30, e_30, E400, K398, LEn, w_push, w_append, gI, gJ, sb, ↓reduceIte, n1, n2, hv', numM, h5]
          rw [r1] at hcl; rw [r2] at hmo; rw [hcl, hmo, sb, gI_M]
          exact ⟨(-8), _, _, _, _, -1, v.toInt32, _, _, _, _, 0, c1, rfl, ⟨rT.mk htA (by omega) (by omega) htc, rS.mk hn hf, rY.mk ha, rD0, hQ, ⟨rfl, .inr ⟨rfl, hk1⟩⟩, hr, hC0, hO⟩, rfl, by omega, rfl, rfl, by omega, h4, .inl ⟨rfl, .inl (by omega), rfl⟩⟩
  · have hin : f_X12_interpret (nI tA, nI tB, nI tu, nI tl, tf) (nI n, F) R (nI 0, PA, HS, HR) (nI a, cz) (nI e, mkf e fi, bg, pl, so, be, im, fi, le, ln) K Q O (th, lf, st', ca', nx0, re, 0) = if K = 0 then b_X12_interpret_69 (nI j) (nI tA, nI c1, nI a1, nI (b1 - a1), tf) (nI n, F) R (nI 0, PA, HS, HR) (nI a, cz) (nI e, mkf e fi, bg, pl, so, be, im, fi, le, ln) K Q O (th, lf, st', ca', nx0, re, 0) else (f_X12_isImmediate (nI j) (nI e, mkf e fi, bg, pl, so, be, im, fi, le, ln)).bind fun u8 => if u8 = 0 then (if nI a = 400 then b_X12_interpret_63 (-8) (nI tA, nI c1, nI a1, nI (b1 - a1), tf) (nI n, F) R (nI 0, PA, HS, HR) (nI a, cz) (nI e, mkf e fi, bg, pl, so, be, im, fi, le, ln) K Q O (th, lf, st', ca', nx0, re, 0) else (f_X12_append (nI j) (nI a, cz)).bind fun u12 => b_X12_interpret_63 u12.1 (nI tA, nI c1, nI a1, nI (b1 - a1), tf) (nI n, F) R (nI 0, PA, HS, HR) u12.2 (nI e, mkf e fi, bg, pl, so, be, im, fi, le, ln) K Q O (th, lf, st', ca', nx0, re, 0)) else b_X12_interpret_69 (nI j) (nI tA, nI c1, nI a1, nI (b1 - a1), tf) (nI n, F) R (nI 0, PA, HS, HR) (nI a, cz) (nI e, mkf e fi, bg, pl, so, be, im, fi, le, ln) K Q O (th, lf, st', ca', nx0, re, 0) := by
      unfold f_X12_interpret
      rw [g2, if_pos q0, sb]
      dsimp only
      rw [if_neg (show ¬ (1 : Int32) = 0 by decide), g4, sb, if_neg (nI_pos (by omega))]
    by_cases hk0 : K = 0
    · subst hk0
      have r1 : f_X3_readName (nI tA, nI c1, nI a1, nI (b1 - a1), tf) (nI n, f) (nI a, cz) (nI e, le, ln, pl, so, be, im, fi) 0 (al, st, ca, -1, 0, an) = some (0, (nI n, f), (nI a, cz), (al, st, ca, nI j, 0, an)) := by
        simp (decide := true) (disch := omega) only [f_X3_readName, b_X3_readName_47, g3, ne_m1, cl_nI, nI_lt0, nI_add1, a11, f_X9_nameIsTooLong, s_put, s_putF, s_both, s_bothF, s_app, s_appF, sb, ↓reduceIte, gle_0]
      have r2 : f_X12_interpret (nI tA, nI tB, nI tu, nI tl, tf) (nI n, F) R (nI 0, PA, HS, HR) (nI a, cz) (nI e, mkf e fi, bg, pl, so, be, im, fi, le, ln) 0 Q O (th, lf, st', ca', nx0, re, 0) = gJ (f_X12_carry (nI j) (nI tA, nI c1, nI a1, nI (b1 - a1), tf) (nI n, F) R (nI 0, PA, HS, HR) (nI a, cz) (nI e, mkf e fi, bg, pl, so, be, im, fi, le, ln) 0 Q O (th, lf, st', ca', nx0, re, 0)) := by
        simp (decide := true) (disch := omega) only [hin, b_X12_interpret_63, b_X12_interpret_69, b_X12_interpret_105, b_X12_interpret_148, b_X12_interpret_177, Int32.add_zero, cl_nI, nI_lt0, nI_add1, a11, nlt30, e_30, E400, K398, LEn, w_push, w_append, gI, gJ, sb, ↓reduceIte, gle_0]
      rw [r1] at hcl; rw [r2] at hmo; rw [hcl, hmo, sb, gJ_C]
      exact ⟨0, _, _, _, _, nI j, re, _, _, _, _, 0, c1, rfl, ⟨rT.mk htA (by omega) (by omega) htc, rS.mk hn hf, rY.mk ha, rD0, hQ, ⟨rfl, hk⟩, hr, hC0, hO⟩, rfl, by omega, rfl, rfl, by omega, h4, .inr ⟨j, e, rfl, rfl, PL0, rfl, he, hj, by omega, rfl⟩⟩
    · obtain ⟨v, hv, g5, g6⟩ := imm_eq (le := le) (bg := bg) hj he hW
      rcases hv with rfl | rfl
      · by_cases h5 : a ≤ 399
        · have r1 : f_X3_readName (nI tA, nI c1, nI a1, nI (b1 - a1), tf) (nI n, f) (nI a, cz) (nI e, le, ln, pl, so, be, im, fi) K (al, st, ca, -1, 0, an) = some (0, (nI n, f), (nI (a + 1), upd cz a (nI j)), (al, st, ca, (-1), 0, an)) := by
            simp (decide := true) (disch := omega) only [f_X3_readName, b_X3_readName_47, g3, ne_m1, cl_nI, nI_lt0, nI_add1, a11, f_X9_nameIsTooLong, s_put, s_putF, s_both, s_bothF, s_app, s_appF, sb, ↓reduceIte, g5, g6, hk0, h5]
          have r2 : f_X12_interpret (nI tA, nI tB, nI tu, nI tl, tf) (nI n, F) R (nI 0, PA, HS, HR) (nI a, cz) (nI e, mkf e fi, bg, pl, so, be, im, fi, le, ln) K Q O (th, lf, st', ca', nx0, re, 0) = gI (nI tA, nI c1, nI a1, nI (b1 - a1), tf) O (f_X12_meet 0 (nI n, F) R (nI 0, PA, HS, HR) (nI (a + 1), upd cz a (nI j)) (nI e, mkf e fi, bg, pl, so, be, im, fi, le, ln) K Q (th, lf, st', ca', nx0, re, 0)) := by
            simp (decide := true) (disch := omega) only [hin, b_X12_interpret_63, b_X12_interpret_69, b_X12_interpret_105, b_X12_interpret_148, b_X12_interpret_177, Int32.add_zero, cl_nI, nI_lt0, nI_add1, a11, nlt30, e_30, E400, K398, LEn, w_push, w_append, gI, gJ, sb, ↓reduceIte, g5, g6, hk0, h5]
          rw [r1] at hcl; rw [r2] at hmo; rw [hcl, hmo, sb, gI_M]
          exact ⟨0, _, _, _, _, -1, re, _, _, _, _, 0, c1, rfl, ⟨rT.mk htA (by omega) (by omega) htc, rS.mk hn hf, rY.mk (by omega), rD0, hQ, ⟨rfl, hk⟩, hr, hC0, hO⟩, rfl, by omega, rfl, rfl, by omega, h4, .inl ⟨rfl, .inl (by omega), rfl⟩⟩
        · have r1 : f_X3_readName (nI tA, nI c1, nI a1, nI (b1 - a1), tf) (nI n, f) (nI a, cz) (nI e, le, ln, pl, so, be, im, fi) K (al, st, ca, -1, 0, an) = some ((-8), (nI n, f), (nI a, cz), (al, st, ca, (-1), 0, an)) := by
            simp (decide := true) (disch := omega) only [f_X3_readName, b_X3_readName_47, g3, ne_m1, cl_nI, nI_lt0, nI_add1, a11, f_X9_nameIsTooLong, s_put, s_putF, s_both, s_bothF, s_app, s_appF, sb, ↓reduceIte, g5, g6, hk0, h5]
          have r2 : f_X12_interpret (nI tA, nI tB, nI tu, nI tl, tf) (nI n, F) R (nI 0, PA, HS, HR) (nI a, cz) (nI e, mkf e fi, bg, pl, so, be, im, fi, le, ln) K Q O (th, lf, st', ca', nx0, re, 0) = gI (nI tA, nI c1, nI a1, nI (b1 - a1), tf) O (f_X12_meet (-8) (nI n, F) R (nI 0, PA, HS, HR) (nI a, cz) (nI e, mkf e fi, bg, pl, so, be, im, fi, le, ln) K Q (th, lf, st', ca', nx0, re, 0)) := by
            simp (decide := true) (disch := omega) only [hin, b_X12_interpret_63, b_X12_interpret_69, b_X12_interpret_105, b_X12_interpret_148, b_X12_interpret_177, Int32.add_zero, cl_nI, nI_lt0, nI_add1, a11, nlt30, e_30, E400, K398, LEn, w_push, w_append, gI, gJ, sb, ↓reduceIte, g5, g6, hk0, h5]
          rw [r1] at hcl; rw [r2] at hmo; rw [hcl, hmo, sb, gI_M]
          exact ⟨(-8), _, _, _, _, -1, re, _, _, _, _, 0, c1, rfl, ⟨rT.mk htA (by omega) (by omega) htc, rS.mk hn hf, rY.mk ha, rD0, hQ, ⟨rfl, hk⟩, hr, hC0, hO⟩, rfl, by omega, rfl, rfl, by omega, h4, .inl ⟨rfl, .inl (by omega), rfl⟩⟩
      · have r1 : f_X3_readName (nI tA, nI c1, nI a1, nI (b1 - a1), tf) (nI n, f) (nI a, cz) (nI e, le, ln, pl, so, be, im, fi) K (al, st, ca, -1, 0, an) = some (0, (nI n, f), (nI a, cz), (al, st, ca, nI j, 0, an)) := by
          simp (decide := true) (disch := omega) only [f_X3_readName, b_X3_readName_47, g3, ne_m1, cl_nI, nI_lt0, nI_add1, a11, f_X9_nameIsTooLong, s_put, s_putF, s_both, s_bothF, s_app, s_appF, sb, ↓reduceIte, g5, g6, hk0]
        have r2 : f_X12_interpret (nI tA, nI tB, nI tu, nI tl, tf) (nI n, F) R (nI 0, PA, HS, HR) (nI a, cz) (nI e, mkf e fi, bg, pl, so, be, im, fi, le, ln) K Q O (th, lf, st', ca', nx0, re, 0) = gJ (f_X12_carry (nI j) (nI tA, nI c1, nI a1, nI (b1 - a1), tf) (nI n, F) R (nI 0, PA, HS, HR) (nI a, cz) (nI e, mkf e fi, bg, pl, so, be, im, fi, le, ln) K Q O (th, lf, st', ca', nx0, re, 0)) := by
          simp (decide := true) (disch := omega) only [hin, b_X12_interpret_63, b_X12_interpret_69, b_X12_interpret_105, b_X12_interpret_148, b_X12_interpret_177, Int32.add_zero, cl_nI, nI_lt0, nI_add1, a11, nlt30, e_30, E400, K398, LEn, w_push, w_append, gI, gJ, sb, ↓reduceIte, g5, g6, hk0]
        rw [r1] at hcl; rw [r2] at hmo; rw [hcl, hmo, sb, gJ_C]
        exact ⟨0, _, _, _, _, nI j, re, _, _, _, _, 0, c1, rfl, ⟨rT.mk htA (by omega) (by omega) htc, rS.mk hn hf, rY.mk ha, rD0, hQ, ⟨rfl, hk⟩, hr, hC0, hO⟩, rfl, by omega, rfl, rfl, by omega, h4, .inr ⟨j, e, rfl, rfl, PL0, rfl, he, hj, by omega, rfl⟩⟩
end GOON
