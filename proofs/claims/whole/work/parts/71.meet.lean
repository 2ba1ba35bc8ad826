/-! an error is met -/
theorem am1 (j : Nat) : nI j + (-1) = nI j - 1 := by rw [Int32.sub_eq_add_neg]
/-- the latest catch: both find the same -/
theorem lc_loop {l : Nat} {pa ic ns nr PA HS HR : Nat → Int32} (hl : l ≤ 30) (hc : ∀ i, i < l → rC1 pa ic ns nr PA HS HR i) (e : Int32) (s : mS) (r : mR) (y : mY) (d : mD) (k : mK) (q : mP) (m : mM) : ∀ (j n n' : Nat), j ≤ l → j < n → j < n' → (∃ i, i < j ∧ ic i = 1 ∧ b_X1_latestCatch_7 n (nI j - 1) (nI l, pa, ic, ns, nr) = some (nI i) ∧ b_X12_meet_12 n' e (nI j - 1) s r (nI l, PA, HS, HR) y d k q m = b_X12_meet_31 e (nI i) s r (nI l, PA, HS, HR) y d k q m) ∨ (b_X1_latestCatch_7 n (nI j - 1) (nI l, pa, ic, ns, nr) = some (-1) ∧ b_X12_meet_12 n' e (nI j - 1) s r (nI l, PA, HS, HR) y d k q m = b_X12_meet_31 e (-1) s r (nI l, PA, HS, HR) y d k q m) := by
  intro j
  induction j with
  | zero =>
    intro n n' _ h1 h2
    obtain ⟨n, rfl⟩ : ∃ z, n = z + 1 := ⟨n - 1, by omega⟩
    obtain ⟨n', rfl⟩ : ∃ z, n' = z + 1 := ⟨n' - 1, by omega⟩
    right
    unfold b_X1_latestCatch_7 b_X12_meet_12
    rw [if_pos (show nI 0 - 1 < 0 by decide), if_pos (show nI 0 - 1 < 0 by decide)]
    exact ⟨rfl, rfl⟩
  | succ j ih =>
    intro n n' hj h1 h2
    obtain ⟨n, rfl⟩ : ∃ z, n = z + 1 := ⟨n - 1, by omega⟩
    obtain ⟨n', rfl⟩ : ∃ z, n' = z + 1 := ⟨n' - 1, by omega⟩
    rw [nI_m1 (show 0 < j + 1 by omega), Nat.add_sub_cancel]
    unfold b_X1_latestCatch_7 b_X12_meet_12
    rw [if_neg (nI_pos (by omega)), if_neg (nI_pos (by omega)), ck_t (in_ok (by omega) (by omega)), ck_t (in_ok (by omega) (by omega)), nI_clamp (by omega), am1]
    rcases hc j (by omega) with ⟨i1, i2, i3⟩ | ⟨i1, u, v, hu, hv, i2, i3, i4, i5⟩
    · rw [if_pos (show (nI l, pa, ic, ns, nr).2.2.1 j = 0 from i1), if_neg (show ¬ 0 ≤ (nI l, PA, HS, HR).2.2.1 j from fun q => by rw [show (nI l, PA, HS, HR).2.2.1 j = -1 from i2] at q; exact absurd q (by decide))]
      rcases ih n n' (by omega) (by omega) (by omega) with ⟨i, hi, g⟩ | g
      · exact .inl ⟨i, by omega, g⟩
      · exact .inr g
    · rw [if_neg (show ¬ (nI l, pa, ic, ns, nr).2.2.1 j = 0 from fun q => absurd (i1.symm.trans q) (by decide)), if_pos (show 0 ≤ (nI l, PA, HS, HR).2.2.1 j by rw [show (nI l, PA, HS, HR).2.2.1 j = nI u from i3]; exact gle_0 (by omega) (by omega))]
      exact .inl ⟨j, by omega, i1, rfl, rfl⟩
/-- a row is brought to a size -/
theorem rz_loop (er x : Int32) {u : Nat} (hu : u ≤ 30) : ∀ (r j n : Nat) (f : Nat → Int32), j ≤ 30 → u - j ≤ r → r < n → ∃ f' : Nat → Int32, b_X8_resize_5 er n (nI u) (nI j) (x, f) = some (nI u, f') ∧ (∀ i, i < j → f' i = f i) ∧ (∀ i, j ≤ i → i < u → f' i = 0) := by
  intro r
  induction r with
  | zero =>
    intro j n f h0 h1 h2
    obtain ⟨n, rfl⟩ : ∃ z, n = z + 1 := ⟨n - 1, by omega⟩
    unfold b_X8_resize_5 b_X8_resize_29
    rw [if_pos (nI_le (by omega) (by omega))]
    exact ⟨f, rfl, fun _ _ => rfl, fun i a b => by omega⟩
  | succ r ih =>
    intro j n f h0 h1 h2
    obtain ⟨n, rfl⟩ : ∃ z, n = z + 1 := ⟨n - 1, by omega⟩
    by_cases q : u ≤ j
    · unfold b_X8_resize_5 b_X8_resize_29
      rw [if_pos (nI_le q (by omega))]
      exact ⟨f, rfl, fun _ _ => rfl, fun i a b => by omega⟩
    · obtain ⟨f', g1, g2, g3⟩ := ih (j + 1) n (upd f j 0) (by omega) (by omega) (by omega)
      refine ⟨f', ?_, fun i hi => ?_, fun i a b => ?_⟩
      · unfold b_X8_resize_5
        rw [if_neg (nI_ge (by omega) (by omega)), if_neg (nle_30 (by omega)), ck_t (in_ok (by omega) (by omega)), nI_clamp (by omega), nI_1]
        exact g1
      · rw [g2 i (by omega), upd_at, if_neg (by omega)]
      · by_cases z : i = j
        · subst z; rw [g2 i (by omega), upd_at, if_pos rfl]
        · exact g3 i (by omega) b
section MEET
variable {l i u v : Nat} {PA HS HR : Nat → Int32}
theorem ms_loop (hi : i < 30) (hu : u ≤ 30) (hs : HS i = nI u) (e x L : Int32) (R : mR) (Y : mY) (D : mD) (K : mK) (Q : mP) (M : mM) : ∀ (r j n : Nat) (f : Nat → Int32), j ≤ 30 → u - j ≤ r → r < n → ∃ f' : Nat → Int32, b_X12_meet_46 n e (nI i) (nI j) (x, f) R (L, PA, HS, HR) Y D K Q M = b_X12_meet_74 FU e (nI i) R.1 (x, f') R (L, PA, HS, HR) Y D K Q M ∧ (∀ i, i < j → f' i = f i) ∧ (∀ i, j ≤ i → i < u → f' i = 0) := by
  intro r
  induction r with
  | zero =>
    intro j n f h0 h1 h2
    obtain ⟨n, rfl⟩ : ∃ z, n = z + 1 := ⟨n - 1, by omega⟩
    unfold b_X12_meet_46
    rw [ck_t (in_ok hi (by omega)), nI_clamp (by omega), if_pos (show (L, PA, HS, HR).2.2.1 i ≤ nI j by rw [show (L, PA, HS, HR).2.2.1 i = nI u from hs]; exact nI_le (by omega) (by omega))]
    exact ⟨f, rfl, fun _ _ => rfl, fun i a b => by omega⟩
  | succ r ih =>
    intro j n f h0 h1 h2
    obtain ⟨n, rfl⟩ : ∃ z, n = z + 1 := ⟨n - 1, by omega⟩
    by_cases q : u ≤ j
    · unfold b_X12_meet_46
      rw [ck_t (in_ok hi (by omega)), nI_clamp (by omega), if_pos (show (L, PA, HS, HR).2.2.1 i ≤ nI j by rw [show (L, PA, HS, HR).2.2.1 i = nI u from hs]; exact nI_le (by omega) (by omega))]
      exact ⟨f, rfl, fun _ _ => rfl, fun i a b => by omega⟩
    · obtain ⟨f', g1, g2, g3⟩ := ih (j + 1) n (upd f j 0) (by omega) (by omega) (by omega)
      refine ⟨f', ?_, fun i hi => ?_, fun i a b => ?_⟩
      · unfold b_X12_meet_46
        rw [ck_t (in_ok hi (by omega)), nI_clamp (by omega), if_neg (show ¬ (L, PA, HS, HR).2.2.1 i ≤ nI j by rw [show (L, PA, HS, HR).2.2.1 i = nI u from hs]; exact nI_ge (by omega) (by omega)), ck_t (in_ok (by omega) (by omega)), nI_clamp (by omega), nI_1]
        exact g1
      · rw [g2 i (by omega), upd_at, if_neg (by omega)]
      · by_cases z : i = j
        · subst z; rw [g2 i (by omega), upd_at, if_pos rfl]
        · exact g3 i (by omega) b
theorem mr_loop (hi : i < 30) (hu : u ≤ 29) (hs : HS i = nI u) (hv : v ≤ 30) (hr : HR i = nI v) (e x1 x L : Int32) (F : Nat → Int32) (Y : mY) (D : mD) (K : mK) (Q : mP) (th lf st ca nx re en : Int32) : ∀ (r j n : Nat) (f : Nat → Int32), j ≤ 30 → v - j ≤ r → r < n → ∃ f' : Nat → Int32, b_X12_meet_74 n e (nI i) (nI j) (x1, F) (x, f) (L, PA, HS, HR) Y D K Q (th, lf, st, ca, nx, re, en) = some ((nI (u + 1), upd F u e), (nI v, f'), (nI i, PA, HS, HR), Y, D, K, Q, (th, lf, st, ca + 1, nx, re, en)) ∧ (∀ i, i < j → f' i = f i) ∧ (∀ i, j ≤ i → i < v → f' i = 0) := by
  have fin : ∀ (j n : Nat) (f : Nat → Int32), v ≤ j → j ≤ 30 → b_X12_meet_74 (n + 1) e (nI i) (nI j) (x1, F) (x, f) (L, PA, HS, HR) Y D K Q (th, lf, st, ca, nx, re, en) = some ((nI (u + 1), upd F u e), (nI v, f), (nI i, PA, HS, HR), Y, D, K, Q, (th, lf, st, ca + 1, nx, re, en)) := fun j n f h1 h2 => by
    unfold b_X12_meet_74
    rw [ck_t (in_ok hi (by omega)), ck_t (in_ok hi (by omega)), ck_t (in_ok hi (by omega)), nI_clamp (by omega), if_pos (show (L, PA, HS, HR).2.2.2 i ≤ nI j by rw [show (L, PA, HS, HR).2.2.2 i = nI v from hr]; exact nI_le (by omega) (by omega)), show (L, PA, HS, HR).2.2.1 i = nI u from hs, show (L, PA, HS, HR).2.2.2 i = nI v from hr, w_push (by omega), sb]
  intro r
  induction r with
  | zero =>
    intro j n f h0 h1 h2
    obtain ⟨n, rfl⟩ : ∃ z, n = z + 1 := ⟨n - 1, by omega⟩
    exact ⟨f, fin j n f (by omega) h0, fun _ _ => rfl, fun i a b => by omega⟩
  | succ r ih =>
    intro j n f h0 h1 h2
    obtain ⟨n, rfl⟩ : ∃ z, n = z + 1 := ⟨n - 1, by omega⟩
    by_cases q : v ≤ j
    · exact ⟨f, fin j n f q h0, fun _ _ => rfl, fun i a b => by omega⟩
    · obtain ⟨f', g1, g2, g3⟩ := ih (j + 1) n (upd f j 0) (by omega) (by omega) (by omega)
      refine ⟨f', ?_, fun i hi => ?_, fun i a b => ?_⟩
      · unfold b_X12_meet_74
        rw [ck_t (in_ok hi (by omega)), nI_clamp (by omega), if_neg (show ¬ (L, PA, HS, HR).2.2.2 i ≤ nI j by rw [show (L, PA, HS, HR).2.2.2 i = nI v from hr]; exact nI_ge (by omega) (by omega)), ck_t (in_ok (by omega) (by omega)), nI_clamp (by omega), nI_1]
        exact g1
      · rw [g2 i (by omega), upd_at, if_neg (by omega)]
      · by_cases z : i = j
        · subst z; rw [g2 i (by omega), upd_at, if_pos rfl]
        · exact g3 i (by omega) b
end MEET
/-- what a meeting leaves: the calls' number goes down, or the run is over -/
def MT (e : Int32) (s : tR) (d : tD) (c : tC) (al st ca nx ov an th lf st' ca' nx' re en : Int32) (s1 : tR) (d1 : tD) (c1 : tC) (m : tM) (M : mM) : Prop :=
  (e = 0 ∧ d1 = d ∧ c1 = c ∧ m = (al, st, ca, nx, ov, an) ∧ M = (th, lf, st', ca', nx', re, en)) ∨
  (e ≠ 0 ∧ (∃ l l0 : Nat, c1.1 = nI l ∧ c.1 = nI l0 ∧ l < l0 ∧ l0 ≤ 30) ∧ m = (al, st, ca + 1, nx, ov, an) ∧ M = (th, lf, st', ca' + 1, nx', re, en)) ∨
  (e ≠ 0 ∧ c1.1 = 0 ∧ m = (al, st, ca, -1, 1, e) ∧ M = (th, lf, st', ca', nx', e, 1))
section MEET2
variable {t : tT} {s : tR} {y : tY} {d : tD} {q : tP} {k : tK} {r : tR} {c : tC} {o : tO} {T : mT} {S : mS} {R : mR} {C : mC} {Y : mY} {D : mD} {K : mK} {Q : mP} {O : mO}
theorem rD.less {e : Nat} {bg : Int32} {le ln pl so be im fi : Nat → Int32} (he : e ≤ 40) (hW : WD e ln pl so be im fi) (hm : mkf e fi = 1) : rD (nI (e - 1), le, ln, pl, so, be, im, fi) (nI (e - 1), 0, bg, pl, so, be, im, fi, le, ln) := by
  have hp := mkf_pos hm
  have h1 : ∀ i, i < e - 1 → fi i = 1 := fun i hi => (hW i (by omega)).2.2.2.1.elim (fun z => absurd z.2 (by omega)) id
  have h0 : mkf (e - 1) fi = 0 := by
    unfold mkf; split
    · rfl
    · rw [if_neg (by rw [h1 (e - 1 - 1) (by omega)]; decide)]
  exact rD.same0 h0 (by omega) (fun z => absurd (z.symm.trans h0) (by decide)) fun i hi => by
    obtain ⟨w1, w2, w3, w4, w5⟩ := hW i (by omega)
    exact ⟨w1, w2, w3, .inr (h1 i hi), w5⟩
/-- the run is given up -/
theorem end_eq (hR : REL t s y d q k r c o T S R C Y D K Q O) (e al st ca nx ov an th lf st' ca' nx' re en : Int32) : ∃ (s1 : tR) (y1 : tY) (d1 : tD) (q1 : tP) (k1 : tK) (r1 : tR) (c1 : tC) (S1 : mS) (R1 : mR) (C1 : mC) (Y1 : mY) (D1 : mD) (K1' : mK) (Q1 : mP), f_X3_endWith e s y d q k r c (al, st, ca, nx, ov, an) = some (s1, y1, d1, q1, k1, r1, c1, (al, st, ca, -1, 1, e)) ∧ f_X12_ends e S R C Y D K Q (th, lf, st', ca', nx', re, en) = some (S1, R1, C1, Y1, D1, K1', Q1, (th, lf, st', ca', nx', e, 1)) ∧ REL t s1 y1 d1 q1 k1 r1 c1 o T S1 R1 C1 Y1 D1 K1' Q1 O ∧ c1.1 = 0 := by
  obtain ⟨hT, ⟨n, f, F, hn, rfl, rfl, hf⟩, hY, hD, hQ, hK, ⟨p, h, G, hp, rfl, rfl, hh⟩, hC, hO⟩ := hR
  obtain ⟨l, pa, ic, ns, nr, PA, HS, HR, hl, rfl, rfl, hc⟩ := hC
  obtain ⟨rfl, a, z, ha, rfl⟩ := hY
  obtain ⟨e0, bg, le, ln, pl, so, be, im, fi, he, rfl, rfl, hbg, hW⟩ := hD
  obtain ⟨rfl, g, os, op, hg, rfl, hq⟩ := hQ
  obtain ⟨rfl, hk⟩ := hK
  have rs : ∀ f F : Nat → Int32, rS (0, f) (0, F) := fun f F => rS.mk (n := 0) (by omega) fun i hi => by omega
  have rq : rQ (0, os, op) (0, os, op) := rQ.same (g := 0) (by omega) fun i hi => by omega
  have rc : rC (0, pa, ic, ns, nr) (0, PA, HS, HR) := rC.same (l := 0) (by omega) fun i hi => by omega
  unfold f_X3_endWith f_X4_giveUp f_X12_ends b_X12_ends_60
  rw [v_making he, sb]
  rcases mkf01 e0 fi with hm | hm
  · rw [if_pos hm, if_pos (show (nI e0, mkf e0 fi, bg, pl, so, be, im, fi, le, ln).2.1 = 0 from hm), sb]
    exact ⟨_, _, _, _, _, _, _, _, _, _, _, _, _, _, rfl, rfl, ⟨hT, rs _ _, rY.mk ha, rD.same0 hm he hbg hW, rq, ⟨rfl, .inl rfl⟩, rs _ _, rc, hO⟩, rfl⟩
  · have hne : ¬ mkf e0 fi = 0 := fun z => absurd (hm.symm.trans z) (by decide)
    have hpos := mkf_pos hm
    obtain ⟨u, hu, w1, _⟩ := (hW (e0 - 1) (by omega)).1
    have w2 : bg = nI u := (hbg hm).trans w1
    subst w2
    rw [if_neg hne, if_neg (show ¬ (nI e0, mkf e0 fi, nI u, pl, so, be, im, fi, le, ln).2.1 = 0 from hne), show (nI e0, le, ln, pl, so, be, im, fi).1 - 1 = nI (e0 - 1) from nI_m1 hpos, ck_t (in_ok (by omega) (by omega)), sb, nI_clamp (by omega)]
    refine ⟨_, _, _, _, _, _, _, _, _, _, _, _, _, _, rfl, rfl, ⟨hT, rs _ _, ?_, rD.less he hW hm, rq, ⟨rfl, .inl rfl⟩, rs _ _, rc, hO⟩, rfl⟩
    show rY (pl (e0 - 1), z) (nI u, z)
    rw [w1]
    exact rY.mk hu
theorem meet_eq (hR : REL t s y d q k r c o T S R C Y D K Q O) (e al st ca nx ov an th lf st' ca' nx' re en : Int32) : ∃ (s1 : tR) (y1 : tY) (d1 : tD) (q1 : tP) (k1 : tK) (r1 : tR) (c1 : tC) (m1 : tM) (S1 : mS) (R1 : mR) (C1 : mC) (Y1 : mY) (D1 : mD) (K1' : mK) (Q1 : mP) (M1 : mM), f_X3_meet e s y d q k r c (al, st, ca, nx, ov, an) = some (s1, y1, d1, q1, k1, r1, c1, m1) ∧ f_X12_meet e S R C Y D K Q (th, lf, st', ca', nx', re, en) = some (S1, R1, C1, Y1, D1, K1', Q1, M1) ∧ REL t s1 y1 d1 q1 k1 r1 c1 o T S1 R1 C1 Y1 D1 K1' Q1 O ∧ MT e s d c al st ca nx ov an th lf st' ca' nx' re en s1 d1 c1 m1 M1 := by
  by_cases h0 : e = 0
  · subst h0
    exact ⟨_, _, _, _, _, _, _, _, _, _, _, _, _, _, _, _, if_pos rfl, if_pos rfl, hR, .inl ⟨rfl, rfl, rfl, rfl, rfl⟩⟩
  · unfold f_X3_meet f_X12_meet f_X1_latestCatch
    rw [if_neg h0, if_neg h0]
    have hR' := hR
    obtain ⟨hT, ⟨n, f, F, hn, rfl, rfl, hf⟩, hY, hD, hQ, hK, ⟨p, h, G, hp, rfl, rfl, hh⟩, ⟨l, pa, ic, ns, nr, PA, HS, HR, hl, rfl, rfl, hc⟩, hO⟩ := hR'
    rcases lc_loop hl hc e (nI n, F) (nI p, G) Y D K Q (th, lf, st', ca', nx', re, en) l FU FU (by omega) (by rw [FU_s]; omega) (by rw [FU_s]; omega) with ⟨i, hi, hic, g1, g2⟩ | ⟨g1, g2⟩
    · rcases hc i hi with ⟨i1, _⟩ | ⟨_, u, v, hu, hv, i2, i3, i4, i5⟩
      · exact absurd (hic.symm.trans i1) (by decide)
      · obtain ⟨f', a1, a2, a3⟩ := rz_loop (-3) (nI n) (u := u) (by omega) 30 n FU f hn (by omega) (by rw [FU_s]; omega)
        obtain ⟨G', b1, b2, b3⟩ := rz_loop (-5) (nI p) (u := v) (by omega) 30 p FU h hp (by omega) (by rw [FU_s]; omega)
        obtain ⟨F', c1, c2, c3⟩ := ms_loop (i := i) (u := u) (PA := PA) (HS := HS) (HR := HR) (by omega) (by omega) i3 e (nI n) (nI l) (nI p, G) Y D K Q (th, lf, st', ca', nx', re, en) 30 n FU F hn (by omega) (by rw [FU_s]; omega)
        obtain ⟨H', d1, d2, d3⟩ := mr_loop (i := i) (u := u) (v := v) (PA := PA) (HS := HS) (HR := HR) (by omega) hu i3 hv i5 e (nI n) (nI p) (nI l) F' Y D K Q th lf st' ca' nx' re en 30 p FU G hp (by omega) (by rw [FU_s]; omega)
        have g1' : b_X1_latestCatch_7 FU ((nI l, pa, ic, ns, nr).1 - 1) (nI l, pa, ic, ns, nr) = some (nI i) := g1
        have g2' : b_X12_meet_12 FU e ((nI l, PA, HS, HR).1 - 1) (nI n, F) (nI p, G) (nI l, PA, HS, HR) Y D K Q (th, lf, st', ca', nx', re, en) = some ((nI (u + 1), upd F' u e), (nI v, H'), (nI i, PA, HS, HR), Y, D, K, Q, (th, lf, st', ca' + 1, nx', re, en)) := by
          refine g2.trans ?_
          unfold b_X12_meet_31
          rw [if_pos (gle_0 (by omega) (by omega))]
          exact c1.trans d1
        have a1' : f_X8_resize (nI u) (-3) (nI n, f) = some (nI u, f') := a1
        have b1' : f_X8_resize (nI v) (-5) (nI p, h) = some (nI v, G') := b1
        rw [g1', g2', sb, if_neg (show ¬ nI i = -1 from fun z => by rw [ne_m1 (by omega)] at z; exact z), ck_t (in_ok (by omega) (by omega)), nI_clamp (by omega), show (nI l, pa, ic, ns, nr).2.2.2.1 i = nI u from i2, show (nI l, pa, ic, ns, nr).2.2.2.2 i = nI v from i4, a1', sb, ck_t (in_ok2 (by omega) (by omega)), b1', sb, s_put (by omega), sb]
        refine ⟨_, _, _, _, _, _, _, _, _, _, _, _, _, _, _, _, rfl, rfl, ⟨hT, rS.mk (by omega) ?_, hY, hD, hQ, hK, rS.mk hv ?_, rC.same (by omega) fun x hx => hc x (by omega), hO⟩, .inr (.inl ⟨h0, ⟨i, l, rfl, rfl, hi, hl⟩, rfl, rfl⟩)⟩
        · intro x hx
          rw [upd_at, upd_at]; split
          · rfl
          · by_cases z : x < n
            · rw [a2 x z, c2 x z, hf x z]
            · rw [a3 x (by omega) (by omega), c3 x (by omega) (by omega)]
        · intro x hx
          by_cases z : x < p
          · rw [b2 x z, d2 x z, hh x z]
          · rw [b3 x (by omega) hx, d3 x (by omega) hx]
    · obtain ⟨s1, y1, d1, q1, k1, r1, c1, S1, R1, C1, Y1, D1, K1', Q1, e1, e2, e3, e4⟩ := end_eq hR e al st ca nx ov an th lf st' ca' nx' re en
      have g1' : b_X1_latestCatch_7 FU ((nI l, pa, ic, ns, nr).1 - 1) (nI l, pa, ic, ns, nr) = some (-1) := g1
      have g2' : b_X12_meet_12 FU e ((nI l, PA, HS, HR).1 - 1) (nI n, F) (nI p, G) (nI l, PA, HS, HR) Y D K Q (th, lf, st', ca', nx', re, en) = some (S1, R1, C1, Y1, D1, K1', Q1, (th, lf, st', ca', nx', e, 1)) := by
        refine g2.trans ?_
        unfold b_X12_meet_31
        rw [if_neg (show ¬ (0 : Int32) ≤ -1 by decide), e2, sb]
      rw [g1', g2', sb, if_pos rfl, e1, sb]
      exact ⟨_, _, _, _, _, _, _, _, _, _, _, _, _, _, _, _, rfl, rfl, e3, .inr (.inr ⟨h0, e4, rfl, rfl⟩)⟩
end MEET2
