/-! the two loops -/
def BT (t : tT) (T : mT) : Prop := ∃ (a u l : Nat) (x : Int32) (f : Nat → Int32), t = (nI a, 0, nI u, nI l, f) ∧ T = (nI a, x, nI u, nI l, f) ∧ a ≤ 200 ∧ u + l ≤ 200 ∧ ∀ i, okc (f i)
/-- how both stand when a run is over -/
def FIN (th : Int32) (x : Option tX) (X : Option mX) : Prop := ∃ (t : tT) (s : tR) (y : tY) (d : tD) (q : tP) (k : tK) (r : tR) (c : tC) (o : tO) (al st ca an : Int32) (T : mT) (S : mS) (R : mR) (C : mC) (Y : mY) (D : mD) (K : mK) (Q : mP) (O : mO) (lf nx : Int32), x = some (an, t, s, y, d, q, k, r, c, o, (al, st, ca, -1, 1, an)) ∧ X = some (an, T, S, R, C, Y, D, K, Q, O, (th, lf, st, ca, nx, an, 1)) ∧ BT t T ∧ rS s S ∧ rY y Y ∧ rD d D ∧ rQ q Q ∧ rK k K D ∧ rS r R ∧ rC c C ∧ rO o O ∧ c.1 = 0
section SIM
variable {t : tT} {s : tR} {y : tY} {d : tD} {q : tP} {k : tK} {r : tR} {c : tC} {o : tO} {T : mT} {S : mS} {R : mR} {C : mC} {Y : mY} {D : mD} {K : mK} {Q : mP} {O : mO}
theorem fin_eq (hR : REL t s y d q k r c o T S R C Y D K Q O) (hc : c.1 = 0) (n m : Nat) (y2 y3 al st ca an th lf nx : Int32) : FIN th (b_X3_interpret_35 (n + 1) y2 t s y d q k r c o (al, st, ca, -1, 1, an)) (b_X12_run_61 (m + 1) y3 T S R C Y D K Q O (th, lf, st, ca, nx, an, 1)) := by
  obtain ⟨⟨rfl, tA, tB, tu, tl, tf, rfl, htA, htB, htu, htc⟩, hs, hY, hD, hQ, hK, hr, hC, hO⟩ := hR
  have e1 : b_X3_interpret_35 (n + 1) y2 (nI tA, nI tB, nI tu, nI tl, tf) s y d q k r c o (al, st, ca, -1, 1, an) = some (an, (0, 0, nI tu, nI tl, tf), s, y, d, q, k, r, c, o, (al, st, ca, -1, 1, an)) := by
    unfold b_X3_interpret_35
    split
    · rfl
    · rw [if_neg (show ¬ (1 : Int32) = 0 by decide)]; rfl
  have e2 : b_X12_run_61 (m + 1) y3 (nI tA, nI tB, nI tu, nI tl, tf) S R C Y D K Q O (th, lf, st, ca, nx, an, 1) = some (an, (0, nI tB, nI tu, nI tl, tf), S, R, C, Y, D, K, Q, O, (th, lf, st, ca, nx, an, 1)) := by
    unfold b_X12_run_61
    split
    · rfl
    · rw [if_neg (show ¬ (1 : Int32) = 0 by decide)]; rfl
  rw [e1, e2]
  exact ⟨_, _, _, _, _, _, _, _, _, _, _, _, _, _, _, _, _, _, _, _, _, _, _, _, rfl, rfl, ⟨0, tu, tl, nI tB, tf, rfl, rfl, by omega, htu, htc⟩, hs, hY, hD, hQ, hK, hr, hC, hO, hc⟩
theorem U1m {n : Nat} (h : n < 1000000) : ¬ (1000000 : Int32) ≤ nI n := show ¬ nI 1000000 ≤ nI n from nI_ge h (by omega)
theorem i35_go {n y2 : Nat} (hy : y2 < 1000000) (al st ca an : Int32) : b_X3_interpret_35 (n + 1) (nI y2) t s y d q k r c o (al, st, ca, -1, 0, an) = (f_X3_goOn t s y d k c (al, st, ca, -1, 0, an)).bind (fun u12 => b_X3_interpret_96 (b_X3_interpret_35 n) (nI y2) u12.1 u12.2.1 u12.2.2.1 u12.2.2.2.1 d q k r u12.2.2.2.2.1 o u12.2.2.2.2.2) := by
  rw [b_X3_interpret_35, if_neg (U1m hy), if_pos (show (0 : Int32) = 0 from rfl), if_pos (show (-1 : Int32) = -1 from rfl), b_X3_interpret_76, if_pos (show (-1 : Int32) = -1 from rfl)]
theorem i35_word {n y2 j : Nat} (hy : y2 < 1000000) (hj : j < 2 ^ 31) (al st ca an : Int32) (hne : ¬ st = al) : b_X3_interpret_35 (n + 1) (nI y2) t s y d q k r c o (al, st, ca, nI j, 0, an) = (f_X3_carryOutNext t s y d q k r c o (al, st, ca, nI j, 0, an)).bind (fun u10 => b_X3_interpret_96 (b_X3_interpret_35 n) (nI y2) u10.1 u10.2.1 u10.2.2.1 u10.2.2.2.1 u10.2.2.2.2.1 u10.2.2.2.2.2.1 u10.2.2.2.2.2.2.1 u10.2.2.2.2.2.2.2.1 u10.2.2.2.2.2.2.2.2.1 u10.2.2.2.2.2.2.2.2.2.1 u10.2.2.2.2.2.2.2.2.2.2) := by
  have h1 : ¬ nI j = -1 := fun z => by rw [ne_m1 hj] at z; exact z
  rw [b_X3_interpret_35, if_neg (U1m hy), if_pos (show (0 : Int32) = 0 from rfl), if_neg (show ¬ (al, st, ca, nI j, (0 : Int32), an).2.2.2.1 = -1 from h1), if_neg (show ¬ (al, st, ca, nI j, (0 : Int32), an).2.1 = (al, st, ca, nI j, (0 : Int32), an).1 from hne), b_X3_interpret_76, if_neg (show ¬ (al, st, ca, nI j, (0 : Int32), an).2.2.2.1 = -1 from h1)]
theorem i35_full {n y2 j : Nat} (hy : y2 < 1000000) (hj : j < 2 ^ 31) (al ca an : Int32) : b_X3_interpret_35 (n + 1) (nI y2) t s y d q k r c o (al, al, ca, nI j, 0, an) = (f_X3_endWith (-28) s y d q k r c (al, al, ca, nI j, 0, an)).bind (fun u5 => b_X3_interpret_99 (b_X3_interpret_35 n) (nI y2) t u5.1 u5.2.1 u5.2.2.1 u5.2.2.2.1 u5.2.2.2.2.1 u5.2.2.2.2.2.1 u5.2.2.2.2.2.2.1 o u5.2.2.2.2.2.2.2) := by
  have h1 : ¬ nI j = -1 := fun z => by rw [ne_m1 hj] at z; exact z
  rw [b_X3_interpret_35, if_neg (U1m hy), if_pos (show (0 : Int32) = 0 from rfl), if_neg (show ¬ (al, al, ca, nI j, (0 : Int32), an).2.2.2.1 = -1 from h1), if_pos (show (al, al, ca, nI j, (0 : Int32), an).2.1 = (al, al, ca, nI j, (0 : Int32), an).1 from rfl)]
theorem ca_neg (p : Nat) (y4 : Int32) (M : mM) : b_X12_carry_4 (p + 1) (-1) y4 T S R C Y D K Q O M = some (T, S, R, C, Y, D, K, Q, O, M) := by
  rw [b_X12_carry_4]; split
  · rfl
  · rw [if_pos (by decide)]
theorem ca_word {p j y4 L : Nat} (hj : j < 2 ^ 31) (h4 : y4 ≤ 3000) (hL : 1 ≤ L) (hL2 : L ≤ 3000) (th st ca nx re en : Int32) : b_X12_carry_4 (p + 1) (nI j) (nI y4) T S R C Y D K Q O (th, nI L, st, ca, nx, re, en) = (f_X12_done (nI j) T S R C Y D K Q O (th, nI (L - 1), st + 1, ca, -1, re, en)).bind fun u4 => (f_X12_meet u4.1 u4.2.2.1 u4.2.2.2.1 u4.2.2.2.2.1 u4.2.2.2.2.2.1 u4.2.2.2.2.2.2.1 u4.2.2.2.2.2.2.2.1 u4.2.2.2.2.2.2.2.2.1 u4.2.2.2.2.2.2.2.2.2.2).bind fun u6 => b_X12_carry_4 p u6.2.2.2.2.2.2.2.2.2.2.2.1 (nI (y4 + 1)) u4.2.1 u6.1 u6.2.1 u6.2.2.1 u6.2.2.2.1 u6.2.2.2.2.1 u6.2.2.2.2.2.1 u6.2.2.2.2.2.2.1 u4.2.2.2.2.2.2.2.2.2.1 u6.2.2.2.2.2.2.2 := by
  rw [b_X12_carry_4, if_neg (nlt_3000 h4), if_neg (nI_pos hj), if_neg (show ¬ (th, nI L, st, ca, nx, re, en).2.1 = 0 from ne_0 (by omega) (by omega)), nI_1, show (th, nI L, st, ca, nx, re, en).2.1 - 1 = nI (L - 1) from nI_m1 (by omega)]
theorem ca_full {p j y4 : Nat} (hj : j < 2 ^ 31) (h4 : y4 ≤ 3000) (th st ca nx re en : Int32) : b_X12_carry_4 (p + 1) (nI j) (nI y4) T S R C Y D K Q O (th, nI 0, st, ca, nx, re, en) = (f_X12_ends (-28) S R C Y D K Q (th, nI 0, st, ca, -1, re, en)).bind fun u8 => some (T, u8.1, u8.2.1, u8.2.2.1, u8.2.2.2.1, u8.2.2.2.2.1, u8.2.2.2.2.2.1, u8.2.2.2.2.2.2.1, O, u8.2.2.2.2.2.2.2) := by
  rw [b_X12_carry_4, if_neg (nlt_3000 h4), if_neg (nI_pos hj), if_pos (show (th, nI 0, st, ca, nx, re, en).2.1 = 0 from rfl)]
end SIM
def OK1 (N : Nat) : Prop := ∀ (n m y2 y3 A B L l ts ta : Nat) (ca nx re th : Int32) (t : tT) (s : tR) (y : tY) (d : tD) (q : tP) (k : tK) (r : tR) (c : tC) (o : tO) (T : mT) (S : mS) (R : mR) (C : mC) (Y : mY) (D : mD) (K : mK) (Q : mP) (O : mO), REL t s y d q k r c o T S R C Y D K Q O → c.1 = nI l → l ≤ 30 → t.1 = nI ts → t.2.1 = nI ta → ta ≤ ts → ts ≤ 200 → A = B + L → A ≤ 3000 → N = 3 * L + l + (ts - ta) + 1 → N + y2 < 1000000 → N + y3 < 10000 → N + 1 < n → N + 1 < m → FIN th (b_X3_interpret_35 n (nI y2) t s y d q k r c o (nI A, nI B, ca, -1, 0, 0)) (b_X12_run_61 m (nI y3) T S R C Y D K Q O (th, nI L, nI B, ca, nx, re, 0))
def OK2 (N : Nat) : Prop := ∀ (n m p y2 y3 y4 A B L l ts ta j z : Nat) (ca nx re th : Int32) (t : tT) (s : tR) (y : tY) (d : tD) (q : tP) (k : tK) (r : tR) (c : tC) (o : tO) (T : mT) (S : mS) (R : mR) (C : mC) (Y : mY) (D : mD) (K : mK) (Q : mP) (O : mO), REL t s y d q k r c o T S R C Y D K Q O → PL c → c.1 = nI l → l ≤ 30 → t.1 = nI ts → t.2.1 = nI ta → ta ≤ ts → ts ≤ 200 → d.1 = nI z → z ≤ 40 → j < 82 + z → A = B + L → A ≤ 3000 → N = 3 * L + l + (ts - ta) → N + y2 < 1000000 → N + y3 < 10000 → N + 1 < n → N + 1 < m → L + y4 ≤ 3000 → L + 1 < p → FIN th (b_X3_interpret_35 n (nI y2) t s y d q k r c o (nI A, nI B, ca, nI j, 0, 0)) (gC m (nI y3) (b_X12_carry_4 p (nI j) (nI y4) T S R C Y D K Q O (th, nI L, nI B, ca, nx, re, 0)))
theorem cx_le {c c1 : tC} {l l1 : Nat} (h : CX c c1) (hc : c.1 = nI l) (hc1 : c1.1 = nI l1) (hl : l ≤ 30) (hl1 : l1 ≤ 30) : l1 ≤ l + 1 := by
  rcases h with h | h | h
  · rw [hc, hc1] at h; have := (nI_eq (by omega) (by omega)).mp h; omega
  · rw [hc, hc1, nI_1] at h; have := (nI_eq (by omega) (by omega)).mp h; omega
  · rw [hc, hc1] at h
    rcases Nat.eq_zero_or_pos l with z | z
    · subst z
      exact absurd h (fun q => nI_pos (n := l1) (by omega) (by rw [q]; decide))
    · rw [nI_m1 z] at h; have := (nI_eq (by omega) (by omega)).mp h; omega
theorem step2 (N : Nat) (ih : ∀ N', N' < N → OK1 N' ∧ OK2 N') : OK2 N := by
  intro n m p y2 y3 y4 A B L l ts ta j z ca nx re th t s y d q k r c o T S R C Y D K Q O hR hP hc hl hts hta h1 h2 hd hz hj hA hA2 hN hy2 hy3 hn hm h4 hp
  obtain ⟨n, rfl⟩ : ∃ x, n = x + 1 := ⟨n - 1, by omega⟩
  obtain ⟨p, rfl⟩ : ∃ x, p = x + 1 := ⟨p - 1, by omega⟩
  by_cases hL : L = 0
  · subst hL
    obtain rfl : A = B := by omega
    obtain ⟨s1, y1, d1, q1, k1, r1, c1, S1, R1, C1, Y1, D1, K1', Q1, e1, e2, e3, e4⟩ := end_eq hR (-28) (nI A) (nI A) ca (nI j) 0 0 th (nI 0) (nI A) ca (-1) re 0
    obtain ⟨n, rfl⟩ : ∃ x, n = x + 1 := ⟨n - 1, by omega⟩
    obtain ⟨m, rfl⟩ : ∃ x, m = x + 1 := ⟨m - 1, by omega⟩
    rw [i35_full (by omega) (by omega), e1, sb, ca_full (by omega) (by omega), e2, sb]
    exact fin_eq e3 e4 n m (nI y2 + 1) (nI y3 + 1) (nI A) (nI A) ca (-28) th (nI 0) (-1)
  · have hST : ST (f_X3_carryOutNext t s y d q k r c o (nI A, nI B, ca, nI j, 0, 0)) (f_X12_done (nI j) T S R C Y D K Q O (th, nI (L - 1), nI B + 1, ca, -1, re, 0)) (nI A) (nI B + 1) ca 0 0 th (nI (L - 1)) (nI B + 1) ca re 0 := by
      by_cases h82 : j < 82
      · exact wd_all hR hP (nI A) (nI B) ca 0 0 th (nI (L - 1)) (nI B + 1) ca re 0 j h82
      · obtain ⟨i, rfl⟩ : ∃ i, j = 82 + i := ⟨j - 82, by omega⟩
        exact wd_made hR hd hz (by omega) (nI A) (nI B) ca 0 0 th (nI (L - 1)) (nI B + 1) ca re 0
    obtain ⟨e, t1, s1, y1, d1, q1, k1, r1, c1, o1, nx1, T1, S1, R1, C1, Y1, D1, K1', Q1, O1, hx, hX, hR1, hN1⟩ := hST
    obtain ⟨s2, y2', d2, q2, k2, r2, c2, m2, S2, R2, C2, Y2, D2, K2', Q2, M2, g1, g2, hR2, hM⟩ := meet_eq hR1 e (nI A) (nI B + 1) ca nx1 0 0 th (nI (L - 1)) (nI B + 1) ca nx1 re 0
    have hmono : TX ts ta t1 ∧ CX c c1 := by
      obtain ⟨⟨_, tA, tB, tu, tl, tf, rfl, htA, htB, _, _⟩, _⟩ := hR
      obtain rfl : tA = ts := (nI_eq (by omega) (by omega)).mp hts
      obtain rfl : tB = ta := (nI_eq (by omega) (by omega)).mp hta
      exact mono (by omega) h1 s y d q k r c o _ _ hx
    obtain ⟨⟨ht1, ta1, ht2, ht3, ht4⟩, hcx⟩ := hmono
    obtain ⟨l1, hl1, hc1⟩ : ∃ l1 : Nat, l1 ≤ 30 ∧ c1.1 = nI l1 := by
      obtain ⟨_, _, _, _, _, _, _, ⟨l1, _, _, _, _, _, _, _, hl1, rfl, _, _⟩, _⟩ := hR1
      exact ⟨l1, hl1, rfl⟩
    have hl12 := cx_le hcx hc hc1 hl hl1
    have hne : ¬ nI B = nI A := nI_ne (by omega) (by omega) (by omega)
    have hcl : b_X3_interpret_35 (n + 1) (nI y2) t s y d q k r c o (nI A, nI B, ca, nI j, 0, 0) = b_X3_interpret_35 n (nI (y2 + 1)) t1 s2 y2' d2 q2 k2 r2 c2 o1 m2 := by
      rw [i35_word (by omega) (by omega) _ _ _ _ hne, hx, sb]
      show (f_X3_meet e s1 y1 d1 q1 k1 r1 c1 (nI A, nI B + 1, ca, nx1, 0, 0)).bind _ = _
      rw [g1, sb, ← nI_1]
      rfl
    have hmo : b_X12_carry_4 (p + 1) (nI j) (nI y4) T S R C Y D K Q O (th, nI L, nI B, ca, nx, re, 0) = b_X12_carry_4 p M2.2.2.2.2.1 (nI (y4 + 1)) T1 S2 R2 C2 Y2 D2 K2' Q2 O1 M2 := by
      rw [ca_word (by omega) (by omega) (by omega) (by omega), hX, sb]
      show (f_X12_meet e S1 R1 C1 Y1 D1 K1' Q1 (th, nI (L - 1), nI B + 1, ca, nx1, re, 0)).bind _ = _
      rw [g2, sb]
    rw [hcl, hmo]
    obtain ⟨p, rfl⟩ : ∃ x, p = x + 1 := ⟨p - 1, by omega⟩
    rcases hM with ⟨he, rfl, rfl, rfl, rfl⟩ | ⟨he, ⟨l2, l0, hc2, hc0, hl2, hl0⟩, rfl, rfl⟩ | ⟨he, hc2, rfl, rfl⟩
    · rcases hN1 with rfl | ⟨_, hP1, j1, z1, rfl, hd1, hj1, hz1⟩
      · show FIN th _ (gC m (nI y3) (b_X12_carry_4 (p + 1) (-1) (nI (y4 + 1)) T1 S2 R2 C2 Y2 D2 K2' Q2 O1 _))
        rw [ca_neg, nI_1]
        show FIN th _ (b_X12_run_61 m (nI y3 + 1) T1 S2 R2 C2 Y2 D2 K2' Q2 O1 _)
        rw [nI_1]
        exact (ih (3 * (L - 1) + l1 + (ts - ta1) + 1) (by omega)).1 n m (y2 + 1) (y3 + 1) A (B + 1) (L - 1) l1 ts ta1 _ _ _ _ _ _ _ _ _ _ _ _ _ _ _ _ _ _ _ _ _ _ hR2 hc1 hl1 ht1 ht2 ht4 h2 (by omega) hA2 rfl (by omega) (by omega) (by omega) (by omega)
      · rw [nI_1]
        exact (ih (3 * (L - 1) + l1 + (ts - ta1)) (by omega)).2 n m (p + 1) (y2 + 1) y3 (y4 + 1) A (B + 1) (L - 1) l1 ts ta1 j1 z1 _ _ _ _ _ _ _ _ _ _ _ _ _ _ _ _ _ _ _ _ _ _ hR2 hP1 hc1 hl1 ht1 ht2 ht4 h2 hd1 hz1 hj1 (by omega) hA2 rfl (by omega) (by omega) (by omega) (by omega) (by omega) (by omega)
    · have hnx : nx1 = -1 := hN1.elim id fun z => absurd z.1 he
      subst hnx
      obtain rfl : l0 = l1 := (nI_eq (by omega) (by omega)).mp (hc0.symm.trans hc1)
      show FIN th _ (gC m (nI y3) (b_X12_carry_4 (p + 1) (-1) (nI (y4 + 1)) T1 S2 R2 C2 Y2 D2 K2' Q2 O1 _))
      rw [ca_neg, nI_1]
      show FIN th _ (b_X12_run_61 m (nI y3 + 1) T1 S2 R2 C2 Y2 D2 K2' Q2 O1 _)
      rw [nI_1]
      exact (ih (3 * (L - 1) + l2 + (ts - ta1) + 1) (by omega)).1 n m (y2 + 1) (y3 + 1) A (B + 1) (L - 1) l2 ts ta1 _ _ _ _ _ _ _ _ _ _ _ _ _ _ _ _ _ _ _ _ _ _ hR2 hc2 (by omega) ht1 ht2 ht4 h2 (by omega) hA2 rfl (by omega) (by omega) (by omega) (by omega)
    · have hnx : nx1 = -1 := hN1.elim id fun z => absurd z.1 he
      subst hnx
      obtain ⟨n, rfl⟩ : ∃ x, n = x + 1 := ⟨n - 1, by omega⟩
      obtain ⟨m, rfl⟩ : ∃ x, m = x + 1 := ⟨m - 1, by omega⟩
      show FIN th _ (gC (m + 1) (nI y3) (b_X12_carry_4 (p + 1) (-1) (nI (y4 + 1)) T1 S2 R2 C2 Y2 D2 K2' Q2 O1 _))
      rw [ca_neg]
      exact fin_eq hR2 hc2 n m _ (nI y3 + 1) _ _ _ _ _ _ _
theorem step1 (N : Nat) (ih : ∀ N', N' < N → OK1 N' ∧ OK2 N') : OK1 N := by
  intro n m y2 y3 A B L l ts ta ca nx re th t s y d q k r c o T S R C Y D K Q O hR hc hl hts hta h1 h2 hA hA2 hN hy2 hy3 hn hm
  obtain ⟨n, rfl⟩ : ∃ x, n = x + 1 := ⟨n - 1, by omega⟩
  obtain ⟨m, rfl⟩ : ∃ x, m = x + 1 := ⟨m - 1, by omega⟩
  have hR0 := hR
  obtain ⟨hT, hs, hY, hD, hQ, hK, hr, ⟨l', pa, ic, ns, nr, PA, HS, HR, hl', rfl, rfl, hcc⟩, hO⟩ := hR
  obtain rfl : l' = l := (nI_eq (by omega) (by omega)).mp hc
  have hGO : GO l' ts ta m (nI y3) d q k r o R D K Q O (nI A) (nI B) ca 0 th (nI L) (nI B) ca nx (f_X3_goOn t s y d k (nI l', pa, ic, ns, nr) (nI A, nI B, ca, -1, 0, 0)) (b_X12_run_61 (m + 1) (nI y3) T S R (nI l', PA, HS, HR) Y D K Q O (th, nI L, nI B, ca, nx, re, 0)) ∨ (nI l' = 0 ∧ ∃ (t1 : tT) (T1 : mT), f_X3_goOn t s y d k (nI l', pa, ic, ns, nr) (nI A, nI B, ca, -1, 0, 0) = some (0, t1, s, y, (nI l', pa, ic, ns, nr), (nI A, nI B, ca, -1, 1, 0)) ∧ b_X12_run_61 (m + 1) (nI y3) T S R (nI l', PA, HS, HR) Y D K Q O (th, nI L, nI B, ca, nx, re, 0) = b_X12_run_114 (b_X12_run_61 m) (nI y3) T1 S R (nI l', PA, HS, HR) Y D K Q O (th, nI L, nI B, ca, nx, 0, 1) ∧ rT t1 T1) := by
    by_cases hl0 : l' = 0
    · subst hl0
      rcases go_text (m := m) hR0 hts hta h2 h1 (show y3 < 10000 by omega) (nI A) (nI B) ca 0 th (nI L) (nI B) ca nx re with h | h
      · exact .inl h
      · exact .inr ⟨rfl, h⟩
    · by_cases hi : ic (l' - 1) = 0
      · exact .inl (go_call hR0 hl0 hl hi hts hta h1 (by omega) (nI A) (nI B) ca 0 th (nI L) (nI B) ca nx re)
      · exact .inl (go_catch hR0 hl0 hl hi hts hta h1 (by omega) (nI A) (nI B) ca 0 th (nI L) (nI B) ca nx re)
  rw [i35_go (by omega)]
  rcases hGO with ⟨e, t1, s1, y1, c1, nx1, re1, T1, S1, C1, Y1, l1, ta1, hx, hR1, hc1, hl1, ht1, ht2, ht3, ht4, hAB⟩ | ⟨hl0, t1, T1, hx, hX, hT1⟩
  · rw [hx, sb]
    rcases hAB with ⟨rfl, hpr, hX⟩ | ⟨j, z, rfl, rfl, hP, hd, hz, hj, hll, hX⟩
    · obtain ⟨s2, y2', d2, q2, k2, r2, c2, m2, S2, R2, C2, Y2, D2, K2', Q2, M2, g1, g2, hR2, hM⟩ := meet_eq hR1 e (nI A) (nI B) ca (-1) 0 0 th (nI L) (nI B) ca nx re1 0
      have hcl : b_X3_interpret_96 (b_X3_interpret_35 n) (nI y2) e t1 s1 y1 d q k r c1 o (nI A, nI B, ca, -1, 0, 0) = b_X3_interpret_35 n (nI (y2 + 1)) t1 s2 y2' d2 q2 k2 r2 c2 o m2 := by
        unfold b_X3_interpret_96
        rw [g1, sb, ← nI_1]
        rfl
      have hmo : gM m (nI y3) T1 O (f_X12_meet e S1 R C1 Y1 D K Q (th, nI L, nI B, ca, nx, re1, 0)) = b_X12_run_61 m (nI (y3 + 1)) T1 S2 R2 C2 Y2 D2 K2' Q2 O M2 := by
        unfold gM
        rw [g2, sb, ← nI_1]
        rfl
      rw [hX, hmo]
      refine Eq.mp (congrArg (fun x => FIN th x _) hcl.symm) ?_
      rcases hM with ⟨he, rfl, rfl, rfl, rfl⟩ | ⟨he, ⟨l2, l0, hc2, hc0, hl2, hl0⟩, rfl, rfl⟩ | ⟨he, hc2, rfl, rfl⟩
      · have hpr' : l1 + (ts - ta1) < l' + (ts - ta) := hpr.elim id fun z => absurd he z.1
        exact (ih (3 * L + l1 + (ts - ta1) + 1) (by omega)).1 n m (y2 + 1) (y3 + 1) A B L l1 ts ta1 _ _ _ _ _ _ _ _ _ _ _ _ _ _ _ _ _ _ _ _ _ _ hR2 hc1 hl1 ht1 ht2 ht4 h2 hA hA2 rfl (by omega) (by omega) (by omega) (by omega)
      · obtain rfl : l0 = l1 := (nI_eq (by omega) (by omega)).mp (hc0.symm.trans hc1)
        have hpr' : l0 + (ts - ta1) ≤ l' + (ts - ta) := hpr.elim (fun z => by omega) fun z => by omega
        exact (ih (3 * L + l2 + (ts - ta1) + 1) (by omega)).1 n m (y2 + 1) (y3 + 1) A B L l2 ts ta1 _ _ _ _ _ _ _ _ _ _ _ _ _ _ _ _ _ _ _ _ _ _ hR2 hc2 (by omega) ht1 ht2 ht4 h2 hA hA2 rfl (by omega) (by omega) (by omega) (by omega)
      · obtain ⟨n, rfl⟩ : ∃ x, n = x + 1 := ⟨n - 1, by omega⟩
        obtain ⟨m, rfl⟩ : ∃ x, m = x + 1 := ⟨m - 1, by omega⟩
        exact fin_eq hR2 hc2 n m _ _ _ _ _ _ _ _ _
    · have hcl : b_X3_interpret_96 (b_X3_interpret_35 n) (nI y2) 0 t1 s1 y1 d q k r c1 o (nI A, nI B, ca, nI j, 0, 0) = b_X3_interpret_35 n (nI (y2 + 1)) t1 s1 y1 d q k r c1 o (nI A, nI B, ca, nI j, 0, 0) := by
        unfold b_X3_interpret_96 f_X3_meet
        rw [if_pos rfl, sb, ← nI_1]
        rfl
      rw [hX]
      refine Eq.mp (congrArg (fun x => FIN th x _) hcl.symm) ?_
      exact (ih (3 * L + l1 + (ts - ta1)) (by omega)).2 n m FU (y2 + 1) y3 0 A B L l1 ts ta1 j z _ _ _ _ _ _ _ _ _ _ _ _ _ _ _ _ _ _ _ _ _ _ hR1 hP hc1 hl1 ht1 ht2 ht4 h2 hd hz hj hA hA2 rfl (by omega) (by omega) (by omega) (by omega) (by omega) (by rw [FU_s]; omega)
  · rw [hx, sb, hX]
    obtain ⟨n, rfl⟩ : ∃ x, n = x + 1 := ⟨n - 1, by omega⟩
    obtain ⟨m, rfl⟩ : ∃ x, m = x + 1 := ⟨m - 1, by omega⟩
    exact fin_eq ⟨hT1, hs, hY, hD, hQ, hK, hr, rC.same hl' hcc, hO⟩ hl0 n m (nI y2 + 1) (nI y3 + 1) (nI A) (nI B) ca 0 th (nI L) nx
theorem sim (N : Nat) : OK1 N ∧ OK2 N := Nat.strongRecOn N fun N ih => ⟨step1 N ih, step2 N ih⟩
/-- how both stand between the calls from outside -/
def BW (t : tT) (s : tR) (y : tY) (d : tD) (q : tP) (k : tK) (r : tR) (c : tC) (o : tO) (m : tM) (T : mT) (S : mS) (R : mR) (C : mC) (Y : mY) (D : mD) (K : mK) (Q : mP) (O : mO) (M : mM) : Prop := BT t T ∧ rS s S ∧ rY y Y ∧ rD d D ∧ rQ q Q ∧ rK k K D ∧ rS r R ∧ rC c C ∧ rO o O ∧ c.1 = 0 ∧ m.2.2.2.1 = -1 ∧ M.2.2.1 = m.2.1 ∧ M.2.2.2.1 = m.2.2.1
theorem run_eq {t : tT} {s : tR} {y : tY} {d : tD} {q : tP} {k : tK} {r : tR} {c : tC} {o : tO} {m : tM} {T : mT} {S : mS} {R : mR} {C : mC} {Y : mY} {D : mD} {K : mK} {Q : mP} {O : mO} {M : mM} (h : BW t s y d q k r c o m T S R C Y D K Q O M) {A : Nat} (hA : A ≤ 3000) : ∃ (an : Int32) (t1 : tT) (s1 : tR) (y1 : tY) (d1 : tD) (q1 : tP) (k1 : tK) (r1 : tR) (c1 : tC) (o1 : tO) (m1 : tM) (T1 : mT) (S1 : mS) (R1 : mR) (C1 : mC) (Y1 : mY) (D1 : mD) (K1' : mK) (Q1 : mP) (O1 : mO) (M1 : mM), f_X3_interpret (nI A) t s y d q k r c o m = some (an, t1, s1, y1, d1, q1, k1, r1, c1, o1, m1) ∧ f_X12_run (nI A) T S R C Y D K Q O M = some (an, T1, S1, R1, C1, Y1, D1, K1', Q1, O1, M1) ∧ M1.1 = 0 ∧ BW t1 s1 y1 d1 q1 k1 r1 c1 o1 m1 T1 S1 R1 C1 Y1 D1 K1' Q1 O1 M1 := by
  obtain ⟨⟨a, u, l, x, f, rfl, rfl, ha, hu, hf⟩, hs, hY, hD, hQ, hK, hr, hC, ⟨rfl, w, ou, hw, rfl⟩, hc, hnx, hst, hca⟩ := h
  obtain ⟨al, st, ca, nx, ov, an⟩ := m
  obtain ⟨th, lf, st', ca', nx', re, en⟩ := M
  obtain rfl : nx = -1 := hnx
  have hsim := (sim (3 * A + 0 + (a - 0) + 1)).1 FU FU 0 0 A 0 A 0 a 0 0 nx' re 0 (nI a, nI 0, nI u, nI l, f) s y d q k r c (nI 0, ou) (nI a, nI 0, nI u, nI l, f) S R C Y D K Q (nI 0, ou) ⟨⟨rfl, a, 0, u, l, f, rfl, ha, by omega, hu, hf⟩, hs, hY, hD, hQ, hK, hr, hC, rO.mk (by omega)⟩ hc (by omega) rfl rfl (by omega) ha (by omega) hA rfl (by omega) (by omega) (by rw [FU_s]; omega) (by rw [FU_s]; omega)
  obtain ⟨t1, s1, y1, d1, q1, k1, r1, c1, o1, al1, st1, ca1, an1, T1, S1, R1, C1, Y1, D1, K1', Q1, O1, lf1, nx1, e1, e2, b1, b2, b3, b4, b5, b6, b7, b8, b9, b10⟩ := hsim
  refine ⟨an1, t1, s1, y1, d1, q1, k1, r1, c1, o1, _, T1, S1, R1, C1, Y1, D1, K1', Q1, O1, (0, lf1, st1, ca1, nx1, an1, 1), e1, ?_, rfl, b1, b2, b3, b4, b5, b6, b7, b8, b9, b10, rfl, rfl, rfl⟩
  rw [← e2]
  unfold f_X12_run b_X12_run_17
  rw [if_neg (nI_pos (by omega)), if_pos (le'_3000 hA), if_pos (show (0 : Int32) ≤ 0 by decide)]
  rfl
