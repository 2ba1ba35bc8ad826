/-! the relation between the class's state and the model's -/
def rT (t : tT) (T : mT) : Prop := T = t ∧ ∃ (a b u l : Nat) (f : Nat → Int32), t = (nI a, nI b, nI u, nI l, f) ∧ a ≤ 200 ∧ b ≤ a ∧ u + l ≤ 200 ∧ ∀ i, okc (f i)
def rS (s : tR) (S : mS) : Prop := ∃ (n : Nat) (f F : Nat → Int32), n ≤ 30 ∧ s = (nI n, f) ∧ S = (nI n, F) ∧ ∀ i, i < n → F i = f i
theorem rS.mk {n : Nat} {f F : Nat → Int32} (hn : n ≤ 30) (h : ∀ i, i < n → F i = f i) : rS (nI n, f) (nI n, F) := ⟨n, f, F, hn, rfl, rfl, h⟩
theorem rS.mk2 {a b : Nat} {f F : Nat → Int32} (e : b = a) (hn : a ≤ 30) (h : ∀ i, i < a → F i = f i) : rS (nI a, f) (nI b, F) := by subst e; exact rS.mk hn h
def rY (y : tY) (Y : mY) : Prop := Y = y ∧ ∃ (a : Nat) (f : Nat → Int32), a ≤ 400 ∧ y = (nI a, f)
theorem rY.mk {a : Nat} {f : Nat → Int32} (h : a ≤ 400) : rY (nI a, f) (nI a, f) := ⟨rfl, a, f, h, rfl⟩
theorem rY.mk2 {a b : Nat} {f g : Nat → Int32} (e : b = a) (e2 : g = f) (h : a ≤ 400) : rY (nI a, f) (nI b, g) := by subst e; subst e2; exact rY.mk h
def mkf (e : Nat) (fi : Nat → Int32) : Int32 := if e = 0 then 0 else if fi (e - 1) = 0 then 1 else 0
/-- the words made: what holds of each -/
def WD (e : Nat) (ln pl so be im fi : Nat → Int32) : Prop := ∀ i, i < e → (∃ u : Nat, u ≤ 400 ∧ pl i = nI u ∧ (so i = 3 → u < 400)) ∧ (be i = -1 ∨ ∃ u : Nat, u ≤ 400 ∧ be i = nI u) ∧ (im i = 0 ∨ im i = 1) ∧ ((fi i = 0 ∧ i + 1 = e) ∨ fi i = 1) ∧ ∃ l : Nat, 1 ≤ l ∧ l ≤ 9 ∧ ln i = nI l
def rD (d : tD) (D : mD) : Prop := ∃ (e : Nat) (bg : Int32) (le ln pl so be im fi : Nat → Int32), e ≤ 40 ∧ d = (nI e, le, ln, pl, so, be, im, fi) ∧ D = (nI e, mkf e fi, bg, pl, so, be, im, fi, le, ln) ∧ (mkf e fi = 1 → bg = pl (e - 1)) ∧ WD e ln pl so be im fi
def rK (k : tK) (K : mK) (D : mD) : Prop := K = k ∧ (k = 0 ∨ (k = 1 ∧ D.2.1 = 1))
def rQ (q : tP) (Q : mP) : Prop := Q = q ∧ ∃ (g : Nat) (os op : Nat → Int32), g ≤ 12 ∧ q = (nI g, os, op) ∧ ∀ i, i < g → (os i = 1 ∨ os i = 3 → ∃ u : Nat, u < 400 ∧ op i = nI u) ∧ (os i = 3 → 0 < i ∧ os (i - 1) = 2)
def rC1 (pa ic ns nr PA HS HR : Nat → Int32) (i : Nat) : Prop := (ic i = 0 ∧ HS i = -1 ∧ PA i = pa i) ∨ (ic i = 1 ∧ ∃ u v : Nat, u ≤ 29 ∧ v ≤ 30 ∧ ns i = nI u ∧ HS i = nI u ∧ nr i = nI v ∧ HR i = nI v)
def rC (c : tC) (C : mC) : Prop := ∃ (l : Nat) (pa ic ns nr PA HS HR : Nat → Int32), l ≤ 30 ∧ c = (nI l, pa, ic, ns, nr) ∧ C = (nI l, PA, HS, HR) ∧ ∀ i, i < l → rC1 pa ic ns nr PA HS HR i
def rO (o : tO) (O : mO) : Prop := O = o ∧ ∃ (w : Nat) (f : Nat → Int32), w ≤ 300 ∧ o = (nI w, f)
theorem rO.mk {a : Nat} {f : Nat → Int32} (h : a ≤ 300) : rO (nI a, f) (nI a, f) := ⟨rfl, a, f, h, rfl⟩
def REL (t : tT) (s : tR) (y : tY) (d : tD) (q : tP) (k : tK) (r : tR) (c : tC) (o : tO) (T : mT) (S : mS) (R : mR) (C : mC) (Y : mY) (D : mD) (K : mK) (Q : mP) (O : mO) : Prop := rT t T ∧ rS s S ∧ rY y Y ∧ rD d D ∧ rQ q Q ∧ rK k K D ∧ rS r R ∧ rC c C ∧ rO o O
def PL (c : tC) : Prop := ∀ l : Nat, c.1 = nI (l + 1) → l < 30 → c.2.2.1 l = 0 → ∃ u : Nat, u ≤ 400 ∧ c.2.1 l = nI u
def NX (nx e : Int32) (d : tD) (c : tC) : Prop := nx = -1 ∨ (e = 0 ∧ PL c ∧ ∃ j z : Nat, nx = nI j ∧ d.1 = nI z ∧ j < 82 + z ∧ z ≤ 40)
def ST (o' : Option (Int32 × tT × tR × tY × tD × tP × tK × tR × tC × tO × tM)) (O' : Option (Int32 × mT × mS × mR × mC × mY × mD × mK × mP × mO × mM)) (al st ca ov an th lf st' ca' re en : Int32) : Prop := ∃ (e : Int32) (t : tT) (s : tR) (y : tY) (d : tD) (q : tP) (k : tK) (r : tR) (c : tC) (o : tO) (nx : Int32) (T : mT) (S : mS) (R : mR) (C : mC) (Y : mY) (D : mD) (K : mK) (Q : mP) (O : mO), o' = some (e, t, s, y, d, q, k, r, c, o, (al, st, ca, nx, ov, an)) ∧ O' = some (e, T, S, R, C, Y, D, K, Q, O, (th, lf, st', ca', nx, re, en)) ∧ REL t s y d q k r c o T S R C Y D K Q O ∧ NX nx e d c
theorem ST.mk {al st ca ov an th lf st' ca' re en e : Int32} {t : tT} {s : tR} {y : tY} {d : tD} {q : tP} {k : tK} {r : tR} {c : tC} {o : tO} {nx : Int32} {T : mT} {S : mS} {R : mR} {C : mC} {Y : mY} {D : mD} {K : mK} {Q : mP} {O : mO} (h : REL t s y d q k r c o T S R C Y D K Q O) (hN : NX nx e d c) : ST (some (e, t, s, y, d, q, k, r, c, o, (al, st, ca, nx, ov, an))) (some (e, T, S, R, C, Y, D, K, Q, O, (th, lf, st', ca', nx, re, en))) al st ca ov an th lf st' ca' re en := ⟨_, _, _, _, _, _, _, _, _, _, _, _, _, _, _, _, _, _, _, _, rfl, rfl, h, hN⟩
theorem ST.m1 {al st ca ov an th lf st' ca' re en e : Int32} {t : tT} {s : tR} {y : tY} {d : tD} {q : tP} {k : tK} {r : tR} {c : tC} {o : tO} {T : mT} {S : mS} {R : mR} {C : mC} {Y : mY} {D : mD} {K : mK} {Q : mP} {O : mO} (h : REL t s y d q k r c o T S R C Y D K Q O) : ST (some (e, t, s, y, d, q, k, r, c, o, (al, st, ca, -1, ov, an))) (some (e, T, S, R, C, Y, D, K, Q, O, (th, lf, st', ca', -1, re, en))) al st ca ov an th lf st' ca' re en := ST.mk h (.inl rfl)
-- facts for simp
theorem nlt30 {n : Nat} (h : n < 30) : (n = 30) = False := eq_false (by omega)
theorem ckn {α : Type} {a b : Nat} {K : Option α} (h : a < b) : ck (a < b) K = K := if_pos h
theorem upd_at {f : Nat → Int32} {k j : Nat} {x : Int32} : upd f k x j = if j = k then x else f j := rfl
theorem e_12 {n : Nat} (h : n < 2 ^ 31) : (nI n = 12) = (n = 12) := propext (nI_eq (b := 12) h (by omega))
theorem e_30 {n : Nat} (h : n < 2 ^ 31) : (nI n = 30) = (n = 30) := propext (nI_eq (b := 30) h (by omega))
theorem e_40 {n : Nat} (h : n < 2 ^ 31) : (nI n = 40) = (n = 40) := propext (nI_eq (b := 40) h (by omega))
theorem e_400 {n : Nat} (h : n < 2 ^ 31) : (nI n = 400) = (n = 400) := propext (nI_eq (b := 400) h (by omega))
theorem e_0 {n : Nat} (h : n < 2 ^ 31) : (nI n = 0) = (n = 0) := propext (nI_eq (b := 0) h (by omega))
theorem L_0 {n : Nat} (h : n < 2 ^ 31) : ((0 : Int32) ≤ nI n) = True := eq_true (gle_0 (by omega) h)
theorem L_1 {n : Nat} (h : n < 2 ^ 31) : ((1 : Int32) ≤ nI n) = (1 ≤ n) := propext ⟨fun q => Nat.not_lt.mp fun z => nle_1 z q, fun q => gle_1 q h⟩
theorem L_2 {n : Nat} (h : n < 2 ^ 31) : ((2 : Int32) ≤ nI n) = (2 ≤ n) := propext ⟨fun q => Nat.not_lt.mp fun z => nle_2 z q, fun q => gle_2 q h⟩
theorem L_3 {n : Nat} (h : n < 2 ^ 31) : ((3 : Int32) ≤ nI n) = (3 ≤ n) := propext ⟨fun q => Nat.not_lt.mp fun z => nle_3 z q, fun q => gle_3 q h⟩
theorem U_0 {n : Nat} (h : n < 2 ^ 31) : (nI n ≤ (0 : Int32)) = (n = 0) := propext ⟨fun q => by rcases Nat.eq_zero_or_pos n with z | z; exact z; exact absurd q (nle'_0 z h), fun q => le'_0 (by omega)⟩
/-- a word that isn't of the inner ones: the model doesn't look at the calls -/
theorem dn_ge {x : Int32} (h1 : x < 82) (h2 : 8 ≤ x) {t : mT} {s : mS} {r : mR} {c0 : tC} {c : mC} {y : mY} {d : mD} {k : mK} {q : mP} {o : mO} {m : mM} (hC : rC c0 c) : f_X12_done x t s r c y d k q o m = b_X12_done_52 x t s r c y d k q o m := by
  obtain ⟨l, pa, ic, ns, nr, PA, HS, HR, hl, rfl, rfl, hc⟩ := hC
  unfold f_X12_done
  rw [if_pos h1]
  have e0 : ∀ z : Int32, b_X12_done_41 x z t s r (nI l, PA, HS, HR) y d k q o m = b_X12_done_52 x t s r (nI l, PA, HS, HR) y d k q o m := fun z => by
    unfold b_X12_done_41; rw [if_pos h2]
  have e1 : b_X12_done_40 x t s r (nI l, PA, HS, HR) y d k q o m = b_X12_done_52 x t s r (nI l, PA, HS, HR) y d k q o m := by
    unfold b_X12_done_40; exact e0 _
  rw [e1, e0]
  show (if nI l ≤ 0 then _ else ck (¬ ((nI l - 1) < 0 ∨ 30 ≤ (nI l - 1).toNatClampNeg)) (if 0 ≤ (HS ((nI l - 1).toNatClampNeg)) then _ else _)) = _
  by_cases z : l = 0
  · subst z; rw [if_pos (by decide)]
  · rw [if_neg (nle'_0 (by omega) (by omega)), nI_m1 (by omega), ck_t (in_ok (by omega) (by omega))]
    split <;> rfl
theorem LE400 {n : Nat} (h : n < 400) : ((400 : Int32) ≤ nI n) = False := eq_false (nle_400 h)
theorem LT400 {n : Nat} (h : n < 400) : (nI n < (400 : Int32)) = True := eq_true (lt'_400 h)
theorem lt_of_nle {x y : Int32} (h : y ≤ x) : ¬ x < y := Int32.not_lt.mpr h
theorem ge0 {x : Int32} (h : (400 : Int32) ≤ x) : ¬ x < 0 := fun q => Int32.lt_irrefl (Int32.lt_of_lt_of_le q (Int32.le_trans (by decide : (0 : Int32) ≤ 400) h))
