/-! a name is looked up: the class's find and the model's meaning -/
theorem t9 (k : Nat) : nI k * 9 = nI (k * 9) := pk_mul k 9
theorem t9' (k : Nat) : 9 * nI k = nI (9 * k) := pk_mul 9 k
theorem okc_n {x : Int32} (h : okc x) : ∃ m : Nat, m < 65536 ∧ x = nI m := by
  refine ⟨x.toUInt32.toNat % 65536, Nat.mod_lt _ (by decide), ?_⟩
  have e : x.toUInt32 % 65536 = UInt32.ofNat (x.toUInt32.toNat % 65536) := by
    apply UInt32.toNat_inj.mp
    rw [UInt32.toNat_mod, UInt32.toNat_ofNat']
    have := x.toUInt32.toNat_lt
    show _ % 65536 = _
    omega
  unfold okc at h
  rw [e] at h
  exact h.symm
section FIND
variable {e l u : Nat} {A B mk bg : Int32} {le ln pl so be im fi f : Nat → Int32}
/-- one made word's name against the name that was read, letter by letter: both answer alike -/
theorem nm_loop {k : Nat} (hk : k < 40) (hl : l ≤ 9) (hu : u + l ≤ 200) (hc : ∀ i, okc (f i)) (hn : ln k = nI l) : ∀ (n m j : Nat), j ≤ l → l - j < n → l - j < m → ∃ v : Int32, (v = 0 ∨ v = 1) ∧ b_X2_isNamed_17 n (nI k) (nI j) (nI e, le, ln, pl, so, be, im, fi) (A, B, nI u, nI l, f) = some v ∧ b_X12_isNamed_30 m (nI k) 1 (nI j) (A, B, nI u, nI l, f) (nI e, mk, bg, pl, so, be, im, fi, le, ln) = some v := by
  intro n
  induction n with
  | zero => intro m j h1 h2 _; omega
  | succ n ih =>
    intro m j h1 h2 h3
    obtain ⟨m, rfl⟩ : ∃ z, m = z + 1 := ⟨m - 1, by omega⟩
    unfold b_X2_isNamed_17 b_X12_isNamed_30
    show ∃ v : Int32, (v = 0 ∨ v = 1) ∧ (ck (¬ (nI k < 0 ∨ 40 ≤ (nI k).toNatClampNeg)) (if ln (nI k).toNatClampNeg ≤ nI j then some 1 else ck (¬ (nI k * 9 + nI j < 0 ∨ 360 ≤ (nI k * 9 + nI j).toNatClampNeg)) ((f_X9_nameAt (nI j) (A, B, nI u, nI l, f)).bind (fun u6 => if le (nI k * 9 + nI j).toNatClampNeg = u6 then b_X2_isNamed_17 n (nI k) (nI j + 1) (nI e, le, ln, pl, so, be, im, fi) (A, B, nI u, nI l, f) else some 0)))) = some v ∧ (if nI l ≤ nI j then ck ((1 : Int32) = 0 ∨ (1 : Int32) = 1) (some 1) else if (1 : Int32) = 0 then _ else ck (¬ (9 * nI k + nI j < 0 ∨ 360 ≤ (9 * nI k + nI j).toNatClampNeg)) (ck (¬ (nI u + nI j < 0 ∨ 200 ≤ (nI u + nI j).toNatClampNeg)) (if le (9 * nI k + nI j).toNatClampNeg = f (nI u + nI j).toNatClampNeg then b_X12_isNamed_72 (b_X12_isNamed_30 m) (nI k) (nI j) 1 (A, B, nI u, nI l, f) (nI e, mk, bg, pl, so, be, im, fi, le, ln) else b_X12_isNamed_72 (b_X12_isNamed_30 m) (nI k) (nI j) 0 (A, B, nI u, nI l, f) (nI e, mk, bg, pl, so, be, im, fi, le, ln)))) = some v
    rw [ck_t (in_ok hk (by omega)), nI_clamp (by omega), hn]
    by_cases q : j = l
    · subst q
      rw [if_pos (nI_le (by omega) (by omega)), if_pos (nI_le (by omega) (by omega)), ck_t (.inr rfl)]
      exact ⟨1, .inr rfl, rfl, rfl⟩
    · rw [if_neg (nI_ge (by omega) (by omega)), if_neg (nI_ge (by omega) (by omega)), if_neg (show ¬ (1 : Int32) = 0 by decide)]
      rw [t9, t9', nI_add, nI_add, nI_add, ck_t (in_ok (by omega) (by omega)), ck_t (in_ok (by omega) (by omega)), ck_t (in_ok (by omega) (by omega)), nI_clamp (by omega), nI_clamp (by omega), nI_clamp (by omega), at_name hu (by omega) hc, sb, show 9 * k = k * 9 by omega, nI_1]
      by_cases z : le (k * 9 + j) = f (u + j)
      · rw [if_pos z, if_pos z]
        unfold b_X12_isNamed_72
        rw [nI_1]
        exact ih m (j + 1) (by omega) (by omega) (by omega)
      · rw [if_neg z, if_neg z]
        refine ⟨0, .inl rfl, rfl, ?_⟩
        unfold b_X12_isNamed_72
        obtain ⟨m, rfl⟩ : ∃ z, m = z + 1 := ⟨m - 1, by omega⟩
        unfold b_X12_isNamed_30
        rw [if_pos (show (0 : Int32) = 0 from rfl), ck_t (.inl rfl)]
        split <;> rfl
theorem nm_zero (k : Nat) : b_X12_isNamed_26 (nI k) (A, B, nI u, nI l, f) (nI e, mk, bg, pl, so, be, im, fi, le, ln) = some 0 := by
  unfold b_X12_isNamed_26 b_X12_isNamed_27
  rw [FU_s]
  unfold b_X12_isNamed_30
  rw [if_pos (show (0 : Int32) = 0 from rfl), ck_t (.inl rfl)]
  split <;> rfl
/-- all made words, from the latest down -/
theorem fm_loop (he : e ≤ 40) (hl : l ≤ 9) (hu : u + l ≤ 200) (hc : ∀ i, okc (f i)) : ∀ (j n m : Nat), j ≤ e → j < n → j < m → (∃ i : Nat, i < e ∧ b_X2_find_7 n (nI j - 1) (nI e, le, ln, pl, so, be, im, fi) (A, B, nI u, nI l, f) = some (nI (82 + i)) ∧ b_X12_meaning_18 m (nI j - 1) (A, B, nI u, nI l, f) (nI e, mk, bg, pl, so, be, im, fi, le, ln) = some (nI (82 + i))) ∨ (b_X2_find_7 n (nI j - 1) (nI e, le, ln, pl, so, be, im, fi) (A, B, nI u, nI l, f) = b_X2_find_44 FU 0 (nI e, le, ln, pl, so, be, im, fi) (A, B, nI u, nI l, f) ∧ b_X12_meaning_18 m (nI j - 1) (A, B, nI u, nI l, f) (nI e, mk, bg, pl, so, be, im, fi, le, ln) = b_X12_meaning_45 FU 0 0 (A, B, nI u, nI l, f) (nI e, mk, bg, pl, so, be, im, fi, le, ln)) := by
  intro j
  induction j with
  | zero =>
    intro n m _ h1 h2
    obtain ⟨n, rfl⟩ : ∃ z, n = z + 1 := ⟨n - 1, by omega⟩
    obtain ⟨m, rfl⟩ : ∃ z, m = z + 1 := ⟨m - 1, by omega⟩
    right
    unfold b_X2_find_7 b_X12_meaning_18
    rw [if_pos (show nI 0 - 1 < 0 by decide), if_pos (show nI 0 - 1 < 0 by decide)]
    exact ⟨rfl, rfl⟩
  | succ j ih =>
    intro n m hj h1 h2
    obtain ⟨n, rfl⟩ : ∃ z, n = z + 1 := ⟨n - 1, by omega⟩
    obtain ⟨m, rfl⟩ : ∃ z, m = z + 1 := ⟨m - 1, by omega⟩
    have e1 : nI (j + 1) - 1 = nI j := nI_m1 (by omega)
    have e2 : nI j + (-1) = nI j - 1 := by rw [Int32.sub_eq_add_neg]
    have e3 : (82 : Int32) + nI j = nI (82 + j) := nI_add 82 j
    rw [e1]
    unfold b_X2_find_7 b_X12_meaning_18 f_X12_isNamed f_X2_isNamed b_X2_find_36
    rw [if_neg (nI_pos (by omega)), if_neg (nI_pos (by omega)), ck_t (in_ok (by omega) (by omega)), ck_t (in_ok (by omega) (by omega)), ck_t (in_ok (by omega) (by omega)), nI_clamp (by omega), nm_zero, e2, e3]
    by_cases z : fi j = 0
    · rw [if_pos z, if_pos z, sb, if_pos (show (0 : Int32) = 0 from rfl)]
      exact ih n m (by omega) (by omega) (by omega)
    · rw [if_neg z, if_neg z, ck_t (in_ok2 (by omega) (by omega))]
      by_cases w : ln j = nI l
      · obtain ⟨v, hv, g1, g2⟩ := nm_loop (e := e) (A := A) (B := B) (mk := mk) (bg := bg) (le := le) (pl := pl) (so := so) (be := be) (im := im) (fi := fi) (show j < 40 by omega) hl hu hc w FU FU 0 (by omega) (by rw [FU_s]; omega) (by rw [FU_s]; omega)
        have g1' : b_X2_isNamed_17 FU (nI j) 0 (nI e, le, ln, pl, so, be, im, fi) (A, B, nI u, nI l, f) = some v := g1
        have g2' : b_X12_isNamed_27 (nI j) 1 (A, B, nI u, nI l, f) (nI e, mk, bg, pl, so, be, im, fi, le, ln) = some v := g2
        rw [if_pos w, if_pos w, g1', g2', sb, sb]
        rcases hv with rfl | rfl
        · rw [if_pos rfl, if_pos rfl]
          exact ih n m (by omega) (by omega) (by omega)
        · rw [if_neg (by decide), if_neg (by decide)]
          exact .inl ⟨j, by omega, rfl, rfl⟩
      · rw [if_neg w, if_neg w, sb, sb, if_pos (show (0 : Int32) = 0 from rfl), if_pos (show (0 : Int32) = 0 from rfl)]
        exact ih n m (by omega) (by omega) (by omega)
/-- a name that is too long is no made word's -/
theorem fm_long (he : e ≤ 40) (hl : 9 < l) (hl2 : l ≤ 200) (hn : ∀ i, i < e → ∃ a : Nat, a ≤ 9 ∧ ln i = nI a) : ∀ (j n : Nat), j ≤ e → j < n → b_X2_find_7 n (nI j - 1) (nI e, le, ln, pl, so, be, im, fi) (A, B, nI u, nI l, f) = b_X2_find_44 FU 0 (nI e, le, ln, pl, so, be, im, fi) (A, B, nI u, nI l, f) := by
  intro j
  induction j with
  | zero =>
    intro n _ h1
    obtain ⟨n, rfl⟩ : ∃ z, n = z + 1 := ⟨n - 1, by omega⟩
    unfold b_X2_find_7
    rw [if_pos (show nI 0 - 1 < 0 by decide)]
  | succ j ih =>
    intro n hj h1
    obtain ⟨n, rfl⟩ : ∃ z, n = z + 1 := ⟨n - 1, by omega⟩
    have e1 : nI (j + 1) - 1 = nI j := nI_m1 (by omega)
    have e2 : nI j + (-1) = nI j - 1 := by rw [Int32.sub_eq_add_neg]
    obtain ⟨a, ha, hna⟩ := hn j (by omega)
    rw [e1]
    unfold b_X2_find_7 f_X2_isNamed b_X2_find_36
    rw [if_neg (nI_pos (by omega)), ck_t (in_ok (by omega) (by omega)), ck_t (in_ok (by omega) (by omega)), nI_clamp (by omega), e2, if_neg (show ¬ (nI e, le, ln, pl, so, be, im, fi).snd.snd.fst j = (A, B, nI u, nI l, f).snd.snd.snd.fst from fun z => nI_ne (a := a) (b := l) (by omega) (by omega) (by omega) (hna.symm.trans z)), sb, if_pos (show (0 : Int32) = 0 from rfl)]
    rw [ih n (by omega) (by omega)]
    split <;> rfl
/-- is the name read the spelling of the word w? -/
def sp (u l : Nat) (f : Nat → Int32) (w : Nat) : Prop := sLen w = l ∧ ∀ j, j < l → sChr w j = f (u + j)
theorem sp_loop {w : Nat} (hw : sLen w = l) (hu : u + l ≤ 200) (hc : ∀ i, okc (f i)) : ∀ (n j : Nat), j ≤ l → l - j < n → ((∀ i, j ≤ i → i < l → sChr w i = f (u + i)) → b_X2_isSpelled_15 w n (nI j) (A, B, nI u, nI l, f) = some 1) ∧ (¬ (∀ i, j ≤ i → i < l → sChr w i = f (u + i)) → b_X2_isSpelled_15 w n (nI j) (A, B, nI u, nI l, f) = some 0) := by
  intro n
  induction n with
  | zero => intro j h1 h2; omega
  | succ n ih =>
    intro j h1 h2
    unfold b_X2_isSpelled_15
    rw [hw]
    by_cases q : j = l
    · subst q
      rw [if_pos (nI_le (by omega) (by omega))]
      exact ⟨fun _ => rfl, fun z => absurd (fun i a b => by omega) z⟩
    · rw [if_neg (nI_ge (by omega) (by omega)), ck_t (in_ok (by omega) (by omega)), at_name hu (by omega) hc, sb, nI_clamp (by omega), nI_1]
      obtain ⟨i1, i2⟩ := ih (j + 1) (by omega) (by omega)
      by_cases z : sChr w j = f (u + j)
      · rw [if_pos z]
        refine ⟨fun y => i1 fun i a b => y i (by omega) b, fun y => i2 fun y2 => y fun i a b => ?_⟩
        by_cases x : i = j
        · subst x; exact z
        · exact y2 i (by omega) b
      · rw [if_neg z]
        exact ⟨fun y => absurd (y j (by omega) (by omega)) z, fun _ => rfl⟩
theorem is_sp {w : Nat} (hw : w < 82) (hw9 : sLen w ≤ 9) (hu : u + l ≤ 200) (hc : ∀ i, okc (f i)) : (sp u l f w → f_X2_isSpelled w (A, B, nI u, nI l, f) = some 1) ∧ (¬ sp u l f w → f_X2_isSpelled w (A, B, nI u, nI l, f) = some 0) := by
  unfold f_X2_isSpelled
  rw [ck_t hw]
  show (_ → (if nI (sLen w) = nI l then _ else _) = _) ∧ (_ → (if nI (sLen w) = nI l then _ else _) = _)
  by_cases q : sLen w = l
  · rw [if_pos (by rw [q])]
    obtain ⟨i1, i2⟩ := sp_loop (A := A) (B := B) q hu hc FU 0 (by omega) (by rw [FU_s]; omega)
    exact ⟨fun h => i1 fun i _ b => h.2 i b, fun h => i2 fun z => h ⟨q, fun j hj => z j (by omega) hj⟩⟩
  · rw [if_neg (nI_ne (by omega) (by omega) q)]
    exact ⟨fun h => absurd h.1 q, fun _ => rfl⟩
theorem sp9 : ∀ w, w < 82 → sLen w ≤ 9 := by decide +kernel
/-- the class: the first word from w on that is spelled so -/
theorem fs_none (hu : u + l ≤ 200) (hc : ∀ i, okc (f i)) {D : tD} : ∀ (r w n : Nat), w + r = 82 → r < n → (∀ v, w ≤ v → v < 82 → ¬ sp u l f v) → b_X2_find_44 n (nI w) D (A, B, nI u, nI l, f) = some (-1) := by
  intro r
  induction r with
  | zero =>
    intro w n h1 h2 _
    obtain ⟨n, rfl⟩ : ∃ z, n = z + 1 := ⟨n - 1, by omega⟩
    unfold b_X2_find_44
    obtain rfl : w = 82 := by omega
    rw [if_pos (show (82 : Int32) ≤ nI 82 by decide)]
  | succ r ih =>
    intro w n h1 h2 h3
    obtain ⟨n, rfl⟩ : ∃ z, n = z + 1 := ⟨n - 1, by omega⟩
    unfold b_X2_find_44
    rw [if_neg (show ¬ (82 : Int32) ≤ nI w from nI_ge (b := 82) (by omega) (by omega)), ck_t (in_ok (by omega) (by omega)), nI_clamp (by omega), (is_sp (by omega) (sp9 w (by omega)) hu hc).2 (h3 w (by omega) (by omega)), sb, if_pos (show (0 : Int32) = 0 from rfl), nI_1]
    exact ih (w + 1) n (by omega) (by omega) fun v a b => h3 v (by omega) b
theorem fs_some (hu : u + l ≤ 200) (hc : ∀ i, okc (f i)) {D : tD} {v : Nat} (hv : v < 82) (hs : sp u l f v) : ∀ (r w n : Nat), w + r = v → r < n → (∀ x, w ≤ x → x < v → ¬ sp u l f x) → b_X2_find_44 n (nI w) D (A, B, nI u, nI l, f) = some (nI v) := by
  intro r
  induction r with
  | zero =>
    intro w n h1 h2 _
    obtain ⟨n, rfl⟩ : ∃ z, n = z + 1 := ⟨n - 1, by omega⟩
    unfold b_X2_find_44
    obtain rfl : w = v := by omega
    rw [if_neg (show ¬ (82 : Int32) ≤ nI w from nI_ge (b := 82) (by omega) (by omega)), ck_t (in_ok (by omega) (by omega)), nI_clamp (by omega), (is_sp (by omega) (sp9 w (by omega)) hu hc).1 hs, sb, if_neg (show ¬ (1 : Int32) = 0 by decide)]
  | succ r ih =>
    intro w n h1 h2 h3
    obtain ⟨n, rfl⟩ : ∃ z, n = z + 1 := ⟨n - 1, by omega⟩
    unfold b_X2_find_44
    rw [if_neg (show ¬ (82 : Int32) ≤ nI w from nI_ge (b := 82) (by omega) (by omega)), ck_t (in_ok (by omega) (by omega)), nI_clamp (by omega), (is_sp (by omega) (sp9 w (by omega)) hu hc).2 (h3 w (by omega) (by omega)), sb, if_pos (show (0 : Int32) = 0 from rfl), nI_1]
    exact ih (w + 1) n (by omega) (by omega) fun x a b => h3 x (by omega) b
end FIND
/-! the model's packing, base 128 -/
def Pk (g : Nat → Int32) : Nat → Nat
  | 0 => 0
  | j + 1 => Pk g j * 128 + (g j).toNatClampNeg
def TW (w : Nat) : Nat := Pk (sChr w) (sLen w)
def gd (x : Int32) : Prop := 1 ≤ x.toNatClampNeg ∧ x.toNatClampNeg ≤ 127
theorem Pk_lt {g : Nat → Int32} : ∀ (j : Nat), (∀ i, i < j → gd (g i)) → Pk g j < 128 ^ j := by
  intro j
  induction j with
  | zero => intro _; show 0 < 128 ^ 0; decide
  | succ j ih =>
    intro h
    have h1 := ih fun i a => h i (by omega)
    have h2 := (h j (by omega)).2
    show Pk g j * 128 + (g j).toNatClampNeg < 128 ^ (j + 1)
    rw [Nat.pow_succ]
    omega
theorem Pk_pos {g : Nat → Int32} {j : Nat} (hj : 1 ≤ j) (h : ∀ i, i < j → gd (g i)) : 1 ≤ Pk g j := by
  obtain ⟨j, rfl⟩ : ∃ z, j = z + 1 := ⟨j - 1, by omega⟩
  have h2 := (h j (by omega)).1
  show 1 ≤ Pk g j * 128 + (g j).toNatClampNeg
  omega
theorem Pk_inj {g g' : Nat → Int32} : ∀ (a b : Nat), (∀ i, i < a → gd (g i)) → (∀ i, i < b → gd (g' i)) → Pk g a = Pk g' b → a = b ∧ ∀ i, i < a → (g i).toNatClampNeg = (g' i).toNatClampNeg := by
  intro a
  induction a with
  | zero =>
    intro b _ h2 e
    rcases Nat.eq_zero_or_pos b with q | q
    · exact ⟨q.symm, fun i hi => by omega⟩
    · have := Pk_pos q h2
      have e' : 0 = Pk g' b := e
      omega
  | succ a ih =>
    intro b h1 h2 e
    rcases Nat.eq_zero_or_pos b with q | q
    · subst q
      have := Pk_pos (j := a + 1) (by omega) h1
      have e' : Pk g (a + 1) = 0 := e
      omega
    · obtain ⟨b, rfl⟩ : ∃ z, b = z + 1 := ⟨b - 1, by omega⟩
      have e' : Pk g a * 128 + (g a).toNatClampNeg = Pk g' b * 128 + (g' b).toNatClampNeg := e
      have w1 := h1 a (by omega)
      have w2 := h2 b (by omega)
      unfold gd at w1 w2
      obtain ⟨r1, r2⟩ := ih b (fun i hi => h1 i (by omega)) (fun i hi => h2 i (by omega)) (by omega)
      subst r1
      refine ⟨rfl, fun i hi => ?_⟩
      by_cases x : i = a
      · subst x; omega
      · exact r2 i (by omega)
theorem Pk_cg {g g' : Nat → Int32} : ∀ (a : Nat), (∀ i, i < a → g i = g' i) → Pk g a = Pk g' a := by
  intro a
  induction a with
  | zero => intro _; rfl
  | succ a ih =>
    intro h
    show Pk g a * 128 + (g a).toNatClampNeg = Pk g' a * 128 + (g' a).toNatClampNeg
    rw [ih fun i hi => h i (by omega), h a (by omega)]
theorem sp_gd : ∀ w, w < 82 → ∀ j, j < sLen w → (1 ≤ (sChr w j).toNatClampNeg ∧ (sChr w j).toNatClampNeg ≤ 127) ∧ sChr w j = nI (sChr w j).toNatClampNeg := by decide +kernel
theorem TW_early : ∀ i, i < 40 → mEarly i = lN (TW i) ∧ TW i < 2 ^ 63 := by decide +kernel
theorem TW_late : ∀ i, i < 40 → mLate i = lN (TW (40 + i)) ∧ TW (40 + i) < 2 ^ 63 := by decide +kernel
theorem TW_80 : TW 80 = 26780447208 ∧ TW 81 = 40 := by decide +kernel
theorem TW_ne : ∀ v, v < 82 → ∀ w, w < 82 → v ≠ w → 1 ≤ sLen w → TW v ≠ TW w := by decide +kernel
section PACK
variable {l u P : Nat} {A B : Int32} {f : Nat → Int32} {D : mD}
def mEnd (P : Nat) (T : mT) (D : mD) : Option Int32 := if (lg_cmp (lN P) 26780447208) = 0 then (some 80) else (if (lg_cmp (lN P) 40) = 0 then (some 81) else (b_X12_meaning_134 FU (lN P) 0 T D))
theorem gd_n {m : Nat} (h : m < 65536) : gd (nI m) ↔ 1 ≤ m ∧ m ≤ 127 := by
  unfold gd; rw [nI_clamp (by omega)]
theorem mp_loop (hl : l ≤ 9) (hu : u + l ≤ 200) (hc : ∀ i, okc (f i)) : ∀ (n j : Nat), j ≤ l → l - j < n → (∀ i, i < j → gd (f (u + i))) → ((∀ i, i < l → gd (f (u + i))) → b_X12_meaning_45 n (lN (Pk (fun i => f (u + i)) j)) (nI j) (A, B, nI u, nI l, f) D = mEnd (Pk (fun i => f (u + i)) l) (A, B, nI u, nI l, f) D) ∧ (¬ (∀ i, i < l → gd (f (u + i))) → b_X12_meaning_45 n (lN (Pk (fun i => f (u + i)) j)) (nI j) (A, B, nI u, nI l, f) D = some (-1)) := by
  intro n
  induction n with
  | zero => intro j h1 h2; omega
  | succ n ih =>
    intro j h1 h2 h3
    unfold b_X12_meaning_45
    by_cases q : j = l
    · subst q
      rw [if_pos (show nI j ≤ nI j from Int32.le_refl _)]
      exact ⟨fun _ => rfl, fun z => absurd h3 z⟩
    · obtain ⟨m, hm, hfm⟩ := okc_n (hc (u + j))
      show (_ → (if nI l ≤ nI j then _ else ck (¬ (nI u + nI j < 0 ∨ 200 ≤ (nI u + nI j).toNatClampNeg)) (if 127 < f (nI u + nI j).toNatClampNeg then some (-1) else ck (¬ (nI u + nI j < 0 ∨ 200 ≤ (nI u + nI j).toNatClampNeg)) (if f (nI u + nI j).toNatClampNeg = 0 then some (-1) else ck (¬ (nI u + nI j < 0 ∨ 200 ≤ (nI u + nI j).toNatClampNeg)) (b_X12_meaning_45 n (lN (Pk (fun i => f (u + i)) j) * 128 + (f (nI u + nI j).toNatClampNeg).toInt64) (nI j + 1) (A, B, nI u, nI l, f) D)))) = _) ∧ (_ → (if nI l ≤ nI j then _ else ck (¬ (nI u + nI j < 0 ∨ 200 ≤ (nI u + nI j).toNatClampNeg)) (if 127 < f (nI u + nI j).toNatClampNeg then some (-1) else ck (¬ (nI u + nI j < 0 ∨ 200 ≤ (nI u + nI j).toNatClampNeg)) (if f (nI u + nI j).toNatClampNeg = 0 then some (-1) else ck (¬ (nI u + nI j < 0 ∨ 200 ≤ (nI u + nI j).toNatClampNeg)) (b_X12_meaning_45 n (lN (Pk (fun i => f (u + i)) j) * 128 + (f (nI u + nI j).toNatClampNeg).toInt64) (nI j + 1) (A, B, nI u, nI l, f) D)))) = _)
      rw [nI_add, ck_t (in_ok (by omega) (by omega)), ck_t (in_ok (by omega) (by omega)), ck_t (in_ok (by omega) (by omega)), nI_clamp (by omega), hfm, if_neg (nI_ge (by omega) (by omega)), nI_1]
      have hg : gd (f (u + j)) ↔ 1 ≤ m ∧ m ≤ 127 := by rw [hfm]; exact gd_n hm
      by_cases z : 127 < m
      · rw [if_pos (show (127 : Int32) < nI m from nI_lt (a := 127) z (by omega))]
        exact ⟨fun y => absurd (hg.mp (y j (by omega))).2 (by omega), fun _ => rfl⟩
      · rw [if_neg (show ¬ (127 : Int32) < nI m from nI_nlt (a := 127) (by omega) (by omega))]
        by_cases x : m = 0
        · subst x
          rw [if_pos (show nI 0 = (0 : Int32) from rfl)]
          exact ⟨fun y => absurd (hg.mp (y j (by omega))).1 (by omega), fun _ => rfl⟩
        · rw [if_neg (show ¬ nI m = (0 : Int32) from nI_ne (b := 0) (by omega) (by omega) x), nI_l (by omega), show (128 : Int64) = lN 128 from rfl, lN_mul, lN_add]
          have hk : Pk (fun i => f (u + i)) j * 128 + m = Pk (fun i => f (u + i)) (j + 1) := by
            show _ = Pk (fun i => f (u + i)) j * 128 + (f (u + j)).toNatClampNeg
            rw [hfm, nI_clamp (by omega)]
          rw [hk]
          refine ih (j + 1) (by omega) (by omega) fun i hi => ?_
          by_cases y : i = j
          · subst y; exact hg.mpr (by omega)
          · exact h3 i (by omega)
theorem ce {i : Nat} (hi : i < 40) (hP : P < 2 ^ 63) : lg_cmp (lN P) (mEarly i) = 0 ↔ P = TW i := by
  obtain ⟨e1, e2⟩ := TW_early i hi
  rw [e1, lg_cmp_eq]
  exact pk_lEQ hP e2
theorem cl {i : Nat} (hi : i < 40) (hP : P < 2 ^ 63) : lg_cmp (lN P) (mLate i) = 0 ↔ P = TW (40 + i) := by
  obtain ⟨e1, e2⟩ := TW_late i hi
  rw [e1, lg_cmp_eq]
  exact pk_lEQ hP e2
theorem me_none {T : mT} (hP : P < 2 ^ 63) (hn : ∀ v, v < 80 → P ≠ TW v) : ∀ (r i n : Nat), i + r = 40 → r < n → b_X12_meaning_134 n (lN P) (nI i) T D = some (-1) := by
  intro r
  induction r with
  | zero =>
    intro i n h1 h2
    obtain ⟨n, rfl⟩ : ∃ z, n = z + 1 := ⟨n - 1, by omega⟩
    obtain rfl : i = 40 := by omega
    unfold b_X12_meaning_134
    rw [if_pos (show (40 : Int32) ≤ nI 40 by decide)]
  | succ r ih =>
    intro i n h1 h2
    obtain ⟨n, rfl⟩ : ∃ z, n = z + 1 := ⟨n - 1, by omega⟩
    unfold b_X12_meaning_134 b_X12_meaning_159
    rw [if_neg (show ¬ (40 : Int32) ≤ nI i from nI_ge (b := 40) (by omega) (by omega)), ck_t (in_ok (by omega) (by omega)), ck_t (in_ok (by omega) (by omega)), nI_clamp (by omega), if_neg (fun z => hn i (by omega) ((ce (by omega) hP).mp z)), if_neg (fun z => hn (40 + i) (by omega) ((cl (by omega) hP).mp z)), nI_1]
    exact ih (i + 1) n (by omega) (by omega)
theorem me_some {T : mT} (hP : P < 2 ^ 63) (h1P : 1 ≤ P) {v : Nat} (hv : v < 80) (hPv : P = TW v) (hn : ∀ w, w < 80 → w ≠ v → P ≠ TW w) : ∀ (r i n : Nat), i + r = v % 40 → r < n → b_X12_meaning_134 n (lN P) (nI i) T D = some (nI v) := by
  have h0 : ¬ lg_cmp (lN P) 0 = 0 := fun z => by
    have z2 : lN P = lN 0 := (lg_cmp_eq _ _).mp z
    rw [pk_lEQ hP (by omega)] at z2
    omega
  intro r
  induction r with
  | zero =>
    intro i n h1 h2
    obtain ⟨n, rfl⟩ : ∃ z, n = z + 1 := ⟨n - 1, by omega⟩
    unfold b_X12_meaning_134 b_X12_meaning_159
    rw [if_neg (show ¬ (40 : Int32) ≤ nI i from nI_ge (b := 40) (by omega) (by omega)), ck_t (in_ok (by omega) (by omega)), ck_t (in_ok (by omega) (by omega)), nI_clamp (by omega)]
    by_cases q : v < 40
    · obtain rfl : i = v := by omega
      rw [if_pos ((ce (by omega) hP).mpr hPv), if_neg h0]
    · obtain rfl : v = 40 + i := by omega
      rw [if_neg (fun z => hn i (by omega) (by omega) ((ce (by omega) hP).mp z)), if_pos ((cl (by omega) hP).mpr hPv), show (40 : Int32) + nI i = nI (40 + i) from nI_add 40 i]
  | succ r ih =>
    intro i n h1 h2
    obtain ⟨n, rfl⟩ : ∃ z, n = z + 1 := ⟨n - 1, by omega⟩
    unfold b_X12_meaning_134 b_X12_meaning_159
    rw [if_neg (show ¬ (40 : Int32) ≤ nI i from nI_ge (b := 40) (by omega) (by omega)), ck_t (in_ok (by omega) (by omega)), ck_t (in_ok (by omega) (by omega)), nI_clamp (by omega), if_neg (fun z => hn i (by omega) (by omega) ((ce (by omega) hP).mp z)), if_neg (fun z => hn (40 + i) (by omega) (by omega) ((cl (by omega) hP).mp z)), nI_1]
    exact ih (i + 1) n (by omega) (by omega)
/-- the given words: both look a name up alike -/
theorem base_eq {d : tD} (hl1 : 1 ≤ l) (hu : u + l ≤ 200) (hc : ∀ i, okc (f i)) : ∃ w : Int32, b_X2_find_44 FU 0 d (A, B, nI u, nI l, f) = some w ∧ (l ≤ 9 → b_X12_meaning_45 FU 0 0 (A, B, nI u, nI l, f) D = some w) ∧ (w = -1 ∨ ∃ j : Nat, j < 82 ∧ w = nI j) ∧ (9 < l → w = -1) := by
  by_cases q : ∃ v, v < 82 ∧ sp u l f v
  · obtain ⟨v, hv, hs⟩ := q
    have hl9 : l ≤ 9 := by have := sp9 v hv; rw [hs.1] at this; exact this
    have hgd : ∀ i, i < l → gd (f (u + i)) := fun i hi => by rw [← hs.2 i hi]; exact (sp_gd v hv i (by rw [hs.1]; exact hi)).1
    have hPk : Pk (fun i => f (u + i)) l = TW v := by
      unfold TW; rw [hs.1]; exact (Pk_cg l fun i hi => hs.2 i hi).symm
    have hlt : Pk (fun i => f (u + i)) l < 2 ^ 63 := Nat.lt_of_lt_of_le (Pk_lt l hgd) (Nat.le_trans (Nat.pow_le_pow_right (by omega) hl9) (by decide))
    have hpos : 1 ≤ Pk (fun i => f (u + i)) l := Pk_pos hl1 hgd
    have hun : ∀ w, w < 82 → w ≠ v → Pk (fun i => f (u + i)) l ≠ TW w := fun w hw hne z => TW_ne w hw v hv hne (by rw [hs.1]; exact hl1) (z.symm.trans hPk)
    refine ⟨nI v, ?_, fun _ => ?_, .inr ⟨v, hv, rfl⟩, fun z => by omega⟩
    · refine fs_some hu hc hv hs v 0 FU (by omega) (by rw [FU_s]; omega) fun x _ hx hsx => ?_
      have : Pk (fun i => f (u + i)) l = TW x := by unfold TW; rw [hsx.1]; exact (Pk_cg l fun i hi => hsx.2 i hi).symm
      exact hun x (by omega) (by omega) this
    · rw [show b_X12_meaning_45 FU 0 0 (A, B, nI u, nI l, f) D = mEnd (Pk (fun i => f (u + i)) l) (A, B, nI u, nI l, f) D from (mp_loop hl9 hu hc FU 0 (by omega) (by rw [FU_s]; omega) (fun i hi => by omega)).1 hgd]
      unfold mEnd
      have c80 : lg_cmp (lN (Pk (fun i => f (u + i)) l)) 26780447208 = 0 ↔ Pk (fun i => f (u + i)) l = TW 80 := by
        rw [TW_80.1, lg_cmp_eq]; exact pk_lEQ hlt (by decide)
      have c81 : lg_cmp (lN (Pk (fun i => f (u + i)) l)) 40 = 0 ↔ Pk (fun i => f (u + i)) l = TW 81 := by
        rw [TW_80.2, lg_cmp_eq]; exact pk_lEQ hlt (by decide)
      by_cases x0 : v = 80
      · subst x0; rw [if_pos (c80.mpr hPk)]; rfl
      · rw [if_neg fun z => hun 80 (by omega) (by omega) (c80.mp z)]
        by_cases x1 : v = 81
        · subst x1; rw [if_pos (c81.mpr hPk)]; rfl
        · rw [if_neg fun z => hun 81 (by omega) (by omega) (c81.mp z)]
          exact me_some hlt hpos (by omega) hPk (fun w hw => hun w (by omega)) (v % 40) 0 FU (by omega) (by rw [FU_s]; omega)
  · refine ⟨-1, fs_none hu hc 82 0 FU (by omega) (by rw [FU_s]; omega) (fun v _ hv hs => q ⟨v, hv, hs⟩), fun hl9 => ?_, .inl rfl, fun _ => rfl⟩
    by_cases hgd : ∀ i, i < l → gd (f (u + i))
    · have hlt : Pk (fun i => f (u + i)) l < 2 ^ 63 := Nat.lt_of_lt_of_le (Pk_lt l hgd) (Nat.le_trans (Nat.pow_le_pow_right (by omega) hl9) (by decide))
      have hun : ∀ w, w < 82 → Pk (fun i => f (u + i)) l ≠ TW w := fun w hw z => by
        obtain ⟨r1, r2⟩ := Pk_inj (g := fun i => f (u + i)) (g' := sChr w) l (sLen w) hgd (fun i hi => (sp_gd w hw i hi).1) z
        refine q ⟨w, hw, r1.symm, fun j hj => ?_⟩
        obtain ⟨m, hm, hfm⟩ := okc_n (hc (u + j))
        have h3 := r2 j hj
        rw [(sp_gd w hw j (by omega)).2, ← h3]
        show nI (f (u + j)).toNatClampNeg = _
        rw [hfm, nI_clamp (by omega)]
      rw [show b_X12_meaning_45 FU 0 0 (A, B, nI u, nI l, f) D = mEnd (Pk (fun i => f (u + i)) l) (A, B, nI u, nI l, f) D from (mp_loop hl9 hu hc FU 0 (by omega) (by rw [FU_s]; omega) (fun i hi => by omega)).1 hgd]
      unfold mEnd
      have c80 : lg_cmp (lN (Pk (fun i => f (u + i)) l)) 26780447208 = 0 ↔ Pk (fun i => f (u + i)) l = TW 80 := by
        rw [TW_80.1, lg_cmp_eq]; exact pk_lEQ hlt (by decide)
      have c81 : lg_cmp (lN (Pk (fun i => f (u + i)) l)) 40 = 0 ↔ Pk (fun i => f (u + i)) l = TW 81 := by
        rw [TW_80.2, lg_cmp_eq]; exact pk_lEQ hlt (by decide)
      rw [if_neg fun z => hun 80 (by omega) (c80.mp z), if_neg fun z => hun 81 (by omega) (c81.mp z)]
      exact me_none hlt (fun v hv => hun v (by omega)) 40 0 FU (by omega) (by rw [FU_s]; omega)
    · exact (mp_loop hl9 hu hc FU 0 (by omega) (by rw [FU_s]; omega) (fun i hi => by omega)).2 hgd
end PACK
/-- a name is looked up: the same answer on both sides -/
theorem find_eq {e l u : Nat} {A B mk bg : Int32} {le ln pl so be im fi f : Nat → Int32} (he : e ≤ 40) (hl1 : 1 ≤ l) (hu : u + l ≤ 200) (hc : ∀ i, okc (f i)) (hn : ∀ i, i < e → ∃ a : Nat, a ≤ 9 ∧ ln i = nI a) : ∃ w : Int32, f_X2_find (nI e, le, ln, pl, so, be, im, fi) (A, B, nI u, nI l, f) = some w ∧ f_X12_meaning (A, B, nI u, nI l, f) (nI e, mk, bg, pl, so, be, im, fi, le, ln) = some w ∧ (w = -1 ∨ ∃ j : Nat, j < 82 + e ∧ w = nI j) := by
  obtain ⟨w, b1, b2, b3, b4⟩ := base_eq (A := A) (B := B) (D := (nI e, mk, bg, pl, so, be, im, fi, le, ln)) (d := (nI e, le, ln, pl, so, be, im, fi)) hl1 hu hc
  have b3' : w = -1 ∨ ∃ j : Nat, j < 82 + e ∧ w = nI j := b3.elim .inl fun ⟨j, hj, hw⟩ => .inr ⟨j, by omega, hw⟩
  unfold f_X2_find f_X12_meaning
  show ∃ w : Int32, b_X2_find_7 FU (nI e - 1) _ _ = some w ∧ (if nI l ≤ 9 then b_X12_meaning_18 FU (nI e - 1) _ _ else some (-1)) = some w ∧ _
  by_cases q : l ≤ 9
  · rw [if_pos (show nI l ≤ (9 : Int32) from nI_le (b := 9) q (by omega))]
    rcases fm_loop (A := A) (B := B) (mk := mk) (bg := bg) (le := le) (ln := ln) (pl := pl) (so := so) (be := be) (im := im) (fi := fi) he q hu hc e FU FU (by omega) (by rw [FU_s]; omega) (by rw [FU_s]; omega) with ⟨i, hi, g1, g2⟩ | ⟨g1, g2⟩
    · exact ⟨nI (82 + i), g1, g2, .inr ⟨82 + i, by omega, rfl⟩⟩
    · exact ⟨w, g1.trans b1, g2.trans (b2 q), b3'⟩
  · rw [if_neg (show ¬ nI l ≤ (9 : Int32) from nI_ge (a := 9) (by omega) (by omega))]
    have hw := b4 (by omega)
    subst hw
    exact ⟨-1, (fm_long he (by omega) (by omega) hn e FU (by omega) (by rw [FU_s]; omega)).trans b1, rfl, .inl rfl⟩
