/-! names of the text: the class's takeName and the model's takes give the same -/
theorem in_ok2 {n N : Nat} (h : n < N) (hn : n < 2 ^ 31) : ¬ (nI n < 0 ∨ N ≤ n) := fun q => q.elim (fun a => nI_pos hn a) (fun b => by omega)
def isB (f : Nat → Int32) (i : Nat) : Prop := f i = 32 ∨ f i = 10
theorem v_blank {a : Nat} (ha : a < 200) (t : tT) (h : isB t.2.2.2.2 a) : f_X9_isBlankAt (nI a) t = some 1 := by
  unfold f_X9_isBlankAt b_X9_isBlankAt_22
  rw [ck_t (in_ok ha (by omega)), nI_clamp (by omega)]
  rcases h with h | h
  · rw [if_pos h]
  · by_cases q : t.2.2.2.2 a = 32
    · rw [if_pos q]
    · rw [if_neg q, ck_t (in_ok2 ha (by omega)), if_pos h]
theorem v_nblank {a : Nat} (ha : a < 200) (t : tT) (h : ¬ isB t.2.2.2.2 a) : f_X9_isBlankAt (nI a) t = some 0 := by
  unfold f_X9_isBlankAt
  rw [ck_t (in_ok ha (by omega)), nI_clamp (by omega), if_neg (fun e => h (Or.inl e)), ck_t (in_ok2 ha (by omega)), if_neg (fun e => h (Or.inr e))]
theorem blank_eq (x : Int32) (t : tT) : f_X12_isBlank x t = f_X9_isBlankAt x t := rfl
theorem lpb2 (f : Nat → Int32) (ts : Nat) (hts : ts ≤ 200) (ns nl : Int32) : ∀ (n b : Nat), b ≤ ts → ts - b < n → ∃ e, b ≤ e ∧ e ≤ ts ∧ (e < ts → isB f e) ∧ (∀ i, b ≤ i → i < e → ¬ isB f i) ∧ b_X9_takeName_43 n (nI ts, nI b, ns, nl, f) = b_X9_takeName_78 (nI ts, nI e, ns, nl, f) ∧ b_X12_takes_43 n (nI ts, nI b, ns, nl, f) = b_X12_takes_78 (nI ts, nI e, ns, nl, f) := by
  intro n
  induction n with
  | zero => intro b _ h; exact absurd h (by omega)
  | succ n ih =>
    intro b hb hn
    unfold b_X9_takeName_43 b_X12_takes_43
    rcases Nat.lt_or_ge b ts with q | q
    · by_cases hB : isB f b
      · refine ⟨b, Nat.le_refl _, hb, fun _ => hB, fun i h1 h2 => absurd h2 (by omega), ?_, ?_⟩
        · rw [if_neg (nI_ge q (by omega))]
          show (f_X9_isBlankAt (nI b) _).bind _ = _
          rw [v_blank (by omega) _ hB]; rfl
        · rw [if_neg (nI_ge q (by omega))]
          show (f_X12_isBlank (nI b) _).bind _ = _
          rw [blank_eq, v_blank (by omega) _ hB]; rfl
      · obtain ⟨e, h1, h2, h3, h4, h5, h6⟩ := ih (b + 1) (by omega) (by omega)
        refine ⟨e, by omega, h2, h3, fun i a1 a2 => ?_, ?_, ?_⟩
        · by_cases ei : i = b
          · rw [ei]; exact hB
          · exact h4 i (by omega) a2
        · rw [if_neg (nI_ge q (by omega))]
          show (f_X9_isBlankAt (nI b) _).bind _ = _
          rw [v_nblank (by omega) _ hB]
          show b_X9_takeName_43 n (nI ts, nI b + 1, ns, nl, f) = _
          rw [nI_1]; exact h5
        · rw [if_neg (nI_ge q (by omega))]
          show (f_X12_isBlank (nI b) _).bind _ = _
          rw [blank_eq, v_nblank (by omega) _ hB]
          show b_X12_takes_43 n (nI ts, nI b + 1, ns, nl, f) = _
          rw [nI_1]; exact h6
    · refine ⟨b, Nat.le_refl _, hb, fun h => absurd h (by omega), fun i h1 h2 => absurd h2 (by omega), ?_, ?_⟩
      · rw [if_pos (nI_le q (by omega))]
      · rw [if_pos (nI_le q (by omega))]
theorem lp1b (f : Nat → Int32) (ts : Nat) (hts : ts ≤ 200) (ns nl : Int32) : ∀ (n b : Nat), b ≤ ts → ts - b < n → ∃ e, b ≤ e ∧ e ≤ ts ∧ (e < ts → ¬ isB f e) ∧ b_X9_takeName_0 n (nI ts, nI b, ns, nl, f) = b_X9_takeName_35 (nI ts, nI e, ns, nl, f) ∧ b_X12_takes_0 n (nI ts, nI b, ns, nl, f) = b_X12_takes_35 (nI ts, nI e, ns, nl, f) := by
  intro n
  induction n with
  | zero => intro b _ h; exact absurd h (by omega)
  | succ n ih =>
    intro b hb hn
    unfold b_X9_takeName_0 b_X12_takes_0
    rcases Nat.lt_or_ge b ts with q | q
    · by_cases hB : isB f b
      · obtain ⟨e, h1, h2, h3, h5, h6⟩ := ih (b + 1) (by omega) (by omega)
        refine ⟨e, by omega, h2, h3, ?_, ?_⟩
        · rw [if_neg (nI_ge q (by omega))]
          show (f_X9_isBlankAt (nI b) _).bind _ = _
          rw [v_blank (by omega) _ hB]
          rw [sb, if_neg (show ¬ (1 : Int32) = 0 by decide), nI_1]; exact h5
        · rw [if_neg (nI_ge q (by omega))]
          show (f_X12_isBlank (nI b) _).bind _ = _
          rw [blank_eq, v_blank (by omega) _ hB]
          rw [sb, if_neg (show ¬ (1 : Int32) = 0 by decide), nI_1]; exact h6
      · refine ⟨b, Nat.le_refl _, hb, fun _ => hB, ?_, ?_⟩
        · rw [if_neg (nI_ge q (by omega))]
          show (f_X9_isBlankAt (nI b) _).bind _ = _
          rw [v_nblank (by omega) _ hB]; rfl
        · rw [if_neg (nI_ge q (by omega))]
          show (f_X12_isBlank (nI b) _).bind _ = _
          rw [blank_eq, v_nblank (by omega) _ hB]; rfl
    · refine ⟨b, Nat.le_refl _, hb, fun h => absurd h (by omega), ?_, ?_⟩
      · rw [if_pos (nI_le q (by omega))]
      · rw [if_pos (nI_le q (by omega))]
/-- a name is taken: from a up to b, the place behind it -/
theorem take_name (f : Nat → Int32) (ts ta : Nat) (hts : ts ≤ 200) (hta : ta ≤ ts) (ns nl : Int32) : ∃ a b c, ta ≤ a ∧ a ≤ b ∧ b ≤ c ∧ c ≤ ts ∧ (a = b → b = ts) ∧ (a < b → ta < c) ∧ f_X9_takeName (nI ts, nI ta, ns, nl, f) = some (if a < b then 1 else 0, (nI ts, nI c, nI a, nI (b - a), f)) ∧ f_X12_takes (nI ts, nI ta, ns, nl, f) = some (if a < b then 1 else 0, (nI ts, nI c, nI a, nI (b - a), f)) := by
  obtain ⟨a, a1, a2, a3, a4, a5⟩ := lp1b f ts hts ns nl FU ta hta (by rw [FU_s]; omega)
  obtain ⟨b, b1, b2, b3, b4, b5, b6⟩ := lpb2 f ts hts (nI a) nl FU a a2 (by rw [FU_s]; omega)
  have hab : a = b → b = ts := fun e => by
    rcases Nat.lt_or_ge b ts with q | q
    · exact absurd (b3 q) (by rw [← e]; exact a3 (by omega))
    · omega
  have hX : f_X9_takeName (nI ts, nI ta, ns, nl, f) = b_X9_takeName_78 (nI ts, nI b, nI a, nl, f) := by
    unfold f_X9_takeName; rw [a4]; unfold b_X9_takeName_35; exact b5
  have hY : f_X12_takes (nI ts, nI ta, ns, nl, f) = b_X12_takes_78 (nI ts, nI b, nI a, nl, f) := by
    unfold f_X12_takes; rw [a5]; unfold b_X12_takes_35; exact b6
  have e1 : ∀ x : Int32, b_X9_takeName_112 (nI ts, x, nI a, nI b - nI a, f) = some (if a < b then 1 else 0, (nI ts, x, nI a, nI (b - a), f)) := fun x => by
    unfold b_X9_takeName_112
    show (if nI b - nI a ≤ 0 then some (0, _) else some (1, (nI ts, x, nI a, nI b - nI a, f))) = _
    rw [nI_subN b1]
    by_cases q : a < b
    · rw [if_neg (nI_nle (by omega) (by omega)), if_pos q]
    · rw [if_pos (show nI (b - a) ≤ 0 by rw [show b - a = 0 by omega]; decide), if_neg q]
  have e2 : ∀ x : Int32, b_X12_takes_119 (nI ts, x, nI a, nI b - nI a, f) = some (if a < b then 1 else 0, (nI ts, x, nI a, nI (b - a), f)) := e1
  rcases Nat.lt_or_ge b ts with q | q
  · have hlt : a < b := by
      rcases Nat.lt_or_ge a b with z | z
      · exact z
      · exact absurd (hab (by omega)) (by omega)
    refine ⟨a, b, b + 1, a1, b1, by omega, by omega, hab, fun _ => by omega, ?_, ?_⟩
    · rw [hX]; unfold b_X9_takeName_78
      rw [if_neg (nI_ge q (by omega))]
      show b_X9_takeName_112 (nI ts, nI b + 1, nI a, nI b - nI a, f) = _
      rw [nI_1]; exact e1 _
    · rw [hY]; unfold b_X12_takes_78
      rw [if_neg (nI_ge q (by omega))]
      show (if nI b - nI a ≤ 0 then _ else b_X12_takes_119 (nI ts, nI b + 1, nI a, nI b - nI a, f)) = _
      rw [if_neg (by rw [nI_subN b1]; exact nI_nle (by omega) (by omega)), nI_1]; exact e2 _
  · refine ⟨a, b, b, a1, b1, Nat.le_refl _, b2, hab, fun h => by omega, ?_, ?_⟩
    · rw [hX]; unfold b_X9_takeName_78
      rw [if_pos (nI_le q (by omega))]; exact e1 _
    · rw [hY]; unfold b_X12_takes_78
      rw [if_pos (nI_le q (by omega))]; exact e2 _
theorem parse_name (f : Nat → Int32) (ts ta : Nat) (hts : ts ≤ 200) (hta : ta ≤ ts) (ns nl : Int32) : ∃ (a b c : Nat) (e : Int32), ta ≤ a ∧ a ≤ b ∧ b ≤ c ∧ c ≤ ts ∧ (e = 0 → a < b ∧ b - a ≤ 9) ∧ f_X9_parseName (nI ts, nI ta, ns, nl, f) = some (e, (nI ts, nI c, nI a, nI (b - a), f)) ∧ f_X12_parse (nI ts, nI ta, ns, nl, f) = some (e, (nI ts, nI c, nI a, nI (b - a), f)) := by
  obtain ⟨a, b, c, h1, h2, h3, h4, h5, h6, h7, h8⟩ := take_name f ts ta hts hta ns nl
  unfold f_X9_parseName f_X12_parse
  rw [h7, h8]
  by_cases q : a < b
  · rw [if_pos q]
    by_cases z : b - a ≤ 9
    · refine ⟨a, b, c, 0, h1, h2, h3, h4, fun _ => ⟨q, z⟩, ?_, ?_⟩
      · rw [sb, if_neg (show ¬ (1 : Int32) = 0 by decide)]; unfold f_X9_nameIsTooLong
        rw [if_pos (le'_9 z)]; rfl
      · rw [sb, if_neg (show ¬ (1 : Int32) = 0 by decide), if_pos (le'_9 z)]
    · refine ⟨a, b, c, -19, h1, h2, h3, h4, fun h => absurd h (by decide), ?_, ?_⟩
      · rw [sb, if_neg (show ¬ (1 : Int32) = 0 by decide)]; unfold f_X9_nameIsTooLong
        rw [if_neg (nle'_9 (by omega) (by omega))]; rfl
      · rw [sb, if_neg (show ¬ (1 : Int32) = 0 by decide), if_neg (nle'_9 (by omega) (by omega))]
  · rw [if_neg q]
    exact ⟨a, b, c, -16, h1, h2, h3, h4, fun h => absurd h (by decide), rfl, rfl⟩
theorem lp_com (f : Nat → Int32) (ts : Nat) (hts : ts ≤ 200) (ns nl : Int32) (s : mS) (r : mR) (c : mC) (d : mD) (m : mM) : ∀ (n b : Nat), b ≤ ts → ts - b < n → ∃ e, b ≤ e ∧ e ≤ ts ∧ b_X9_passComment_0 n (nI ts, nI b, ns, nl, f) = some (nI ts, nI e, ns, nl, f) ∧ b_X12_rest_6 n (nI ts, nI b, ns, nl, f) s r c d m = some (0, (nI ts, nI e, ns, nl, f), s, c, m) := by
  intro n
  induction n with
  | zero => intro b _ h; exact absurd h (by omega)
  | succ n ih =>
    intro b hb hn
    unfold b_X9_passComment_0 b_X12_rest_6
    rcases Nat.lt_or_ge b ts with q | q
    · have g1 : ¬ (nI ts ≤ nI b) := nI_ge q (by omega)
      by_cases hB : f b = 41
      · refine ⟨b + 1, by omega, by omega, ?_, ?_⟩
        · rw [if_neg g1]
          show ck (¬ (nI b < 0 ∨ 200 ≤ (nI b).toNatClampNeg)) (if f (nI b).toNatClampNeg = 41 then b_X9_passComment_38 (nI ts, nI b, ns, nl, f) else _) = _
          rw [ck_t (in_ok (by omega) (by omega)), nI_clamp (by omega), if_pos hB]
          unfold b_X9_passComment_38
          rw [if_neg g1]
          show some (nI ts, nI b + 1, ns, nl, f) = _
          rw [nI_1]
        · rw [if_neg g1]
          show ck (¬ (nI b < 0 ∨ 200 ≤ (nI b).toNatClampNeg)) (if f (nI b).toNatClampNeg = 41 then b_X12_rest_44 (nI ts, nI b, ns, nl, f) s r c d m else _) = _
          rw [ck_t (in_ok (by omega) (by omega)), nI_clamp (by omega), if_pos hB]
          unfold b_X12_rest_44
          rw [if_neg g1]
          show some ((0 : Int32), (nI ts, nI b + 1, ns, nl, f), s, c, m) = _
          rw [nI_1]
      · obtain ⟨e, h1, h2, h3, h4⟩ := ih (b + 1) (by omega) (by omega)
        refine ⟨e, by omega, h2, ?_, ?_⟩
        · rw [if_neg g1]
          show ck (¬ (nI b < 0 ∨ 200 ≤ (nI b).toNatClampNeg)) (if f (nI b).toNatClampNeg = 41 then _ else b_X9_passComment_0 n (nI ts, nI b + 1, ns, nl, f)) = _
          rw [ck_t (in_ok (by omega) (by omega)), nI_clamp (by omega), if_neg hB, nI_1]; exact h3
        · rw [if_neg g1]
          show ck (¬ (nI b < 0 ∨ 200 ≤ (nI b).toNatClampNeg)) (if f (nI b).toNatClampNeg = 41 then _ else b_X12_rest_6 n (nI ts, nI b + 1, ns, nl, f) s r c d m) = _
          rw [ck_t (in_ok (by omega) (by omega)), nI_clamp (by omega), if_neg hB, nI_1]; exact h4
    · have g1 : nI ts ≤ nI b := nI_le q (by omega)
      refine ⟨b, Nat.le_refl _, hb, ?_, ?_⟩
      · rw [if_pos g1]; unfold b_X9_passComment_38; rw [if_pos g1]
      · rw [if_pos g1]; unfold b_X12_rest_44; rw [if_pos g1]
