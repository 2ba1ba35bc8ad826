/-! what a word does to the calls' number and to the place in the text -/
def PO {α : Type} (p : α → Prop) (x : Option α) : Prop := ∀ a, x = some a → p a
theorem PO.some {α : Type} {p : α → Prop} {a : α} (h : p a) : PO p (some a) := fun b e => by
  obtain rfl : a = b := Option.some.inj e
  exact h
theorem PO.ck {α : Type} {p : α → Prop} {c : Prop} [Decidable c] {x : Option α} (h : PO p x) : PO p (ck c x) := fun b e => by
  unfold Jvm.Pilot.CWordForgeLaw_law_r6183_2f6f4f.ck at e
  split at e
  · exact h b e
  · exact absurd e (by intro z; cases z)
theorem PO.ite {α : Type} {p : α → Prop} {c : Prop} [Decidable c] {x z : Option α} (h : PO p x) (h2 : PO p z) : PO p (if c then x else z) := by
  split
  · exact h
  · exact h2
theorem PO.bind {α β : Type} {p : β → Prop} {p1 : α → Prop} {x : Option α} {k : α → Option β} (h : PO p1 x) (h2 : ∀ a, p1 a → PO p (k a)) : PO p (x.bind k) := fun b e => by
  cases x with
  | none => exact absurd e (by intro z; cases z)
  | some a => exact h2 a (h a rfl) b e
theorem PO.any {α β : Type} {p : β → Prop} {x : Option α} {k : α → Option β} (h2 : ∀ a, PO p (k a)) : PO p (x.bind k) := PO.bind (p1 := fun _ => True) (fun _ _ => trivial) fun a _ => h2 a
def CX (c c' : tC) : Prop := c'.1 = c.1 ∨ c'.1 = c.1 + 1 ∨ c'.1 = c.1 - 1
theorem cx_back (c : tC) : PO (CX c) (f_X1_comeBack c) := by
  unfold f_X1_comeBack
  exact PO.ite (PO.some (.inl rfl)) (PO.some (.inr (.inr rfl)))
theorem cx_go (x : Int32) (c : tC) : PO (CX c) (f_X1_goOnAt x c) := by
  unfold f_X1_goOnAt
  exact PO.ite (PO.some (.inl rfl)) (PO.ck (PO.some (.inl rfl)))
theorem cx_add (x : Int32) (c : tC) : PO (fun u => CX c u.2) (f_X1_add x c) := by
  unfold f_X1_add
  exact PO.any fun u => PO.ite (PO.ck (PO.ck (PO.some (.inr (.inl rfl))))) (PO.some (.inl rfl))
theorem cx_catch (x z : Int32) (c : tC) : PO (CX c) (f_X1_addCatch x z c) := by
  unfold f_X1_addCatch
  exact PO.any fun u => PO.ite (PO.ck (PO.ck (PO.ck (PO.some (.inr (.inl rfl)))))) (PO.some (.inl rfl))
theorem cx_beh (d : tD) (c : tC) : PO (fun u => CX c u.2.2) (f_X3_giveBehaviour d c) := by
  unfold f_X3_giveBehaviour
  exact PO.any fun u => PO.any fun v => PO.ite (PO.bind (cx_back c) fun w hw => PO.some hw) (PO.some (.inl rfl))
theorem cx_pass (x z : Int32) (s : tR) (c : tC) : PO (fun u => CX c u.2.2) (f_X3_putAndPass x z s c) := by
  unfold f_X3_putAndPass
  exact PO.any fun u => PO.ite (PO.bind (cx_go _ c) fun w hw => PO.some hw) (PO.some (.inl rfl))
theorem cx_behind (w1 : Nat) (x : Int32) (s : tR) (y : tY) (r : tR) (c : tC) : PO (fun u => CX c u.2.2.2) (f_X3_useNumberBehind w1 x s y r c) := by
  have g98 : ∀ (w : Nat) (z : Int32) (s : tR) (r : tR), PO (fun u => CX c u.2.2.2) (b_X3_useNumberBehind_98 w z s y r c) := fun w z s r => by
    unfold b_X3_useNumberBehind_98; exact PO.bind (cx_go _ c) fun w hw => PO.some hw
  have g122 : ∀ (w : Nat) (z : Int32) (s : tR) (r : tR), PO (fun u => CX c u.2.2.2) (b_X3_useNumberBehind_122 w z s y r c) := fun w z s r => by
    unfold b_X3_useNumberBehind_122; exact PO.bind (cx_go _ c) fun w hw => PO.some hw
  have g152 : ∀ (w : Nat) (z : Int32) (s : tR) (r : tR), PO (fun u => CX c u.2.2.2) (b_X3_useNumberBehind_152 w z s y r c) := fun w z s r => by
    unfold b_X3_useNumberBehind_152; exact PO.bind (cx_go _ c) fun w hw => PO.some hw
  unfold f_X3_useNumberBehind
  exact PO.ck (PO.any fun u1 => PO.ite (PO.some (.inl rfl)) (PO.any fun u4 => PO.ck (PO.ite (PO.bind (cx_pass _ _ _ c) fun w hw => PO.some hw) (PO.ite (PO.bind (cx_go _ c) fun w hw => PO.some hw) (PO.ite (PO.any fun u14 => PO.ite (g98 _ _ _ _) (g98 _ _ _ _)) (PO.ite (PO.any fun u18 => PO.ite (g122 _ _ _ _) (g122 _ _ _ _)) (PO.any fun u21 => PO.any fun u23 => PO.ite (g152 _ _ _ _) (g152 _ _ _ _))))))))
theorem cx_inner (w1 : Nat) (s : tR) (y : tY) (d : tD) (r : tR) (c : tC) : PO (fun u => CX c u.2.2.2.2) (f_X3_carryOutInner w1 s y d r c) := by
  unfold f_X3_carryOutInner
  exact PO.ck (PO.ck (PO.ite (PO.bind (cx_back c) fun w hw => PO.some hw) (PO.ite (PO.any fun u => PO.some (.inl rfl)) (PO.ite (PO.bind (cx_beh d c) fun w hw => PO.some hw) (PO.any fun u => PO.bind (cx_behind _ _ _ _ _ c) fun w hw => PO.some hw)))))
theorem cx_control (w1 : Nat) (s : tR) (d : tD) (r : tR) (c : tC) (m : tM) : PO (fun u => CX c u.2.2.1) (f_X3_control w1 s d r c m) := by
  have g79 : ∀ c', CX c c' → PO (fun u => CX c u.2.2.1) (b_X3_control_79 w1 s d r c' m) := fun c' h => by
    unfold b_X3_control_79; exact PO.any fun u => PO.some h
  unfold f_X3_control
  exact PO.ck (PO.ite (PO.any fun u => PO.some (.inl rfl)) (PO.any fun u => PO.any fun v => PO.ite (PO.some (.inl rfl)) (PO.ite (PO.any fun w => PO.ite (PO.bind (cx_catch _ _ c) fun w hw => g79 w hw) (PO.some (.inl rfl))) (g79 c (.inl rfl)))))
theorem cx_made (x : Int32) (s : tR) (y : tY) (d : tD) (c : tC) : PO (fun u => CX c u.2.2) (f_X3_carryOutMade x s y d c) := by
  have g : ∀ (x : Int32) (s : tR), PO (fun u => CX c u.2.2) (b_X3_carryOutMade_107 x s y d c) := fun x s => by
    unfold b_X3_carryOutMade_107
    exact PO.ck (PO.any fun u => PO.ck (PO.ite (PO.some (.inl rfl)) (PO.ck (PO.bind (cx_add _ c) fun w hw => PO.some hw))))
  unfold f_X3_carryOutMade
  exact PO.ck (PO.ite (PO.ck (PO.bind (cx_add _ c) fun w hw => PO.some hw)) (PO.ck (PO.ite (PO.ck (PO.any fun u => PO.any fun v => PO.some (.inl rfl))) (PO.any fun u => PO.ite (PO.some (.inl rfl)) (PO.ck (PO.ite (g _ _) (PO.any fun v => PO.ite (g _ _) (PO.some (.inl rfl)))))))))
/-- the text is the same, its place no less -/
def TX (ts ta : Nat) (t' : tT) : Prop := t'.1 = nI ts ∧ ∃ b : Nat, t'.2.1 = nI b ∧ ta ≤ b ∧ b ≤ ts
section TXT
variable {ts ta u l : Nat} {f : Nat → Int32}
theorem tx_parse (hts : ts ≤ 200) (hta : ta ≤ ts) : PO (fun z => TX ts ta z.2) (f_X9_parseName (nI ts, nI ta, nI u, nI l, f)) := by
  obtain ⟨a, b, c, e, h1, h2, h3, h4, h5, g1, g2⟩ := parse_name f ts ta hts hta (nI u) (nI l)
  rw [g1]
  exact PO.some ⟨rfl, c, rfl, by omega, h4⟩
theorem tx_com (hts : ts ≤ 200) (hta : ta ≤ ts) : PO (TX ts ta) (f_X9_passComment (nI ts, nI ta, nI u, nI l, f)) := by
  obtain ⟨b, p1, p2, g1, g2⟩ := lp_com f ts hts (nI u) (nI l) (0, f) (0, f) (0, f, f, f) (0, 0, 0, f, f, f, f, f, f, f) (0, 0, 0, 0, 0, 0, 0) FU ta hta (by rw [FU_s]; omega)
  unfold f_X9_passComment
  rw [g1]
  exact PO.some ⟨rfl, b, rfl, p1, p2⟩
theorem tx_define (hts : ts ≤ 200) (hta : ta ≤ ts) (w1 : Nat) (s : tR) (y : tY) (d : tD) (k : tK) : PO (fun z => TX ts ta z.2.1) (f_X4_define w1 (nI ts, nI ta, nI u, nI l, f) s y d k) := by
  unfold f_X4_define
  exact PO.ck (PO.any fun u1 => PO.ite (PO.bind (tx_parse hts hta) fun u4 h => PO.ite (PO.any fun u7 => PO.ite (PO.any fun u10 => PO.ite (PO.some h) (PO.any fun u13 => PO.some h)) (PO.some h)) (PO.some h)) (PO.some ⟨rfl, ta, rfl, by omega, hta⟩))
theorem tx_named (hts : ts ≤ 200) (hta : ta ≤ ts) (w1 : Nat) (s : tR) (y : tY) (d : tD) : PO (fun z => TX ts ta z.2.1) (f_X4_useNamed w1 (nI ts, nI ta, nI u, nI l, f) s y d) := by
  unfold f_X4_useNamed
  exact PO.ck (PO.bind (tx_parse hts hta) fun u1 h => PO.ite (PO.any fun u4 => PO.ite (PO.some h) (PO.ck (PO.ite (PO.any fun u9 => PO.some h) (PO.ite (PO.any fun u9 => PO.some h) (PO.any fun u9 => PO.some h))))) (PO.some h))
theorem tx_once (hts : ts ≤ 200) (hta : ta ≤ ts) (w1 : Nat) (k : tK) : PO (fun z => TX ts ta z.2.1) (f_X4_doAtOnce w1 (nI ts, nI ta, nI u, nI l, f) k) := by
  unfold f_X4_doAtOnce
  exact PO.ck (PO.ite (PO.some ⟨rfl, ta, rfl, by omega, hta⟩) (PO.bind (tx_com hts hta) fun u h => PO.some h))
theorem mono (hts : ts ≤ 200) (hta : ta ≤ ts) (s : tR) (y : tY) (d : tD) (q : tP) (k : tK) (r : tR) (c : tC) (o : tO) (m : tM) : PO (fun z => TX ts ta z.2.1 ∧ CX c z.2.2.2.2.2.2.2.2.1) (f_X3_carryOutNext (nI ts, nI ta, nI u, nI l, f) s y d q k r c o m) := by
  have h0 : TX ts ta (nI ts, nI ta, nI u, nI l, f) := ⟨rfl, ta, rfl, by omega, hta⟩
  have c0 : CX c c := .inl rfl
  unfold f_X3_carryOutNext
  refine PO.ite (PO.ck (PO.any fun u3 => PO.ite ?_ (PO.some ⟨h0, c0⟩))) (PO.bind (cx_made _ _ _ _ c) fun u hu => PO.some ⟨h0, hu⟩)
  refine PO.ite (PO.bind (cx_inner _ _ _ _ _ c) fun u hu => PO.some ⟨h0, hu⟩) ?_
  refine PO.ite (PO.any fun u => PO.some ⟨h0, c0⟩) ?_
  refine PO.ite (PO.any fun u => PO.any fun v => PO.any fun w => PO.some ⟨h0, c0⟩) ?_
  refine PO.ite (PO.any fun u => PO.some ⟨h0, c0⟩) ?_
  refine PO.ite (PO.any fun u => PO.some ⟨h0, c0⟩) ?_
  refine PO.ite (PO.any fun u => PO.some ⟨h0, c0⟩) ?_
  refine PO.ite (PO.bind (cx_control _ _ _ _ c _) fun u hu => PO.some ⟨h0, hu⟩) ?_
  refine PO.ite (PO.bind (tx_define hts hta _ _ _ _ _) fun u hu => PO.some ⟨hu, c0⟩) ?_
  refine PO.ite (PO.any fun u => PO.some ⟨h0, c0⟩) ?_
  refine PO.ite (PO.bind (tx_named hts hta _ _ _ _) fun u hu => PO.some ⟨hu, c0⟩) ?_
  refine PO.ite (PO.bind (tx_once hts hta _ _) fun u hu => PO.some ⟨hu, c0⟩) ?_
  refine PO.ite (PO.any fun u => PO.some ⟨h0, c0⟩) ?_
  refine PO.ite (PO.bind (tx_named hts hta _ _ _ _) fun u hu => PO.some ⟨hu, c0⟩) ?_
  exact PO.any fun u => PO.some ⟨h0, c0⟩
end TXT
