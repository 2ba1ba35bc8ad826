/-! base rows: guards, worlds whose addresses stay, a call in one row, a return in one row -/
def ck (c : Prop) [Decidable c] {α : Type} (K : Option α) : Option α := if c then K else none
theorem ck_some {c : Prop} [Decidable c] {α : Type} {K : Option α} {r : α} (h : ck c K = some r) : c ∧ K = some r := by
  unfold ck at h
  by_cases hc : c
  · rw [if_pos hc] at h; exact ⟨hc, h⟩
  · rw [if_neg hc] at h; cases h
theorem ck_t {c : Prop} [Decidable c] {α : Type} {K : Option α} (hc : c) : ck c K = K := if_pos hc
theorem if_t {c : Prop} [Decidable c] {α : Type} {A B r : α} (hc : c) (h : (if c then A else B) = r) : A = r := (if_pos hc).symm.trans h
theorem if_f {c : Prop} [Decidable c] {α : Type} {A B r : α} (hc : ¬ c) (h : (if c then A else B) = r) : B = r := (if_neg hc).symm.trans h
theorem bd_some {α β : Type} {o : Option α} {k : α → Option β} {r : β} (h : o.bind k = some r) : ∃ u, o = some u ∧ k u = some r := Option.bind_eq_some_iff.mp h
abbrev bTY (cA : Nat → ClassId) : List (ClassId × FieldType) := [(cA 0, .int), (cA 1, .boolean), (cA 2, .char), (cA 3, .long)]
def setAll (ws : va_W) : List Nat → va_W → va_W
  | i :: is, c :: cs => setAll (ws.set i c) is cs
  | _, _ => ws
theorem setAll_get : ∀ (is : List Nat) (cs ws : va_W), is.length = cs.length → ∀ (k : Nat) (q : Nat × va_E), (setAll ws is cs)[k]? = some q → q ∈ cs ∨ (k ∉ is ∧ ws[k]? = some q)
  | [], [], ws, _, k, q, h => Or.inr ⟨List.not_mem_nil, h⟩
  | [], _ :: _, _, h, _, _, _ => by cases h
  | _ :: _, [], _, h, _, _, _ => by cases h
  | i :: is, c :: cs, ws, hl, k, q, h => by
    rcases setAll_get is cs (ws.set i c) (Nat.succ.inj hl) k q h with h1 | ⟨h1, h2⟩
    · exact Or.inl (List.mem_cons_of_mem _ h1)
    · by_cases hk : i = k
      · subst hk
        rw [List.getElem?_set_self'] at h2
        cases hw : ws[i]? with
        | none => rw [hw] at h2; cases h2
        | some z => rw [hw] at h2; cases h2; exact Or.inl List.mem_cons_self
      · rw [List.getElem?_set_ne hk] at h2
        exact Or.inr ⟨fun h => (List.mem_cons.mp h).elim (fun e => hk e.symm) h1, h2⟩
theorem at_map {is : List Nat} {ws w : va_W} (hs : is.map (fun i => ws[i]?) = w.map some) (k : Nat) (q : Nat × va_E) (hq : w[k]? = some q) : ∃ i, is[k]? = some i ∧ ws[i]? = some q := by
  have h1 : (is.map (fun i => ws[i]?))[k]? = some (some q) := by rw [hs, List.getElem?_map, hq]; rfl
  rw [List.getElem?_map] at h1
  cases hi : is[k]? with
  | none => rw [hi] at h1; cases h1
  | some i => rw [hi] at h1; exact ⟨i, rfl, Option.some.inj h1⟩
theorem P_map {D : va_G} {cl : List vw_C} {is : List Nat} {ws w : va_W} {H : Heap} (hs : is.map (fun i => ws[i]?) = w.map some) (hP : va_P D cl ws H) : va_P D cl w H := fun k q hq => by
  obtain ⟨i, -, h⟩ := at_map hs k q hq
  exact hP i q h
theorem D_fst {A : Nat → Prop} {ws ws' : va_W} (h : ws'.map (fun q => q.1) = ws.map (fun q => q.1)) (hD : va_D A ws) : va_D A ws' := by
  have key : ∀ (k : Nat) (q : Nat × va_E), ws'[k]? = some q → ∃ e, ws[k]? = some (q.1, e) := by
    intro k q hq
    have h1 : (ws.map (fun q => q.1))[k]? = some q.1 := by rw [← h, List.getElem?_map, hq]; rfl
    rw [List.getElem?_map] at h1
    cases hw : ws[k]? with
    | none => rw [hw] at h1; cases h1
    | some z =>
      rw [hw] at h1
      exact ⟨z.2, by rw [← Option.some.inj h1]⟩
  refine ⟨fun i j p q hi hj e => ?_, fun k q hk => ?_⟩
  · obtain ⟨e1, h1⟩ := key i p hi
    obtain ⟨e2, h2⟩ := key j q hj
    exact hD.1 i j _ _ h1 h2 e
  · obtain ⟨e1, h1⟩ := key k q hk
    exact hD.2 k (q.1, e1) h1
theorem j_P {D : va_G} {cl : List vw_C} {A0 : Nat → Prop} {w0 wc w1 : va_W} {H H1 : Heap} (hP : va_P D cl w0 H) (hD : va_D A0 w0) (isC : List Nat) (hC : isC.map (fun i => w0[i]?) = wc.map some) (hk : ∀ q : Nat, q < H.size → ¬ va_A wc H.size q → H1[q]? = H[q]?) (hP1 : va_P D cl w1 H1) (hlen : isC.length = w1.length) : va_P D cl (setAll w0 isC w1) H1 := by
  intro k q hq
  rcases setAll_get isC w1 w0 hlen k q hq with h | ⟨h1, h2⟩
  · obtain ⟨i, hi⟩ := List.getElem?_of_mem h
    exact hP1 i q hi
  · have hl := (hP k q h2).lt
    refine (hP k q h2).kept (hk q.1 hl (fun h => ?_))
    rcases h with ⟨k2, e, h⟩ | h
    · obtain ⟨j, h3, h4⟩ := at_map hC k2 (q.1, e) h
      have hij := hD.1 k j q (q.1, e) h2 h4 rfl
      subst hij
      exact h1 (List.mem_of_getElem? h3)
    · omega
/-- behind a call: the callee's cells at isC as they came back, the others as they were -/
theorem j_N {D : va_G} {cl : List vw_C} {A0 : Nat → Prop} {w0 wc w1 wn : va_W} {H H1 : Heap} (hP : va_P D cl w0 H) (hD : va_D A0 w0) (isC isR : List Nat) (hC : isC.map (fun i => w0[i]?) = wc.map some) (hk : ∀ q : Nat, q < H.size → ¬ va_A wc H.size q → H1[q]? = H[q]?) (hP1 : va_P D cl w1 H1) (hN : isC.map (fun i => wn[i]?) = w1.map some) {wr : va_W} (hR : isR.map (fun i => wn[i]?) = wr.map some) (hR0 : isR.map (fun i => w0[i]?) = wr.map some) (hdis : isR.all (fun k => !isC.contains k) = true) {N : Nat} (hl : wn.length = N) (hcov : (List.range N).all (fun k => isC.contains k || isR.contains k) = true) : va_P D cl wn H1 := by
  intro k q hq
  have hk1 : k < N := by rw [← hl]; exact (List.getElem?_eq_some_iff.mp hq).1
  have hc := List.all_eq_true.mp hcov k (List.mem_range.mpr hk1)
  rcases Bool.or_eq_true_iff.mp hc with h | h
  · obtain ⟨j, hj⟩ := List.getElem?_of_mem (List.contains_iff_mem.mp h)
    have h1 : (isC.map (fun i => wn[i]?))[j]? = some (some q) := by rw [List.getElem?_map, hj]; show some (wn[k]?) = _; rw [hq]
    rw [hN, List.getElem?_map] at h1
    cases hw : w1[j]? with
    | none => rw [hw] at h1; cases h1
    | some z => rw [hw] at h1; cases h1; exact hP1 j q hw
  · have hmem := List.contains_iff_mem.mp h
    obtain ⟨j, hj⟩ := List.getElem?_of_mem hmem
    have h1 : (isR.map (fun i => wn[i]?))[j]? = some (some q) := by rw [List.getElem?_map, hj]; show some (wn[k]?) = _; rw [hq]
    rw [hR, ← hR0, List.getElem?_map, hj] at h1
    have h2 : w0[k]? = some q := Option.some.inj h1
    have hlt := (hP k q h2).lt
    refine (hP k q h2).kept (hk q.1 hlt (fun hA => ?_))
    rcases hA with ⟨k2, e, hA⟩ | hA
    · obtain ⟨j2, h3, h4⟩ := at_map hC k2 (q.1, e) hA
      have hij := hD.1 k j2 q (q.1, e) h2 h4 rfl
      subst hij
      have hn := List.all_eq_true.mp hdis k hmem
      rw [List.contains_iff_mem.mpr (List.mem_of_getElem? h3)] at hn
      cases hn
    · omega
/-- a method's start: its cells, the tables, what else it needs (X) -/
def PRE (D : va_G) (cA : Nat → ClassId) (ws : va_W) (sz : Nat) (X : State → Prop) : State → Prop := fun U => U.heap.size = sz ∧ va_P D vwCl ws U.heap ∧ va_K D vwCl (bTY cA) U ∧ va_D (fun _ => True) ws ∧ X U
abbrev cQi (D : va_G) (w1 : va_W) (A : Nat → Prop) (r : Int32) : Array Value → State → Outcome → State → Prop := va_Qi (fun (r0 : Int32) (_ : Unit) => r0 = r) (fun _ (t : State) => va_P D vwCl w1 t.heap) A
abbrev cQl (D : va_G) (w1 : va_W) (A : Nat → Prop) (r : Int64) : Array Value → State → Outcome → State → Prop := va_Ql (fun (r0 : Int64) (_ : Unit) => r0 = r) (fun _ (t : State) => va_P D vwCl w1 t.heap) A
abbrev cQv (D : va_G) (w1 : va_W) (A : Nat → Prop) : Array Value → State → Outcome → State → Prop := va_Qv (fun (_ : Unit) => True) (fun _ (t : State) => va_P D vwCl w1 t.heap) A
section BASE
variable {p : Program} {l : Launch} {e : Env} {R : Room} {s : State} {m : MethodId} {args : Array Value} {below : List Frame} {meth : Method} {c : Code} {H : Heap} {locs : List Loc} {cells slots : Nat} {Q : State → Prop}
variable {pc nL n index maxL : Nat} {ls : Array Slot} {rest st0 As : List Value} {cc bytes : ByteArray} {Ts wy : List Cond} {own C : String} {y : MethodName} {ret : Option FieldType} {rm : Room} {A0 : Nat → Prop} {D : va_G} {cA : Nat → ClassId} {w0 wc w1 : va_W} {b : Nat} {X : State → Prop}
theorem pre_blind (av : List Value) (hXb : ∀ (a : Array Value) (U : State) (g : JFrame) (mk : MethodId), X U → X (U.calling g mk a)) {sz : Nat} : FrameBlind (va_Pc av (PRE D cA wc sz X)) := fun a U g mk q => by
  obtain ⟨q0, q1, qP, qK, qD, qX⟩ := q
  exact ⟨q0, q1, qP, va_K.moved (u := U) (U := U.calling g mk a) (Vm.Alike.refl U.vm) qK, qD, hXb a U g mk qX⟩
theorem pre_at (av : List Value) (hK : va_K D vwCl (bTY cA) s) (hP : va_P D vwCl w0 H) (hD : va_D A0 w0) (isC : List Nat) (hC : isC.map (fun i => w0[i]?) = wc.map some) (hnd : va_nd isC = true) (hX : ∀ U : State, U.heap = H → s.WarmedH U.vm → X U) (U : State) (hU : U.heap = H) (hW : s.WarmedH U.vm) : va_Pc av (PRE D cA wc H.size X) av.toArray U :=
  ⟨rfl, by rw [hU], by rw [hU]; exact P_map hC hP, va_K.moved hW.alike hK, (hD.sub isC hnd hC).weaken (fun _ _ _ _ => trivial), hX U hU hW⟩
theorem cv_i {r : Int32} (S : CallFix p m c cc nL s args Ts own) (hM : Met l y wy rm (va_Pc (.ref b :: As) (PRE D cA wc H.size X)) (cQi D w1 (va_A wc H.size) r) 0 0 (va_A wc H.size)) (cw : CallW R s args own C index y bytes maxL ret wy rm 0 0 n) (hn : As.length = n) (hl : ls.size = nL) (hst : st0 = As.reverse ++ .ref b :: rest) (hrm : (rest.map fun v => v.category).sum ≤ 8) (hdg : decode cc pc = .ok (.invokevirtual index, 3)) (hcs : cells ≤ R.cells ∧ slots ≤ R.slots)
    (hK : va_K D vwCl (bTY cA) s) (hP : va_P D vwCl w0 H) (hD : va_D A0 w0) (hS : va_S A0 s.heap H locs) (hA : ∀ q, s.heap.size ≤ q → A0 q) (hr : ∃ cell : Cell, H[b]? = some cell ∧ cell.vm.isStatics = false ∧ s.vm.findClass C = some cell.cls)
    (isC : List Nat) (hC : isC.map (fun i => w0[i]?) = wc.map some) (hnd : va_nd isC = true) (hlen : isC.length = w1.length) (had : (setAll w0 isC w1).map (fun q => q.1) = w0.map (fun q => q.1)) (hXb : ∀ (a : Array Value) (U : State) (g : JFrame) (mk : MethodId), X U → X (U.calling g mk a)) (hX : ∀ U : State, U.heap = H → s.WarmedH U.vm → X U)
    (kk : ∀ (H1 : Heap) (locs1 : List Loc), va_P D vwCl (setAll w0 isC w1) H1 → va_D A0 (setAll w0 isC w1) → va_S A0 s.heap H1 locs1 → W p l e R s m args below meth c H1 locs1 cells slots Q (F0 m (pc + 3) ls (.int r :: rest))) : W p l e R s m args below meth c H locs cells slots Q (F0 m pc ls st0) := by
  have hF := va_free hD hS hA isC hC
  refine va_calli (va_runV (As := As) (rest := rest) S hM cw ⟨pre_blind _ hXb, hr, fun U hU hW => pre_at (.ref b :: As) hK hP hD isC hC hnd hX U hU hW⟩ rfl hn hl hst (lv_room hrm) hdg hcs) hS (fun q _ h => hF q h) hF (fun r0 u t H1 locs1 ht hvm hw hB hz1 hk1 hS1 => ?_)
  cases hw
  rw [ht] at hB
  exact kk H1 locs1 (j_P hP hD isC hC hk1 hB hlen) (D_fst had hD) hS1
theorem cn_i {r : Int32} (S : CallFix p m c cc nL s args Ts own) (hM : Met l y wy rm (va_Pc (.ref b :: As) (PRE D cA wc H.size X)) (cQi D w1 (va_A wc H.size) r) 0 0 (va_A wc H.size)) (cw : CallW R s args own C index y bytes maxL ret wy rm 0 0 n) (hn : As.length = n) (hl : ls.size = nL) (hst : st0 = As.reverse ++ .ref b :: rest) (hrm : (rest.map fun v => v.category).sum ≤ 8) (hdg : decode cc pc = .ok (.invokevirtual index, 3)) (hcs : cells ≤ R.cells ∧ slots ≤ R.slots)
    (hK : va_K D vwCl (bTY cA) s) (hP : va_P D vwCl w0 H) (hD : va_D A0 w0) (hS : va_S A0 s.heap H locs) (hA : ∀ q, s.heap.size ≤ q → A0 q) (hr : ∃ cell : Cell, H[b]? = some cell ∧ cell.vm.isStatics = false ∧ s.vm.findClass C = some cell.cls)
    (isC isR : List Nat) (wn : va_W) (hC : isC.map (fun i => w0[i]?) = wc.map some) (hnd : va_nd isC = true) (hN : isC.map (fun i => wn[i]?) = w1.map some) {wr : va_W} (hR : isR.map (fun i => wn[i]?) = wr.map some) (hR0 : isR.map (fun i => w0[i]?) = wr.map some) (hdis : isR.all (fun k => !isC.contains k) = true) {N : Nat} (hlN : wn.length = N) (hcov : (List.range N).all (fun k => isC.contains k || isR.contains k) = true) (as : List Nat) (ha0 : w0.map (fun q => q.1) = as) (hax : wn.map (fun q => q.1) = as) (hXb : ∀ (a : Array Value) (U : State) (g : JFrame) (mk : MethodId), X U → X (U.calling g mk a)) (hX : ∀ U : State, U.heap = H → s.WarmedH U.vm → X U)
    (kk : ∀ (H1 : Heap) (locs1 : List Loc), va_P D vwCl wn H1 → va_D A0 wn → va_S A0 s.heap H1 locs1 → W p l e R s m args below meth c H1 locs1 cells slots Q (F0 m (pc + 3) ls (.int r :: rest))) : W p l e R s m args below meth c H locs cells slots Q (F0 m pc ls st0) := by
  have hF := va_free hD hS hA isC hC
  refine va_calli (va_runV (As := As) (rest := rest) S hM cw ⟨pre_blind _ hXb, hr, fun U hU hW => pre_at (.ref b :: As) hK hP hD isC hC hnd hX U hU hW⟩ rfl hn hl hst (lv_room hrm) hdg hcs) hS (fun q _ h => hF q h) hF (fun r0 u t H1 locs1 ht hvm hw hB hz1 hk1 hS1 => ?_)
  cases hw
  rw [ht] at hB
  exact kk H1 locs1 (j_N hP hD isC isR hC hk1 hB hN hR hR0 hdis hlN hcov) (D_fst (hax.trans ha0.symm) hD) hS1
theorem cw_i {r : Int32} (S : CallFix p m c cc nL s args Ts own) (hM : Met l y wy rm (va_Pc (.ref b :: As) (PRE D cA wc H.size X)) (cQi D w1 (va_A wc H.size) r) 0 0 (va_A wc H.size)) (cw : CallW R s args own C index y bytes maxL ret wy rm 0 0 n) (hn : As.length = n) (hl : ls.size = nL) (hst : st0 = As.reverse ++ .ref b :: rest) (hrm : (rest.map fun v => v.category).sum ≤ 8) (hdg : decode cc pc = .ok (.invokevirtual index, 3)) (hcs : cells ≤ R.cells ∧ slots ≤ R.slots)
    (hK : va_K D vwCl (bTY cA) s) (hP : va_P D vwCl wc H) (hD : va_D A0 wc) (hS : va_S A0 s.heap H locs) (hA : ∀ q, s.heap.size ≤ q → A0 q) (hr : ∃ cell : Cell, H[b]? = some cell ∧ cell.vm.isStatics = false ∧ s.vm.findClass C = some cell.cls)
    (as : List Nat) (ha0 : wc.map (fun q => q.1) = as) (hax : w1.map (fun q => q.1) = as) (hXb : ∀ (a : Array Value) (U : State) (g : JFrame) (mk : MethodId), X U → X (U.calling g mk a)) (hX : ∀ U : State, U.heap = H → s.WarmedH U.vm → X U)
    (kk : ∀ (H1 : Heap) (locs1 : List Loc), va_P D vwCl w1 H1 → va_D A0 w1 → va_S A0 s.heap H1 locs1 → W p l e R s m args below meth c H1 locs1 cells slots Q (F0 m (pc + 3) ls (.int r :: rest))) : W p l e R s m args below meth c H locs cells slots Q (F0 m pc ls st0) := by
  have hF : ∀ q, va_A wc H.size q → A0 q := fun q h => h.elim (fun ⟨k, e, h⟩ => hD.2 k (q, e) h) (fun h => hA q (Nat.le_trans hS.1 h))
  refine va_calli (va_runV (As := As) (rest := rest) S hM cw ⟨pre_blind _ hXb, hr, fun U hU hW => ⟨rfl, by rw [hU], by rw [hU]; exact hP, va_K.moved hW.alike hK, hD.weaken (fun _ _ _ _ => trivial), hX U hU hW⟩⟩ rfl hn hl hst (lv_room hrm) hdg hcs) hS (fun q _ h => hF q h) hF (fun r0 u t H1 locs1 ht hvm hw hB hz1 hk1 hS1 => ?_)
  cases hw
  rw [ht] at hB
  exact kk H1 locs1 hB (D_fst (hax.trans ha0.symm) hD) hS1
theorem cv_l {r : Int64} (S : CallFix p m c cc nL s args Ts own) (hM : Met l y wy rm (va_Pc (.ref b :: As) (PRE D cA wc H.size X)) (cQl D w1 (va_A wc H.size) r) 0 0 (va_A wc H.size)) (cw : CallW R s args own C index y bytes maxL ret wy rm 0 0 n) (hn : As.length = n) (hl : ls.size = nL) (hst : st0 = As.reverse ++ .ref b :: rest) (hrm : (rest.map fun v => v.category).sum ≤ 8) (hdg : decode cc pc = .ok (.invokevirtual index, 3)) (hcs : cells ≤ R.cells ∧ slots ≤ R.slots)
    (hK : va_K D vwCl (bTY cA) s) (hP : va_P D vwCl w0 H) (hD : va_D A0 w0) (hS : va_S A0 s.heap H locs) (hA : ∀ q, s.heap.size ≤ q → A0 q) (hr : ∃ cell : Cell, H[b]? = some cell ∧ cell.vm.isStatics = false ∧ s.vm.findClass C = some cell.cls)
    (isC : List Nat) (hC : isC.map (fun i => w0[i]?) = wc.map some) (hnd : va_nd isC = true) (hlen : isC.length = w1.length) (had : (setAll w0 isC w1).map (fun q => q.1) = w0.map (fun q => q.1)) (hXb : ∀ (a : Array Value) (U : State) (g : JFrame) (mk : MethodId), X U → X (U.calling g mk a)) (hX : ∀ U : State, U.heap = H → s.WarmedH U.vm → X U)
    (kk : ∀ (H1 : Heap) (locs1 : List Loc), va_P D vwCl (setAll w0 isC w1) H1 → va_D A0 (setAll w0 isC w1) → va_S A0 s.heap H1 locs1 → W p l e R s m args below meth c H1 locs1 cells slots Q (F0 m (pc + 3) ls (.long r :: rest))) : W p l e R s m args below meth c H locs cells slots Q (F0 m pc ls st0) := by
  have hF := va_free hD hS hA isC hC
  refine va_calll (va_runV (As := As) (rest := rest) S hM cw ⟨pre_blind _ hXb, hr, fun U hU hW => pre_at (.ref b :: As) hK hP hD isC hC hnd hX U hU hW⟩ rfl hn hl hst (lv_room hrm) hdg hcs) hS (fun q _ h => hF q h) hF (fun r0 u t H1 locs1 ht hvm hw hB hz1 hk1 hS1 => ?_)
  cases hw
  rw [ht] at hB
  exact kk H1 locs1 (j_P hP hD isC hC hk1 hB hlen) (D_fst had hD) hS1
theorem cn_l {r : Int64} (S : CallFix p m c cc nL s args Ts own) (hM : Met l y wy rm (va_Pc (.ref b :: As) (PRE D cA wc H.size X)) (cQl D w1 (va_A wc H.size) r) 0 0 (va_A wc H.size)) (cw : CallW R s args own C index y bytes maxL ret wy rm 0 0 n) (hn : As.length = n) (hl : ls.size = nL) (hst : st0 = As.reverse ++ .ref b :: rest) (hrm : (rest.map fun v => v.category).sum ≤ 8) (hdg : decode cc pc = .ok (.invokevirtual index, 3)) (hcs : cells ≤ R.cells ∧ slots ≤ R.slots)
    (hK : va_K D vwCl (bTY cA) s) (hP : va_P D vwCl w0 H) (hD : va_D A0 w0) (hS : va_S A0 s.heap H locs) (hA : ∀ q, s.heap.size ≤ q → A0 q) (hr : ∃ cell : Cell, H[b]? = some cell ∧ cell.vm.isStatics = false ∧ s.vm.findClass C = some cell.cls)
    (isC isR : List Nat) (wn : va_W) (hC : isC.map (fun i => w0[i]?) = wc.map some) (hnd : va_nd isC = true) (hN : isC.map (fun i => wn[i]?) = w1.map some) {wr : va_W} (hR : isR.map (fun i => wn[i]?) = wr.map some) (hR0 : isR.map (fun i => w0[i]?) = wr.map some) (hdis : isR.all (fun k => !isC.contains k) = true) {N : Nat} (hlN : wn.length = N) (hcov : (List.range N).all (fun k => isC.contains k || isR.contains k) = true) (as : List Nat) (ha0 : w0.map (fun q => q.1) = as) (hax : wn.map (fun q => q.1) = as) (hXb : ∀ (a : Array Value) (U : State) (g : JFrame) (mk : MethodId), X U → X (U.calling g mk a)) (hX : ∀ U : State, U.heap = H → s.WarmedH U.vm → X U)
    (kk : ∀ (H1 : Heap) (locs1 : List Loc), va_P D vwCl wn H1 → va_D A0 wn → va_S A0 s.heap H1 locs1 → W p l e R s m args below meth c H1 locs1 cells slots Q (F0 m (pc + 3) ls (.long r :: rest))) : W p l e R s m args below meth c H locs cells slots Q (F0 m pc ls st0) := by
  have hF := va_free hD hS hA isC hC
  refine va_calll (va_runV (As := As) (rest := rest) S hM cw ⟨pre_blind _ hXb, hr, fun U hU hW => pre_at (.ref b :: As) hK hP hD isC hC hnd hX U hU hW⟩ rfl hn hl hst (lv_room hrm) hdg hcs) hS (fun q _ h => hF q h) hF (fun r0 u t H1 locs1 ht hvm hw hB hz1 hk1 hS1 => ?_)
  cases hw
  rw [ht] at hB
  exact kk H1 locs1 (j_N hP hD isC isR hC hk1 hB hN hR hR0 hdis hlN hcov) (D_fst (hax.trans ha0.symm) hD) hS1
theorem cw_l {r : Int64} (S : CallFix p m c cc nL s args Ts own) (hM : Met l y wy rm (va_Pc (.ref b :: As) (PRE D cA wc H.size X)) (cQl D w1 (va_A wc H.size) r) 0 0 (va_A wc H.size)) (cw : CallW R s args own C index y bytes maxL ret wy rm 0 0 n) (hn : As.length = n) (hl : ls.size = nL) (hst : st0 = As.reverse ++ .ref b :: rest) (hrm : (rest.map fun v => v.category).sum ≤ 8) (hdg : decode cc pc = .ok (.invokevirtual index, 3)) (hcs : cells ≤ R.cells ∧ slots ≤ R.slots)
    (hK : va_K D vwCl (bTY cA) s) (hP : va_P D vwCl wc H) (hD : va_D A0 wc) (hS : va_S A0 s.heap H locs) (hA : ∀ q, s.heap.size ≤ q → A0 q) (hr : ∃ cell : Cell, H[b]? = some cell ∧ cell.vm.isStatics = false ∧ s.vm.findClass C = some cell.cls)
    (as : List Nat) (ha0 : wc.map (fun q => q.1) = as) (hax : w1.map (fun q => q.1) = as) (hXb : ∀ (a : Array Value) (U : State) (g : JFrame) (mk : MethodId), X U → X (U.calling g mk a)) (hX : ∀ U : State, U.heap = H → s.WarmedH U.vm → X U)
    (kk : ∀ (H1 : Heap) (locs1 : List Loc), va_P D vwCl w1 H1 → va_D A0 w1 → va_S A0 s.heap H1 locs1 → W p l e R s m args below meth c H1 locs1 cells slots Q (F0 m (pc + 3) ls (.long r :: rest))) : W p l e R s m args below meth c H locs cells slots Q (F0 m pc ls st0) := by
  have hF : ∀ q, va_A wc H.size q → A0 q := fun q h => h.elim (fun ⟨k, e, h⟩ => hD.2 k (q, e) h) (fun h => hA q (Nat.le_trans hS.1 h))
  refine va_calll (va_runV (As := As) (rest := rest) S hM cw ⟨pre_blind _ hXb, hr, fun U hU hW => ⟨rfl, by rw [hU], by rw [hU]; exact hP, va_K.moved hW.alike hK, hD.weaken (fun _ _ _ _ => trivial), hX U hU hW⟩⟩ rfl hn hl hst (lv_room hrm) hdg hcs) hS (fun q _ h => hF q h) hF (fun r0 u t H1 locs1 ht hvm hw hB hz1 hk1 hS1 => ?_)
  cases hw
  rw [ht] at hB
  exact kk H1 locs1 hB (D_fst (hax.trans ha0.symm) hD) hS1
theorem cv_v (S : CallFix p m c cc nL s args Ts own) (hM : Met l y wy rm (va_Pc (.ref b :: As) (PRE D cA wc H.size X)) (cQv D w1 (va_A wc H.size)) 0 0 (va_A wc H.size)) (cw : CallW R s args own C index y bytes maxL ret wy rm 0 0 n) (hn : As.length = n) (hl : ls.size = nL) (hst : st0 = As.reverse ++ .ref b :: rest) (hrm : (rest.map fun v => v.category).sum ≤ 8) (hdg : decode cc pc = .ok (.invokevirtual index, 3)) (hcs : cells ≤ R.cells ∧ slots ≤ R.slots)
    (hK : va_K D vwCl (bTY cA) s) (hP : va_P D vwCl w0 H) (hD : va_D A0 w0) (hS : va_S A0 s.heap H locs) (hA : ∀ q, s.heap.size ≤ q → A0 q) (hr : ∃ cell : Cell, H[b]? = some cell ∧ cell.vm.isStatics = false ∧ s.vm.findClass C = some cell.cls)
    (isC : List Nat) (hC : isC.map (fun i => w0[i]?) = wc.map some) (hnd : va_nd isC = true) (hlen : isC.length = w1.length) (had : (setAll w0 isC w1).map (fun q => q.1) = w0.map (fun q => q.1)) (hXb : ∀ (a : Array Value) (U : State) (g : JFrame) (mk : MethodId), X U → X (U.calling g mk a)) (hX : ∀ U : State, U.heap = H → s.WarmedH U.vm → X U)
    (kk : ∀ (H1 : Heap) (locs1 : List Loc), va_P D vwCl (setAll w0 isC w1) H1 → va_D A0 (setAll w0 isC w1) → va_S A0 s.heap H1 locs1 → W p l e R s m args below meth c H1 locs1 cells slots Q (F0 m (pc + 3) ls rest)) : W p l e R s m args below meth c H locs cells slots Q (F0 m pc ls st0) := by
  have hF := va_free hD hS hA isC hC
  refine va_callv (va_runV (As := As) (rest := rest) S hM cw ⟨pre_blind _ hXb, hr, fun U hU hW => pre_at (.ref b :: As) hK hP hD isC hC hnd hX U hU hW⟩ rfl hn hl hst (lv_room hrm) hdg hcs) hS (fun q _ h => hF q h) hF (fun u t H1 locs1 ht hvm hw hB hz1 hk1 hS1 => ?_)
  rw [ht] at hB
  exact kk H1 locs1 (j_P hP hD isC hC hk1 hB hlen) (D_fst had hD) hS1
theorem cn_v (S : CallFix p m c cc nL s args Ts own) (hM : Met l y wy rm (va_Pc (.ref b :: As) (PRE D cA wc H.size X)) (cQv D w1 (va_A wc H.size)) 0 0 (va_A wc H.size)) (cw : CallW R s args own C index y bytes maxL ret wy rm 0 0 n) (hn : As.length = n) (hl : ls.size = nL) (hst : st0 = As.reverse ++ .ref b :: rest) (hrm : (rest.map fun v => v.category).sum ≤ 8) (hdg : decode cc pc = .ok (.invokevirtual index, 3)) (hcs : cells ≤ R.cells ∧ slots ≤ R.slots)
    (hK : va_K D vwCl (bTY cA) s) (hP : va_P D vwCl w0 H) (hD : va_D A0 w0) (hS : va_S A0 s.heap H locs) (hA : ∀ q, s.heap.size ≤ q → A0 q) (hr : ∃ cell : Cell, H[b]? = some cell ∧ cell.vm.isStatics = false ∧ s.vm.findClass C = some cell.cls)
    (isC isR : List Nat) (wn : va_W) (hC : isC.map (fun i => w0[i]?) = wc.map some) (hnd : va_nd isC = true) (hN : isC.map (fun i => wn[i]?) = w1.map some) {wr : va_W} (hR : isR.map (fun i => wn[i]?) = wr.map some) (hR0 : isR.map (fun i => w0[i]?) = wr.map some) (hdis : isR.all (fun k => !isC.contains k) = true) {N : Nat} (hlN : wn.length = N) (hcov : (List.range N).all (fun k => isC.contains k || isR.contains k) = true) (as : List Nat) (ha0 : w0.map (fun q => q.1) = as) (hax : wn.map (fun q => q.1) = as) (hXb : ∀ (a : Array Value) (U : State) (g : JFrame) (mk : MethodId), X U → X (U.calling g mk a)) (hX : ∀ U : State, U.heap = H → s.WarmedH U.vm → X U)
    (kk : ∀ (H1 : Heap) (locs1 : List Loc), va_P D vwCl wn H1 → va_D A0 wn → va_S A0 s.heap H1 locs1 → W p l e R s m args below meth c H1 locs1 cells slots Q (F0 m (pc + 3) ls rest)) : W p l e R s m args below meth c H locs cells slots Q (F0 m pc ls st0) := by
  have hF := va_free hD hS hA isC hC
  refine va_callv (va_runV (As := As) (rest := rest) S hM cw ⟨pre_blind _ hXb, hr, fun U hU hW => pre_at (.ref b :: As) hK hP hD isC hC hnd hX U hU hW⟩ rfl hn hl hst (lv_room hrm) hdg hcs) hS (fun q _ h => hF q h) hF (fun u t H1 locs1 ht hvm hw hB hz1 hk1 hS1 => ?_)
  rw [ht] at hB
  exact kk H1 locs1 (j_N hP hD isC isR hC hk1 hB hN hR hR0 hdis hlN hcov) (D_fst (hax.trans ha0.symm) hD) hS1
theorem cw_v (S : CallFix p m c cc nL s args Ts own) (hM : Met l y wy rm (va_Pc (.ref b :: As) (PRE D cA wc H.size X)) (cQv D w1 (va_A wc H.size)) 0 0 (va_A wc H.size)) (cw : CallW R s args own C index y bytes maxL ret wy rm 0 0 n) (hn : As.length = n) (hl : ls.size = nL) (hst : st0 = As.reverse ++ .ref b :: rest) (hrm : (rest.map fun v => v.category).sum ≤ 8) (hdg : decode cc pc = .ok (.invokevirtual index, 3)) (hcs : cells ≤ R.cells ∧ slots ≤ R.slots)
    (hK : va_K D vwCl (bTY cA) s) (hP : va_P D vwCl wc H) (hD : va_D A0 wc) (hS : va_S A0 s.heap H locs) (hA : ∀ q, s.heap.size ≤ q → A0 q) (hr : ∃ cell : Cell, H[b]? = some cell ∧ cell.vm.isStatics = false ∧ s.vm.findClass C = some cell.cls)
    (as : List Nat) (ha0 : wc.map (fun q => q.1) = as) (hax : w1.map (fun q => q.1) = as) (hXb : ∀ (a : Array Value) (U : State) (g : JFrame) (mk : MethodId), X U → X (U.calling g mk a)) (hX : ∀ U : State, U.heap = H → s.WarmedH U.vm → X U)
    (kk : ∀ (H1 : Heap) (locs1 : List Loc), va_P D vwCl w1 H1 → va_D A0 w1 → va_S A0 s.heap H1 locs1 → W p l e R s m args below meth c H1 locs1 cells slots Q (F0 m (pc + 3) ls rest)) : W p l e R s m args below meth c H locs cells slots Q (F0 m pc ls st0) := by
  have hF : ∀ q, va_A wc H.size q → A0 q := fun q h => h.elim (fun ⟨k, e, h⟩ => hD.2 k (q, e) h) (fun h => hA q (Nat.le_trans hS.1 h))
  refine va_callv (va_runV (As := As) (rest := rest) S hM cw ⟨pre_blind _ hXb, hr, fun U hU hW => ⟨rfl, by rw [hU], by rw [hU]; exact hP, va_K.moved hW.alike hK, hD.weaken (fun _ _ _ _ => trivial), hX U hU hW⟩⟩ rfl hn hl hst (lv_room hrm) hdg hcs) hS (fun q _ h => hF q h) hF (fun u t H1 locs1 ht hvm hw hB hz1 hk1 hS1 => ?_)
  rw [ht] at hB
  exact kk H1 locs1 hB (D_fst (hax.trans ha0.symm) hD) hS1
/-- a static callee over ints alone: no cell of ours is its -/
theorem cs_i {r : Int32} (S : CallFix p m c cc nL s args Ts own) (hM : Met l y wy rm (va_Pc As (fun _ => True)) (va_Qi (fun (r0 : Int32) (_ : Unit) => r0 = r) (fun _ _ => True) (fun q => H.size ≤ q)) 0 0 (fun q => H.size ≤ q)) (cw : CallB R s args own index y bytes maxL ret wy rm 0 0 n ∧ (Cond.static y).before args s = true) (hn : As.length = n) (hl : ls.size = nL) (hst : st0 = As.reverse ++ rest) (hrm : (rest.map fun v => v.category).sum ≤ 8) (hdg : decode cc pc = .ok (.invokestatic index, 3)) (hcs : cells ≤ R.cells ∧ slots ≤ R.slots)
    (hP : va_P D vwCl w0 H) (hD : va_D A0 w0) (hS : va_S A0 s.heap H locs) (hA : ∀ q, s.heap.size ≤ q → A0 q)
    (kk : ∀ (H1 : Heap) (locs1 : List Loc), va_P D vwCl w0 H1 → va_D A0 w0 → va_S A0 s.heap H1 locs1 → W p l e R s m args below meth c H1 locs1 cells slots Q (F0 m (pc + 3) ls (.int r :: rest))) : W p l e R s m args below meth c H locs cells slots Q (F0 m pc ls st0) := by
  refine va_calli (va_runS (As := As) (rest := rest) S hM cw ⟨fun a U g mk q => ⟨q.1, trivial⟩, fun U hU hW => ⟨rfl, trivial⟩⟩ rfl hn hl hst (lv_room hrm) hdg hcs) hS (fun q h1 h2 => absurd h2 (Nat.not_le.mpr h1)) (fun q h => hA q (Nat.le_trans hS.1 h)) (fun r0 u t H1 locs1 ht hvm hw hB hz1 hk1 hS1 => ?_)
  cases hw
  exact kk H1 locs1 (hP.kept (fun k q hq => hk1 q.1 (hP k q hq).lt (Nat.not_le.mpr (hP k q hq).lt))) hD hS1
theorem rt_i {v r : Int32} (hx : p.tables.exec = Jvm.exec) (hb : c.code = cc) (hr : meth.sig.returnType = some .int) (hP : va_P D vwCl w1 H) (hS : va_S A0 s.heap H locs) (hv : v = r) (hlocks : meth.locks = false) (hdg : decode cc pc = .ok (.ireturn, 1)) : W p l e R s m args below meth c H locs cells slots (MQ below (cQi D w1 A0 r) args s cells slots A0) (F0 m pc ls [.int v]) :=
  W.iret hx hb hr (fun t ht hW => ⟨⟨v, (), rfl, hv, by show va_P D vwCl w1 t.heap; rw [ht]; exact hP⟩, hS.F ht⟩) hS.2.2 hdg hlocks
theorem rt_n {v r : Int32} {ty : FieldType} (hx : p.tables.exec = Jvm.exec) (hb : c.code = cc) (hr : meth.sig.returnType = some ty) (hn : narrow ty (.int v) = .int v) (hP : va_P D vwCl w1 H) (hS : va_S A0 s.heap H locs) (hv : v = r) (hlocks : meth.locks = false) (hdg : decode cc pc = .ok (.ireturn, 1)) : W p l e R s m args below meth c H locs cells slots (MQ below (cQi D w1 A0 r) args s cells slots A0) (F0 m pc ls [.int v]) :=
  W.zret hx hb hr hn (fun t ht hW => ⟨⟨v, (), rfl, hv, by show va_P D vwCl w1 t.heap; rw [ht]; exact hP⟩, hS.F ht⟩) hS.2.2 hdg hlocks
theorem rt_l {v r : Int64} (hx : p.tables.exec = Jvm.exec) (hb : c.code = cc) (hr : meth.sig.returnType = some .long) (hP : va_P D vwCl w1 H) (hS : va_S A0 s.heap H locs) (hv : v = r) (hlocks : meth.locks = false) (hdg : decode cc pc = .ok (.lreturn, 1)) : W p l e R s m args below meth c H locs cells slots (MQ below (cQl D w1 A0 r) args s cells slots A0) (F0 m pc ls [.long v]) :=
  W.lret hx hb hr (fun t ht hW => ⟨⟨v, (), rfl, hv, by show va_P D vwCl w1 t.heap; rw [ht]; exact hP⟩, hS.F ht⟩) hS.2.2 hdg hlocks
theorem rt_v (hx : p.tables.exec = Jvm.exec) (hb : c.code = cc) (hr : meth.sig.returnType = none) (hP : va_P D vwCl w1 H) (hS : va_S A0 s.heap H locs) (hlocks : meth.locks = false) (hdg : decode cc pc = .ok (.return_, 1)) : W p l e R s m args below meth c H locs cells slots (MQ below (cQv D w1 A0) args s cells slots A0) (F0 m pc ls []) :=
  W.vret hx hb hr (fun t ht hW => ⟨⟨(), rfl, trivial, by show va_P D vwCl w1 t.heap; rw [ht]; exact hP⟩, hS.F ht⟩) hS.2.2 hdg hlocks
theorem rs_i {v r : Int32} {ty : FieldType} {sz : Nat} (hsz : s.heap.size = sz) (hx : p.tables.exec = Jvm.exec) (hb : c.code = cc) (hr : meth.sig.returnType = some ty) (hn : narrow ty (.int v) = .int v) (hH : H = s.heap) (hv : v = r) (hlocks : meth.locks = false) (hdg : decode cc pc = .ok (.ireturn, 1)) : W p l e R s m args below meth c H [] cells slots (MQ below (va_Qi (fun (r0 : Int32) (_ : Unit) => r0 = r) (fun _ _ => True) (fun q => sz ≤ q)) args s cells slots (fun q => sz ≤ q)) (F0 m pc ls [.int v]) :=
  W.zret hx hb hr hn (fun t ht hW => ⟨⟨v, (), rfl, hv, trivial⟩, by rw [ht, hH]; exact Nat.le_refl _, fun q _ _ => by rw [ht, hH]⟩) (fun q h => nomatch h) hdg hlocks
end BASE
theorem zfit {x : Int32} (h : x = 0 ∨ x = 1) : narrow .boolean (.int x) = .int x ∧ fits .boolean (.int x) = true := by
  rcases h with h | h <;> subst h <;> decide +kernel
theorem cfit {x : Int32} (h : (x.toUInt32 % 65536).toInt32 = x) : narrow .char (.int x) = .int x ∧ fits .char (.int x) = true := by
  rw [← h]; exact ⟨pk_nc _, pk_fc _⟩
def FU : Nat := 1000010
