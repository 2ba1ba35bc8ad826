/-! the JDK's methods that the class calls: Enum.ordinal, String.length, String.charAt, over constant objects -/
theorem PO_blind {o n d : String} {v : Value} {t sz : Nat} (a : Array Value) (U : State) (g : JFrame) (mk : MethodId) (h : U.heap.size = sz ∧ va_OF o n d v t (fun q => sz ≤ q) U U.heap) : (U.calling g mk a).heap.size = sz ∧ va_OF o n d v t (fun q => sz ≤ q) (U.calling g mk a) (U.calling g mk a).heap :=
  ⟨h.1, va_OF.moved (u := U) (Vm.Alike.refl U.vm) h.2⟩
theorem PO_call {o n d : String} {v : Value} {t : Nat} {A : Nat → Prop} {s : State} {H : Heap} {locs : List Loc} (h : va_OF o n d v t A s s.heap) (hS : va_S A s.heap H locs) (hA : ∀ q, s.heap.size ≤ q → A q) (U : State) (hU : U.heap = H) (hW : s.WarmedH U.vm) : U.heap.size = H.size ∧ va_OF o n d v t (fun q => H.size ≤ q) U U.heap := by
  rw [hU]
  exact ⟨rfl, ((h.kept hS.2.1).narrow (fun q hq => hA q (Nat.le_trans hS.1 hq))).moved hW.alike⟩
set_option maxHeartbeats 4000000 in
set_option maxRecDepth 100000 in
theorem c_ordinal (l : Launch) (w h : Nat) (sz : Nat) : Met l yJx29ce0_ordinal_8abf5 wsJx29ce0_ordinal_8abf5 ({ frames := 0, cells := 0, slots := 0, locals := 0 }) (va_Pc [.ref h] (fun U => U.heap.size = sz ∧ va_OF "java/lang/Enum" "ordinal" "I" (.int (wV_ordinal.getD w 0)) h (fun q => sz ≤ q) U U.heap)) (va_Qi (fun (r0 : Int32) (_ : Unit) => r0 = wV_ordinal.getD w 0) (fun _ _ => True) (fun q => sz ≤ q)) 0 0 (fun q => sz ≤ q) := by
  refine Met.ofW (cc := cJx29ce0_ordinal_8abf5) (maxL := 1) (ret := (some .int)) (by decide) rfl ?_
  intro PP EE S0 MM args below meth CC S1 B hml hv
  obtain ⟨rfl, hsz, hF⟩ := hv
  have hx := B.exec
  have hb := B.bytes
  have hr := B.returns
  have hts := atoms_spec (ws := wsJx29ce0_ordinal_8abf5) B.pre
  have hown : S0.vm.findClass RJx29ce0 = some MM.cls := findClass_of_methodNamed B.named
  have hlocks := B.notSynchronized
  have k0 := hts (.fieldLink RJx29ce0 7 "java/lang/Enum" "ordinal" "I") (List.mem_of_getElem? (i := 1) rfl)
  have hS : va_S (fun q => sz ≤ q) S0.heap S0.heap [] := va_S.rf
  have hl := lv_entry ([.ref h]) (n := 1) (Nat.le_of_ble_eq_true rfl)
  rw [lg_entry_eq]
  generalize (lg_sl ([.ref h]) ++ List.replicate (1 - (lg_sl ([.ref h])).length) Slot.unset).toArray = ls at hl ⊢
  have hl : lv_has ls 1 [(0, .ref h)] := hl
  refine lv_aload_n hx hb dJx29ce0_ordinal_8abf5_0 rfl (lv_at hl 0 rfl) ?_
  refine vk_getf hx hb hF hS hown k0 (fun _ h9 => h9) dJx29ce0_ordinal_8abf5_1 ?_
  exact rs_i hsz hx hb hr rfl rfl rfl hlocks dJx29ce0_ordinal_8abf5_4
/-- what String's methods need of a text -/
def PS (w h v sz : Nat) (U : State) : Prop := U.heap.size = sz ∧ va_Z "java/lang/String" "COMPACT_STRINGS" "Z" (.int 1) (fun q => sz ≤ q) U U.heap ∧ va_Zq "jdk/internal/util/Preconditions" "SIOOBE_FORMATTER" "Ljava/util/function/BiFunction;" (fun q => sz ≤ q) U U.heap ∧ va_O "java/lang/String" h (fun q => sz ≤ q) U U.heap ∧ va_OF "java/lang/String" "coder" "B" (.int 0) h (fun q => sz ≤ q) U U.heap ∧ va_OF "java/lang/String" "value" "[B" (.ref v) h (fun q => sz ≤ q) U U.heap ∧ va_T .byte v (sLen w) (fun j => .int (sByt w j)) (fun q => sz ≤ q) U U.heap
theorem PS_blind {w h v sz : Nat} (a : Array Value) (U : State) (g : JFrame) (mk : MethodId) (q : PS w h v sz U) : PS w h v sz (U.calling g mk a) := by
  obtain ⟨h1, h2, h3, h4, h5, h6, h7⟩ := q
  have hv : U.vm.Alike (U.calling g mk a).vm := Vm.Alike.refl U.vm
  exact ⟨h1, h2.moved hv, h3.moved hv, h4.moved hv, h5.moved hv, h6.moved hv, h7.moved hv⟩
theorem PS.call {w h v sz : Nat} {A : Nat → Prop} {s : State} {H : Heap} {locs : List Loc} (hsz : s.heap.size = sz) (q : PS w h v sz s) (hS : va_S A s.heap H locs) (hA : ∀ q, A q → sz ≤ q) (U : State) (hU : U.heap = H) (hW : s.WarmedH U.vm) : PS w h v H.size U := by
  obtain ⟨h1, h2, h3, h4, h5, h6, h7⟩ := q
  have hv := hW.alike
  have hk : ∀ a : Nat, a < s.heap.size → ¬ (fun q => sz ≤ q) a → H[a]? = s.heap[a]? := fun a ha hn => hS.2.1 a ha (fun h => hn (hA a h))
  have hF : ∀ q : Nat, H.size ≤ q → sz ≤ q := fun q h => by have := hS.1; omega
  refine ⟨by rw [hU], ?_⟩
  rw [hU]
  exact ⟨((h2.kept hk).narrow hF).moved hv, ((h3.kept hk).narrow hF).moved hv, ((h4.kept hk).narrow hF).moved hv, ((h5.kept hk).narrow hF).moved hv, ((h6.kept hk).narrow hF).moved hv, ((h7.kept hk).narrow hF).moved hv⟩
theorem PS_call {ad adK adV : Nat → Nat} {tA tS : Nat} {A : Nat → Prop} {s : State} {H : Heap} {locs : List Loc} (h : SX ad adK adV tA tS A s s.heap) {w : Nat} (hw : w < 82) (hS : va_S A s.heap H locs) (hA : ∀ q, s.heap.size ≤ q → A q) (U : State) (hU : U.heap = H) (hW : s.WarmedH U.vm) : PS w (adK w) (adV w) H.size U := by
  have hF : ∀ q : Nat, H.size ≤ q → A q := fun q h => hA q (Nat.le_trans hS.1 h)
  obtain ⟨-, -, -, -, -, h6, h7, -, h9⟩ := h
  obtain ⟨-, -, -, -, g5, g6, g7, g8⟩ := h7 w hw
  have hv := hW.alike
  refine ⟨by rw [hU], ?_⟩
  rw [hU]
  exact ⟨((h6.kept hS.2.1).narrow hF).moved hv, ((h9.kept hS.2.1).narrow hF).moved hv, ((g5.kept hS.2.1).narrow hF).moved hv, ((g6.kept hS.2.1).narrow hF).moved hv, ((g7.kept hS.2.1).narrow hF).moved hv, ((g8.kept hS.2.1).narrow hF).moved hv⟩
section JR
variable {p : Program} {l : Launch} {e : Env} {R : Room} {s : State} {m : MethodId} {args : Array Value} {below : List Frame} {meth : Method} {c : Code} {H : Heap} {locs : List Loc} {cells slots : Nat} {Q : State → Prop}
variable {pc nL n index maxL : Nat} {ls : Array Slot} {rest st0 As : List Value} {cc bytes : ByteArray} {Ts wy : List Cond} {own C : String} {x y : MethodName} {ret : Option FieldType} {rm : Room} {A0 : Nat → Prop} {b : Nat}
theorem rs_g {v r : Int32} {ty : FieldType} (hx : p.tables.exec = Jvm.exec) (hb : c.code = cc) (hr : meth.sig.returnType = some ty) (hn : narrow ty (.int v) = .int v) (hS : va_S A0 s.heap H locs) (hv : v = r) (hlocks : meth.locks = false) (hdg : decode cc pc = .ok (.ireturn, 1)) : W p l e R s m args below meth c H locs cells slots (MQ below (va_Qi (fun (r0 : Int32) (_ : Unit) => r0 = r) (fun _ _ => True) A0) args s cells slots A0) (F0 m pc ls [.int v]) :=
  W.zret hx hb hr hn (fun t ht hW => ⟨⟨v, (), rfl, hv, trivial⟩, hS.F ht⟩) hS.2.2 hdg hlocks
theorem rs_v (hx : p.tables.exec = Jvm.exec) (hb : c.code = cc) (hr : meth.sig.returnType = none) (hS : va_S A0 s.heap H locs) (hlocks : meth.locks = false) (hdg : decode cc pc = .ok (.return_, 1)) : W p l e R s m args below meth c H locs cells slots (MQ below (va_Qv (fun (_ : Unit) => True) (fun _ _ => True) A0) args s cells slots A0) (F0 m pc ls []) :=
  W.vret hx hb hr (fun t ht hW => ⟨⟨(), rfl, trivial, trivial⟩, hS.F ht⟩) hS.2.2 hdg hlocks
/-- calls that touch nothing of what was there: own method of the receiver, static int, static void -/
theorem ko_i {r : Int32} {PX : State → Prop} (S : CallFix p m c cc nL s args Ts own) (hM : Met l y wy rm (va_Pc (.ref b :: As) PX) (va_Qi (fun (r0 : Int32) (_ : Unit) => r0 = r) (fun _ _ => True) (fun q => H.size ≤ q)) 0 0 (fun q => H.size ≤ q)) (cw : CallW R s args own C index y bytes maxL ret wy rm 0 0 n) (hn : As.length = n) (hl : ls.size = nL) (hst : st0 = As.reverse ++ .ref b :: rest) (hrm : (rest.map fun v => v.category).sum ≤ 8) (hdg : decode cc pc = .ok (.invokevirtual index, 3)) (hcs : cells ≤ R.cells ∧ slots ≤ R.slots)
    (hS : va_S A0 s.heap H locs) (hA : ∀ q, s.heap.size ≤ q → A0 q) (hr : ∃ cell : Cell, H[b]? = some cell ∧ cell.vm.isStatics = false ∧ s.vm.findClass C = some cell.cls) (hXb : ∀ (a : Array Value) (U : State) (g : JFrame) (mk : MethodId), PX U → PX (U.calling g mk a)) (hX : ∀ U : State, U.heap = H → s.WarmedH U.vm → PX U)
    (kk : ∀ (H1 : Heap) (locs1 : List Loc), va_S A0 s.heap H1 locs1 → W p l e R s m args below meth c H1 locs1 cells slots Q (F0 m (pc + 3) ls (.int r :: rest))) : W p l e R s m args below meth c H locs cells slots Q (F0 m pc ls st0) := by
  refine va_calli (va_runV (As := As) (rest := rest) S hM cw ⟨fun a U g mk q => ⟨q.1, hXb a U g mk q.2⟩, hr, fun U hU hW => ⟨rfl, hX U hU hW⟩⟩ rfl hn hl hst (lv_room hrm) hdg hcs) hS (fun q h1 h2 => absurd h2 (Nat.not_le.mpr h1)) (fun q h => hA q (Nat.le_trans hS.1 h)) (fun r0 u t H1 locs1 ht hvm hw hB hz1 hk1 hS1 => ?_)
  cases hw
  exact kk H1 locs1 hS1
theorem ks_i {r : Int32} {PX : State → Prop} (S : CallFix p m c cc nL s args Ts own) (hM : Met l y wy rm (va_Pc As PX) (va_Qi (fun (r0 : Int32) (_ : Unit) => r0 = r) (fun _ _ => True) (fun q => H.size ≤ q)) 0 0 (fun q => H.size ≤ q)) (cw : CallB R s args own index y bytes maxL ret wy rm 0 0 n ∧ (Cond.static y).before args s = true) (hn : As.length = n) (hl : ls.size = nL) (hst : st0 = As.reverse ++ rest) (hrm : (rest.map fun v => v.category).sum ≤ 8) (hdg : decode cc pc = .ok (.invokestatic index, 3)) (hcs : cells ≤ R.cells ∧ slots ≤ R.slots)
    (hS : va_S A0 s.heap H locs) (hA : ∀ q, s.heap.size ≤ q → A0 q) (hXb : ∀ (a : Array Value) (U : State) (g : JFrame) (mk : MethodId), PX U → PX (U.calling g mk a)) (hX : ∀ U : State, U.heap = H → s.WarmedH U.vm → PX U)
    (kk : ∀ (H1 : Heap) (locs1 : List Loc), va_S A0 s.heap H1 locs1 → W p l e R s m args below meth c H1 locs1 cells slots Q (F0 m (pc + 3) ls (.int r :: rest))) : W p l e R s m args below meth c H locs cells slots Q (F0 m pc ls st0) := by
  refine va_calli (va_runS (As := As) (rest := rest) S hM cw ⟨fun a U g mk q => ⟨q.1, hXb a U g mk q.2⟩, fun U hU hW => ⟨rfl, hX U hU hW⟩⟩ rfl hn hl hst (lv_room hrm) hdg hcs) hS (fun q h1 h2 => absurd h2 (Nat.not_le.mpr h1)) (fun q h => hA q (Nat.le_trans hS.1 h)) (fun r0 u t H1 locs1 ht hvm hw hB hz1 hk1 hS1 => ?_)
  cases hw
  exact kk H1 locs1 hS1
theorem ks_v {PX : State → Prop} (S : CallFix p m c cc nL s args Ts own) (hM : Met l y wy rm (va_Pc As PX) (va_Qv (fun (_ : Unit) => True) (fun _ _ => True) (fun q => H.size ≤ q)) 0 0 (fun q => H.size ≤ q)) (cw : CallB R s args own index y bytes maxL ret wy rm 0 0 n ∧ (Cond.static y).before args s = true) (hn : As.length = n) (hl : ls.size = nL) (hst : st0 = As.reverse ++ rest) (hrm : (rest.map fun v => v.category).sum ≤ 8) (hdg : decode cc pc = .ok (.invokestatic index, 3)) (hcs : cells ≤ R.cells ∧ slots ≤ R.slots)
    (hS : va_S A0 s.heap H locs) (hA : ∀ q, s.heap.size ≤ q → A0 q) (hXb : ∀ (a : Array Value) (U : State) (g : JFrame) (mk : MethodId), PX U → PX (U.calling g mk a)) (hX : ∀ U : State, U.heap = H → s.WarmedH U.vm → PX U)
    (kk : ∀ (H1 : Heap) (locs1 : List Loc), va_S A0 s.heap H1 locs1 → W p l e R s m args below meth c H1 locs1 cells slots Q (F0 m (pc + 3) ls rest)) : W p l e R s m args below meth c H locs cells slots Q (F0 m pc ls st0) := by
  refine va_callv (va_runS (As := As) (rest := rest) S hM cw ⟨fun a U g mk q => ⟨q.1, hXb a U g mk q.2⟩, fun U hU hW => ⟨rfl, hX U hU hW⟩⟩ rfl hn hl hst (lv_room hrm) hdg hcs) hS (fun q h1 h2 => absurd h2 (Nat.not_le.mpr h1)) (fun q h => hA q (Nat.le_trans hS.1 h)) (fun u t H1 locs1 ht hvm hw hB hz1 hk1 hS1 => ?_)
  exact kk H1 locs1 hS1
end JR
set_option maxHeartbeats 4000000 in
set_option maxRecDepth 100000 in
theorem c_coder (l : Launch) (w h v : Nat) (sz : Nat) : Met l yJ0_coder_7d493 wsJ0_coder_7d493 ({ frames := 0, cells := 0, slots := 0, locals := 0 }) (va_Pc [.ref h] (PS w h v sz)) (va_Qi (fun (r0 : Int32) (_ : Unit) => r0 = 0) (fun _ _ => True) (fun q => sz ≤ q)) 0 0 (fun q => sz ≤ q) := by
  refine Met.ofW (cc := cJ0_coder_7d493) (maxL := 1) (ret := (some .byte)) (by decide) rfl ?_
  intro PP EE S0 MM args below meth CC S1 B hml hv
  obtain ⟨rfl, hsz, h2, h3, h4, h5, h6, h7⟩ := hv
  have hx := B.exec
  have hb := B.bytes
  have hr := B.returns
  have hts := atoms_spec (ws := wsJ0_coder_7d493) B.pre
  have hown : S0.vm.findClass RJ0 = some MM.cls := findClass_of_methodNamed B.named
  have hlocks := B.notSynchronized
  have k0 := hts (.fieldLink RJ0 38 "java/lang/String" "COMPACT_STRINGS" "Z") (List.mem_of_getElem? (i := 1) rfl)
  have k1 := hts (.fieldLink RJ0 15 "java/lang/String" "coder" "B") (List.mem_of_getElem? (i := 2) rfl)
  have hS : va_S (fun q => sz ≤ q) S0.heap S0.heap [] := va_S.rf
  have hl := lv_entry ([.ref h]) (n := 1) (Nat.le_of_ble_eq_true rfl)
  rw [lg_entry_eq]
  generalize (lg_sl ([.ref h]) ++ List.replicate (1 - (lg_sl ([.ref h])).length) Slot.unset).toArray = ls at hl ⊢
  have hl : lv_has ls 1 [(0, .ref h)] := hl
  refine va_gets hx hb h2 hS hown k0 (fun _ h9 => h9) dJ0_coder_7d493_0 ?_
  refine lv_if_eq (tgt := 13) hx hb dJ0_coder_7d493_3 (by decide) (fun c => absurd c (by decide)) (fun c => ?_)
  refine lv_aload_n hx hb dJ0_coder_7d493_6 rfl (lv_at hl 0 rfl) ?_
  refine vk_getf hx hb h5 hS hown k1 (fun _ h9 => h9) dJ0_coder_7d493_7 ?_
  refine lv_goto (tgt := 14) hx hb dJ0_coder_7d493_10 (by decide) ?_
  exact rs_g hx hb hr (by decide +kernel) hS rfl hlocks dJ0_coder_7d493_14
set_option maxHeartbeats 4000000 in
set_option maxRecDepth 100000 in
theorem c_isLatin1 (l : Launch) (w h v : Nat) (sz : Nat) : Met l yJ0_isLatin1_aae02 wsJ0_isLatin1_aae02 ({ frames := 0, cells := 0, slots := 0, locals := 0 }) (va_Pc [.ref h] (PS w h v sz)) (va_Qi (fun (r0 : Int32) (_ : Unit) => r0 = 1) (fun _ _ => True) (fun q => sz ≤ q)) 0 0 (fun q => sz ≤ q) := by
  refine Met.ofW (cc := cJ0_isLatin1_aae02) (maxL := 1) (ret := (some .boolean)) (by decide) rfl ?_
  intro PP EE S0 MM args below meth CC S1 B hml hv
  obtain ⟨rfl, hsz, h2, h3, h4, h5, h6, h7⟩ := hv
  have hx := B.exec
  have hb := B.bytes
  have hr := B.returns
  have hts := atoms_spec (ws := wsJ0_isLatin1_aae02) B.pre
  have hown : S0.vm.findClass RJ0 = some MM.cls := findClass_of_methodNamed B.named
  have hlocks := B.notSynchronized
  have k0 := hts (.fieldLink RJ0 38 "java/lang/String" "COMPACT_STRINGS" "Z") (List.mem_of_getElem? (i := 1) rfl)
  have k1 := hts (.fieldLink RJ0 15 "java/lang/String" "coder" "B") (List.mem_of_getElem? (i := 2) rfl)
  have hS : va_S (fun q => sz ≤ q) S0.heap S0.heap [] := va_S.rf
  have hl := lv_entry ([.ref h]) (n := 1) (Nat.le_of_ble_eq_true rfl)
  rw [lg_entry_eq]
  generalize (lg_sl ([.ref h]) ++ List.replicate (1 - (lg_sl ([.ref h])).length) Slot.unset).toArray = ls at hl ⊢
  have hl : lv_has ls 1 [(0, .ref h)] := hl
  refine va_gets hx hb h2 hS hown k0 (fun _ h9 => h9) dJ0_isLatin1_aae02_0 ?_
  refine lv_if_eq (tgt := 17) hx hb dJ0_isLatin1_aae02_3 (by decide) (fun c => absurd c (by decide)) (fun c => ?_)
  refine lv_aload_n hx hb dJ0_isLatin1_aae02_6 rfl (lv_at hl 0 rfl) ?_
  refine vk_getf hx hb h5 hS hown k1 (fun _ h9 => h9) dJ0_isLatin1_aae02_7 ?_
  refine lv_if_ne (tgt := 17) hx hb dJ0_isLatin1_aae02_10 (by decide) (fun c => absurd rfl c) (fun c => ?_)
  refine lv_iconst (v := 1) hx hb dJ0_isLatin1_aae02_13 (by decide +kernel) ?_
  refine lv_goto (tgt := 18) hx hb dJ0_isLatin1_aae02_14 (by decide) ?_
  exact rs_g hx hb hr (by decide +kernel) hS rfl hlocks dJ0_isLatin1_aae02_18
set_option maxHeartbeats 4000000 in
set_option maxRecDepth 100000 in
theorem c_strlen (l : Launch) (w h v : Nat) (sz : Nat) : Met l yJ0_length_8abf5 wsJ0_length_8abf5 ({ frames := 1, cells := 0, slots := 0, locals := 20 }) (va_Pc [.ref h] (PS w h v sz)) (va_Qi (fun (r0 : Int32) (_ : Unit) => r0 = nI (sLen w)) (fun _ _ => True) (fun q => sz ≤ q)) 0 0 (fun q => sz ≤ q) := by
  refine Met.ofW (cc := cJ0_length_8abf5) (maxL := 1) (ret := (some .int)) (by decide) rfl ?_
  intro PP EE S0 MM args below meth CC S1 B hml hv
  have hv2 := hv
  obtain ⟨rfl, hPS⟩ := hv2
  obtain ⟨hsz, h2, h3, h4, h5, h6, h7⟩ := id hPS
  have hx := B.exec
  have hb := B.bytes
  have hr := B.returns
  have hts := atoms_spec (ws := wsJ0_length_8abf5) B.pre
  have hown : S0.vm.findClass RJ0 = some MM.cls := findClass_of_methodNamed B.named
  have hlocks := B.notSynchronized
  have k0 := hts (.fieldLink RJ0 9 "java/lang/String" "value" "[B") (List.mem_of_getElem? (i := 1) rfl)
  have hS : va_S (fun q => sz ≤ q) S0.heap S0.heap [] := va_S.rf
  have hA : ∀ q : Nat, S0.heap.size ≤ q → (fun q => sz ≤ q) q := fun q h => by rw [← hsz]; exact h
  have hl := lv_entry ([.ref h]) (n := 1) (Nat.le_of_ble_eq_true rfl)
  rw [lg_entry_eq]
  generalize (lg_sl ([.ref h]) ++ List.replicate (1 - (lg_sl ([.ref h])).length) Slot.unset).toArray = ls at hl ⊢
  have hl : lv_has ls 1 [(0, .ref h)] := hl
  refine lv_aload_n hx hb dJ0_length_8abf5_0 rfl (lv_at hl 0 rfl) ?_
  refine vk_getf hx hb h6 hS hown k0 (fun _ h9 => h9) dJ0_length_8abf5_1 ?_
  refine va_tlen hx hb h7 hS (v := nI (sLen w)) rfl dJ0_length_8abf5_4 ?_
  refine lv_aload_n hx hb dJ0_length_8abf5_5 rfl (lv_at hl 0 rfl) ?_
  refine ko_i (As := []) (rest := [.int (nI (sLen w))]) (r := 0) ⟨hx, hb, hml, hown, hts⟩ (c_coder l w h v S0.heap.size) (cwV 0 hts gJ0_length_8abf5_J0_coder_7d493 rfl rfl rfl (by decide +kernel) ⟨Nat.le_of_ble_eq_true rfl, Nat.le_of_ble_eq_true rfl⟩) rfl hl.1 rfl (Nat.le_of_ble_eq_true rfl) dJ0_length_8abf5_6 ⟨Nat.zero_le _, Nat.zero_le _⟩ hS hA (recvO h4 hS) PS_blind (PS.call hsz hPS hS (fun q h => h)) (fun H locs hS => ?_)
  refine lv_ishr hx hb dJ0_length_8abf5_9 ?_
  exact rs_g hx hb hr rfl hS (sb_shr0 _) hlocks dJ0_length_8abf5_10
theorem sLen_lt (w : Nat) : sLen w < 2 ^ 31 := by
  have h : ∀ x ∈ wSp, x.length < 10 := by decide +kernel
  unfold sLen
  rw [List.getD_eq_getElem?_getD]
  cases hw : wSp[w]? with
  | none => exact (by decide : (0 : Nat) < 2 ^ 31)
  | some x => have := h x (List.mem_of_getElem? hw); show x.length < 2 ^ 31; omega
set_option maxHeartbeats 4000000 in
set_option maxRecDepth 100000 in
theorem c_pcheck (l : Launch) (i n : Int32) (fv : Value) (hfc : fv.category = 1) (h0 : ¬ i < 0) (h1 : i < n) (sz : Nat) : Met l yJ3_checkIndex_8e157 wsJ3_checkIndex_8e157 ({ frames := 0, cells := 0, slots := 0, locals := 0 }) (va_Pc [.int i, .int n, fv] (fun U => U.heap.size = sz)) (va_Qi (fun (r0 : Int32) (_ : Unit) => r0 = i) (fun _ _ => True) (fun q => sz ≤ q)) 0 0 (fun q => sz ≤ q) := by
  refine Met.ofW (cc := cJ3_checkIndex_8e157) (maxL := 3) (ret := (some .int)) (by decide) rfl ?_
  intro PP EE S0 MM args below meth CC S1 B hml hv
  obtain ⟨rfl, hsz⟩ := hv
  have hx := B.exec
  have hb := B.bytes
  have hr := B.returns
  have hlocks := B.notSynchronized
  have hS : va_S (fun q => sz ≤ q) S0.heap S0.heap [] := va_S.rf
  have hlen : (lg_sl ([.int i, .int n, fv])).length ≤ 3 := by cases fv <;> first | exact Nat.le_of_ble_eq_true rfl | (exact absurd hfc (by simp [Value.category]))
  have hl := lv_entry ([.int i, .int n, fv]) (n := 3) hlen
  rw [lg_entry_eq]
  generalize (lg_sl ([.int i, .int n, fv]) ++ List.replicate (3 - (lg_sl ([.int i, .int n, fv])).length) Slot.unset).toArray = ls at hl ⊢
  have hl : lv_has ls 3 [(0, .int i), (1, .int n)] := ⟨hl.1, hl.2.1, fun q hq => hl.2.2 q (by
    rcases List.mem_cons.mp hq with h | h
    · subst h; exact List.mem_cons_self
    · rcases List.mem_cons.mp h with h | h
      · subst h; exact List.mem_cons_of_mem _ List.mem_cons_self
      · cases h)⟩
  refine lv_iload_n hx hb dJ3_checkIndex_8e157_0 rfl (lv_at hl 0 rfl) ?_
  refine lv_if_lt (tgt := 9) hx hb dJ3_checkIndex_8e157_1 (by decide) (fun c => absurd c h0) (fun c => ?_)
  refine lv_iload_n hx hb dJ3_checkIndex_8e157_4 rfl (lv_at hl 0 rfl) ?_
  refine lv_iload_n hx hb dJ3_checkIndex_8e157_5 rfl (lv_at hl 1 rfl) ?_
  refine lv_icmp_lt (tgt := 16) hx hb dJ3_checkIndex_8e157_6 (by decide) (fun c => ?_) (fun c => absurd h1 c)
  refine lv_iload_n hx hb dJ3_checkIndex_8e157_16 rfl (lv_at hl 0 rfl) ?_
  exact rs_g hx hb hr rfl hS rfl hlocks dJ3_checkIndex_8e157_17
set_option maxHeartbeats 4000000 in
set_option maxRecDepth 100000 in
theorem c_check (l : Launch) (w h v : Nat) (i n : Int32) (h0 : ¬ i < 0) (h1 : i < n) (sz : Nat) : Met l yJ0_checkIndex_df160 wsJ0_checkIndex_df160 ({ frames := 1, cells := 0, slots := 0, locals := 22 }) (va_Pc [.int i, .int n] (PS w h v sz)) (va_Qv (fun (_ : Unit) => True) (fun _ _ => True) (fun q => sz ≤ q)) 0 0 (fun q => sz ≤ q) := by
  refine Met.ofW (cc := cJ0_checkIndex_df160) (maxL := 2) (ret := none) (by decide) rfl ?_
  intro PP EE S0 MM args below meth CC S1 B hml hv
  obtain ⟨rfl, hPS⟩ := hv
  obtain ⟨hsz, h2, h3, h4, h5, h6, h7⟩ := id hPS
  have hx := B.exec
  have hb := B.bytes
  have hr := B.returns
  have hts := atoms_spec (ws := wsJ0_checkIndex_df160) B.pre
  have hown : S0.vm.findClass RJ0 = some MM.cls := findClass_of_methodNamed B.named
  have hlocks := B.notSynchronized
  have k0 := hts (.fieldLink RJ0 1053 "jdk/internal/util/Preconditions" "SIOOBE_FORMATTER" "Ljava/util/function/BiFunction;") (List.mem_of_getElem? (i := 1) rfl)
  have hS : va_S (fun q => sz ≤ q) S0.heap S0.heap [] := va_S.rf
  have hA : ∀ q : Nat, S0.heap.size ≤ q → (fun q => sz ≤ q) q := fun q h => by rw [← hsz]; exact h
  have hl := lv_entry ([.int i, .int n]) (n := 2) (Nat.le_of_ble_eq_true rfl)
  rw [lg_entry_eq]
  generalize (lg_sl ([.int i, .int n]) ++ List.replicate (2 - (lg_sl ([.int i, .int n])).length) Slot.unset).toArray = ls at hl ⊢
  have hl : lv_has ls 2 [(0, .int i), (1, .int n)] := hl
  have key : ∀ fv : Value, fv.category = 1 → va_Z "jdk/internal/util/Preconditions" "SIOOBE_FORMATTER" "Ljava/util/function/BiFunction;" fv (fun q => sz ≤ q) S0 S0.heap → W PP l EE (headSpec wsJ0_checkIndex_df160 ({ frames := 1, cells := 0, slots := 0, locals := 22 })).room S0 MM (#[.int i, .int n] : Array Value) below meth CC S0.heap [] 0 0 (MQ below (va_Qv (fun (_ : Unit) => True) (fun _ _ => True) (fun q => sz ≤ q)) (#[.int i, .int n] : Array Value) S0 0 0 (fun q => sz ≤ q)) (F0 MM 0 ls []) := by
    intro fv hfc hz
    refine lv_iload_n hx hb dJ0_checkIndex_df160_0 rfl (lv_at hl 0 rfl) ?_
    refine lv_iload_n hx hb dJ0_checkIndex_df160_1 rfl (lv_at hl 1 rfl) ?_
    refine va_gets hx hb hz hS hown k0 (fun _ h9 => h9) dJ0_checkIndex_df160_2 ?_
    refine ks_i (As := [.int i, .int n, fv]) (rest := []) (r := i) ⟨hx, hb, hml, hown, hts⟩ (c_pcheck l i n fv hfc h0 h1 S0.heap.size) (va_cwS 3 hts gJ0_checkIndex_df160_J3_checkIndex_8e157 rfl rfl rfl (by decide +kernel) ⟨Nat.le_of_ble_eq_true rfl, Nat.le_of_ble_eq_true rfl⟩) rfl hl.1 rfl (Nat.le_of_ble_eq_true rfl) dJ0_checkIndex_df160_5 ⟨Nat.zero_le _, Nat.zero_le _⟩ hS hA (fun _ _ _ _ h => h) (fun U hU _ => by rw [hU]) (fun H locs hS => ?_)
    refine lv_pop hx hb dJ0_checkIndex_df160_8 rfl ?_
    exact rs_v hx hb hr hS hlocks dJ0_checkIndex_df160_9
  rcases h3 with h3 | ⟨t, h3⟩
  · exact key .null rfl h3
  · exact key (.ref t) rfl h3
set_option maxHeartbeats 4000000 in
set_option maxRecDepth 100000 in
theorem c_latAt (l : Launch) (w h v : Nat) (sz : Nat) (i : Int32) (hi : ¬ (i < 0 ∨ sLen w ≤ i.toNatClampNeg)) (hn : i < nI (sLen w)) : Met l yJ1_charAt_3b067 wsJ1_charAt_3b067 ({ frames := 2, cells := 0, slots := 0, locals := 43 }) (va_Pc [.ref v, .int i] (PS w h v sz)) (va_Qi (fun (r0 : Int32) (_ : Unit) => r0 = sChr w i.toNatClampNeg) (fun _ _ => True) (fun q => sz ≤ q)) 0 0 (fun q => sz ≤ q) := by
  refine Met.ofW (cc := cJ1_charAt_3b067) (maxL := 2) (ret := (some .char)) (by decide) rfl ?_
  intro PP EE S0 MM args below meth CC S1 B hml hv
  obtain ⟨rfl, hPS⟩ := hv
  obtain ⟨hsz, h2, h3, h4, h5, h6, h7⟩ := id hPS
  have hx := B.exec
  have hb := B.bytes
  have hr := B.returns
  have hts := atoms_spec (ws := wsJ1_charAt_3b067) B.pre
  have hown : S0.vm.findClass RJ1 = some MM.cls := findClass_of_methodNamed B.named
  have hlocks := B.notSynchronized
  have hS : va_S (fun q => sz ≤ q) S0.heap S0.heap [] := va_S.rf
  have hA : ∀ q : Nat, S0.heap.size ≤ q → (fun q => sz ≤ q) q := fun q h => by rw [← hsz]; exact h
  have hl := lv_entry ([.ref v, .int i]) (n := 2) (Nat.le_of_ble_eq_true rfl)
  rw [lg_entry_eq]
  generalize (lg_sl ([.ref v, .int i]) ++ List.replicate (2 - (lg_sl ([.ref v, .int i])).length) Slot.unset).toArray = ls at hl ⊢
  have hl : lv_has ls 2 [(0, .ref v), (1, .int i)] := hl
  refine lv_iload_n hx hb dJ1_charAt_3b067_0 rfl (lv_at hl 1 rfl) ?_
  refine lv_aload_n hx hb dJ1_charAt_3b067_1 rfl (lv_at hl 0 rfl) ?_
  refine va_tlen hx hb h7 hS (v := nI (sLen w)) rfl dJ1_charAt_3b067_2 ?_
  refine ks_v (As := [.int i, .int (nI (sLen w))]) (rest := []) ⟨hx, hb, hml, hown, hts⟩ (c_check l w h v i (nI (sLen w)) (fun q => hi (Or.inl q)) hn S0.heap.size) (va_cwS 2 hts gJ1_charAt_3b067_J0_checkIndex_df160 rfl rfl rfl (by decide +kernel) ⟨Nat.le_of_ble_eq_true rfl, Nat.le_of_ble_eq_true rfl⟩) rfl hl.1 rfl (Nat.le_of_ble_eq_true rfl) dJ1_charAt_3b067_3 ⟨Nat.zero_le _, Nat.zero_le _⟩ hS hA PS_blind (PS.call hsz hPS hS (fun q h => h)) (fun H locs hS => ?_)
  refine lv_aload_n hx hb dJ1_charAt_3b067_6 rfl (lv_at hl 0 rfl) ?_
  refine lv_iload_n hx hb dJ1_charAt_3b067_7 rfl (lv_at hl 1 rfl) ?_
  refine va_tb hx hb h7 hS hi rfl dJ1_charAt_3b067_8 ?_
  refine lv_sipush (v := 255) hx hb dJ1_charAt_3b067_9 (by decide +kernel) ?_
  refine lv_iand hx hb dJ1_charAt_3b067_12 ?_
  refine lv_i2c hx hb dJ1_charAt_3b067_13 rfl ?_
  exact rs_g hx hb hr (pk_nc _) hS rfl hlocks dJ1_charAt_3b067_14
set_option maxHeartbeats 4000000 in
set_option maxRecDepth 100000 in
theorem c_charAt (l : Launch) (w h v : Nat) (sz : Nat) (i : Int32) (hi : ¬ (i < 0 ∨ sLen w ≤ i.toNatClampNeg)) : Met l yJ0_charAt_5068e wsJ0_charAt_5068e ({ frames := 3, cells := 0, slots := 0, locals := 64 }) (va_Pc [.ref h, .int i] (PS w h v sz)) (va_Qi (fun (r0 : Int32) (_ : Unit) => r0 = sChr w i.toNatClampNeg) (fun _ _ => True) (fun q => sz ≤ q)) 0 0 (fun q => sz ≤ q) := by
  have hsl := sLen_lt w
  have hn : i < nI (sLen w) := by
    obtain ⟨j, hj, hij⟩ := vp_in_of (show vp_in i (sLen w) from hi) hsl
    rw [hij]; exact nI_lt hj hsl
  refine Met.ofW (cc := cJ0_charAt_5068e) (maxL := 2) (ret := (some .char)) (by decide) rfl ?_
  intro PP EE S0 MM args below meth CC S1 B hml hv
  obtain ⟨rfl, hPS⟩ := hv
  obtain ⟨hsz, h2, h3, h4, h5, h6, h7⟩ := id hPS
  have hx := B.exec
  have hb := B.bytes
  have hr := B.returns
  have hts := atoms_spec (ws := wsJ0_charAt_5068e) B.pre
  have hown : S0.vm.findClass RJ0 = some MM.cls := findClass_of_methodNamed B.named
  have hlocks := B.notSynchronized
  have k0 := hts (.fieldLink RJ0 9 "java/lang/String" "value" "[B") (List.mem_of_getElem? (i := 1) rfl)
  have hS : va_S (fun q => sz ≤ q) S0.heap S0.heap [] := va_S.rf
  have hA : ∀ q : Nat, S0.heap.size ≤ q → (fun q => sz ≤ q) q := fun q h => by rw [← hsz]; exact h
  have hl := lv_entry ([.ref h, .int i]) (n := 2) (Nat.le_of_ble_eq_true rfl)
  rw [lg_entry_eq]
  generalize (lg_sl ([.ref h, .int i]) ++ List.replicate (2 - (lg_sl ([.ref h, .int i])).length) Slot.unset).toArray = ls at hl ⊢
  have hl : lv_has ls 2 [(0, .ref h), (1, .int i)] := hl
  refine lv_aload_n hx hb dJ0_charAt_5068e_0 rfl (lv_at hl 0 rfl) ?_
  refine ko_i (As := []) (rest := []) (r := 1) ⟨hx, hb, hml, hown, hts⟩ (c_isLatin1 l w h v S0.heap.size) (cwV 0 hts gJ0_charAt_5068e_J0_isLatin1_aae02 rfl rfl rfl (by decide +kernel) ⟨Nat.le_of_ble_eq_true rfl, Nat.le_of_ble_eq_true rfl⟩) rfl hl.1 rfl (Nat.le_of_ble_eq_true rfl) dJ0_charAt_5068e_1 ⟨Nat.zero_le _, Nat.zero_le _⟩ hS hA (recvO h4 hS) PS_blind (PS.call hsz hPS hS (fun q h => h)) (fun H locs hS => ?_)
  refine lv_if_eq (tgt := 16) hx hb dJ0_charAt_5068e_4 (by decide) (fun c => absurd c (by decide)) (fun c => ?_)
  refine lv_aload_n hx hb dJ0_charAt_5068e_7 rfl (lv_at hl 0 rfl) ?_
  refine vk_getf hx hb h6 hS hown k0 (fun _ h9 => h9) dJ0_charAt_5068e_8 ?_
  refine lv_iload_n hx hb dJ0_charAt_5068e_11 rfl (lv_at hl 1 rfl) ?_
  refine ks_i (As := [.ref v, .int i]) (rest := []) (r := sChr w i.toNatClampNeg) ⟨hx, hb, hml, hown, hts⟩ (c_latAt l w h v H.size i hi hn) (va_cwS 2 hts gJ0_charAt_5068e_J1_charAt_3b067 rfl rfl rfl (by decide +kernel) ⟨Nat.le_of_ble_eq_true rfl, Nat.le_of_ble_eq_true rfl⟩) rfl hl.1 rfl (Nat.le_of_ble_eq_true rfl) dJ0_charAt_5068e_12 ⟨Nat.zero_le _, Nat.zero_le _⟩ hS hA PS_blind (PS.call hsz hPS hS (fun q h => h)) (fun H locs hS => ?_)
  exact rs_g hx hb hr (by unfold sChr; exact pk_nc _) hS rfl hlocks dJ0_charAt_5068e_15
