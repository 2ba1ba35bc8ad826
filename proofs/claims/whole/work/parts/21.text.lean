set_option maxHeartbeats 4000000 in
set_option maxRecDepth 100000 in
theorem c_X9_add (l : Launch) (D : va_G) (cA : Nat → ClassId) (h : Nat) (a : Nat) (sz : Nat) (x1 : Int32) (t : tT) (u : Int32 × tT) (hE : f_X9_add x1 t = some u) : Met l yX9_add wsX9_add ({ frames := 0, cells := 0, slots := 0, locals := 0 }) (va_Pc [.ref h, .int x1] (PRE D cA (wT h a cA t) sz (fun _ => True))) (cQi D (wT h a cA u.2) (va_A (wT h a cA t) sz) u.1) 0 0 (va_A (wT h a cA t) sz) := by
  refine Met.ofW (cc := cX9_add) (maxL := 2) (ret := (some .boolean)) (by decide) rfl ?_
  intro PP EE S0 MM args below meth CC S1 B hml hv
  obtain ⟨rfl, hsz, hP, hK, hD0, hX⟩ := hv
  have hx := B.exec
  have hb := B.bytes
  have hr := B.returns
  have hts := atoms_spec (ws := wsX9_add) B.pre
  have hown : S0.vm.findClass RX9 = some MM.cls := findClass_of_methodNamed B.named
  have hlocks := B.notSynchronized
  subst hsz
  have hD := hD0.self (sz := S0.heap.size)
  generalize hAe : va_A (wT h a cA t) S0.heap.size = A at hD ⊢
  have hA : ∀ q : Nat, S0.heap.size ≤ q → A q := fun q h => by rw [← hAe]; exact Or.inr h
  have hS : va_S A S0.heap S0.heap [] := va_S.rf
  have k0 := hts (.fieldLink RX9 15 "WordForge$Text" "size" "I") (List.mem_of_getElem? (i := 1) rfl)
  have inX9 : ∀ w ∈ wsX90, w ∈ wsX9_add := fun _ h => List.mem_cons_of_mem _ (List.mem_append_right _ h)
  have k2 := hts (.fieldLink RX9 11 "WordForge$Text" "characters" "[C") (List.mem_of_getElem? (i := 2) rfl)
  have hl := lv_entry ([.ref h, .int x1]) (n := 2) (Nat.le_of_ble_eq_true rfl)
  rw [lg_entry_eq]
  generalize (lg_sl ([.ref h, .int x1]) ++ List.replicate (2 - (lg_sl ([.ref h, .int x1])).length) Slot.unset).toArray = ls at hl ⊢
  have hl : lv_has ls 2 [(0, .ref h), (1, .int x1)] := hl
  unfold f_X9_add at hE
  suffices main : ∀ (H : Heap) (locs : List Loc) (ls : Array Slot), va_P D vwCl (wT h a cA t) H → va_D A (wT h a cA t) → va_S A S0.heap H locs → lv_has ls 2 [(0, .ref h), (1, .int x1)] → W PP l EE (headSpec wsX9_add ({ frames := 0, cells := 0, slots := 0, locals := 0 })).room S0 MM (#[.ref h, .int x1] : Array Value) below meth CC H locs 0 0 (MQ below (cQi D (wT h a cA u.2) A u.1) (#[.ref h, .int x1] : Array Value) S0 0 0 A) (F0 MM 0 ls []) from main _ _ _ hP hD hS hl
  intro H locs ls hP hD hS hl
  refine lv_aload_n hx hb dX9_add_0 rfl (lv_at hl 0 rfl) ?_
  refine va_get (D := D) (ci := 8) (v := .int t.1) (C := RX9) (T := TX9) (N := 5) hx hb hts inX9 hown hK hP 0 rfl rfl 1 (by decide) k0 (fun _ h9 => h9) rfl dX9_add_1 ?_
  refine lv_sipush (v := 200) hx hb dX9_add_4 (by decide +kernel) ?_
  refine lv_icmp_ne (tgt := 12) hx hb dX9_add_7 (by decide) (fun c1 => ?_) (fun c1 => ?_)
  · have hE := if_f c1 hE
    refine lv_aload_n hx hb dX9_add_12 rfl (lv_at hl 0 rfl) ?_
    refine va_get (D := D) (ci := 8) (v := .ref a) (C := RX9) (T := TX9) (N := 5) hx hb hts inX9 hown hK hP 0 rfl rfl 0 (by decide) k2 (fun _ h9 => h9) rfl dX9_add_13 ?_
    refine lv_aload_n hx hb dX9_add_16 rfl (lv_at hl 0 rfl) ?_
    refine va_get (D := D) (ci := 8) (v := .int t.1) (C := RX9) (T := TX9) (N := 5) hx hb hts inX9 hown hK hP 0 rfl rfl 1 (by decide) k0 (fun _ h9 => h9) rfl dX9_add_17 ?_
    refine lv_iload_n hx hb dX9_add_20 rfl (lv_at hl 1 rfl) ?_
    have ⟨c2, hE⟩ := ck_some hE
    refine va_cast hx hb hK hP hD hS 1 2 rfl rfl c2 dX9_add_21 (fun H locs hP hD hS => ?_)
    have hP : va_P D vwCl (wT h a cA ((t.1, t.2.1, t.2.2.1, t.2.2.2.1, upd t.2.2.2.2 t.1.toNatClampNeg (vp_nar .char x1)))) H := hP
    have hD : va_D A (wT h a cA ((t.1, t.2.1, t.2.2.1, t.2.2.2.1, upd t.2.2.2.2 t.1.toNatClampNeg (vp_nar .char x1)))) := hD
    refine lv_aload_n hx hb dX9_add_22 rfl (lv_at hl 0 rfl) ?_
    refine lv_dup hx hb dX9_add_23 rfl ?_
    refine va_get (D := D) (ci := 8) (v := .int t.1) (C := RX9) (T := TX9) (N := 5) hx hb hts inX9 hown hK hP 0 rfl rfl 1 (by decide) k0 (fun _ h9 => h9) rfl dX9_add_24 ?_
    refine lv_iconst (v := 1) hx hb dX9_add_27 (by decide +kernel) ?_
    refine lv_iadd hx hb dX9_add_28 ?_
    refine va_put (D := D) (ci := 8) (v := .int (t.1 + 1)) (ty := .int) (C := RX9) (T := TX9) (N := 5) hx hb hts inX9 tyX9 tyX9_ok nmX9 hown hK hP hD hS 0 rfl rfl 1 (by decide) k0 (fun _ h9 => h9) rfl (by decide +kernel) rfl rfl (Nat.le_of_ble_eq_true rfl) dX9_add_29 (fun H locs hP hD hS => ?_)
    have hP : va_P D vwCl (wT h a cA ((t.1 + 1, t.2.1, t.2.2.1, t.2.2.2.1, upd t.2.2.2.2 t.1.toNatClampNeg (vp_nar .char x1)))) H := hP
    have hD : va_D A (wT h a cA ((t.1 + 1, t.2.1, t.2.2.1, t.2.2.2.1, upd t.2.2.2.2 t.1.toNatClampNeg (vp_nar .char x1)))) := hD
    refine lv_iconst (v := 1) hx hb dX9_add_32 (by decide +kernel) ?_
    obtain rfl := Option.some.inj hE
    exact rt_n hx hb hr (by decide +kernel) hP hS rfl hlocks dX9_add_33
  · have hE := if_t c1 hE
    refine lv_iconst (v := 0) hx hb dX9_add_10 (by decide +kernel) ?_
    obtain rfl := Option.some.inj hE
    exact rt_n hx hb hr (by decide +kernel) hP hS rfl hlocks dX9_add_11
set_option maxHeartbeats 4000000 in
set_option maxRecDepth 100000 in
theorem c_X9_clear (l : Launch) (D : va_G) (cA : Nat → ClassId) (h : Nat) (a : Nat) (sz : Nat) (t : tT) (u : tT) (hE : f_X9_clear t = some u) : Met l yX9_clear wsX9_clear ({ frames := 0, cells := 0, slots := 0, locals := 0 }) (va_Pc [.ref h] (PRE D cA (wT h a cA t) sz (fun _ => True))) (cQv D (wT h a cA u) (va_A (wT h a cA t) sz)) 0 0 (va_A (wT h a cA t) sz) := by
  refine Met.ofW (cc := cX9_clear) (maxL := 1) (ret := none) (by decide) rfl ?_
  intro PP EE S0 MM args below meth CC S1 B hml hv
  obtain ⟨rfl, hsz, hP, hK, hD0, hX⟩ := hv
  have hx := B.exec
  have hb := B.bytes
  have hr := B.returns
  have hts := atoms_spec (ws := wsX9_clear) B.pre
  have hown : S0.vm.findClass RX9 = some MM.cls := findClass_of_methodNamed B.named
  have hlocks := B.notSynchronized
  subst hsz
  have hD := hD0.self (sz := S0.heap.size)
  generalize hAe : va_A (wT h a cA t) S0.heap.size = A at hD ⊢
  have hA : ∀ q : Nat, S0.heap.size ≤ q → A q := fun q h => by rw [← hAe]; exact Or.inr h
  have hS : va_S A S0.heap S0.heap [] := va_S.rf
  have k0 := hts (.fieldLink RX9 15 "WordForge$Text" "size" "I") (List.mem_of_getElem? (i := 1) rfl)
  have inX9 : ∀ w ∈ wsX90, w ∈ wsX9_clear := fun _ h => List.mem_cons_of_mem _ (List.mem_append_right _ h)
  have k2 := hts (.fieldLink RX9 19 "WordForge$Text" "at" "I") (List.mem_of_getElem? (i := 2) rfl)
  have hl := lv_entry ([.ref h]) (n := 1) (Nat.le_of_ble_eq_true rfl)
  rw [lg_entry_eq]
  generalize (lg_sl ([.ref h]) ++ List.replicate (1 - (lg_sl ([.ref h])).length) Slot.unset).toArray = ls at hl ⊢
  have hl : lv_has ls 1 [(0, .ref h)] := hl
  unfold f_X9_clear at hE
  suffices main : ∀ (H : Heap) (locs : List Loc) (ls : Array Slot), va_P D vwCl (wT h a cA t) H → va_D A (wT h a cA t) → va_S A S0.heap H locs → lv_has ls 1 [(0, .ref h)] → W PP l EE (headSpec wsX9_clear ({ frames := 0, cells := 0, slots := 0, locals := 0 })).room S0 MM (#[.ref h] : Array Value) below meth CC H locs 0 0 (MQ below (cQv D (wT h a cA u) A) (#[.ref h] : Array Value) S0 0 0 A) (F0 MM 0 ls []) from main _ _ _ hP hD hS hl
  intro H locs ls hP hD hS hl
  refine lv_aload_n hx hb dX9_clear_0 rfl (lv_at hl 0 rfl) ?_
  refine lv_iconst (v := 0) hx hb dX9_clear_1 (by decide +kernel) ?_
  refine va_put (D := D) (ci := 8) (v := .int 0) (ty := .int) (C := RX9) (T := TX9) (N := 5) hx hb hts inX9 tyX9 tyX9_ok nmX9 hown hK hP hD hS 0 rfl rfl 1 (by decide) k0 (fun _ h9 => h9) rfl (by decide +kernel) rfl rfl (Nat.le_of_ble_eq_true rfl) dX9_clear_2 (fun H locs hP hD hS => ?_)
  have hP : va_P D vwCl (wT h a cA ((0, t.2.1, t.2.2.1, t.2.2.2.1, t.2.2.2.2))) H := hP
  have hD : va_D A (wT h a cA ((0, t.2.1, t.2.2.1, t.2.2.2.1, t.2.2.2.2))) := hD
  refine lv_aload_n hx hb dX9_clear_5 rfl (lv_at hl 0 rfl) ?_
  refine lv_iconst (v := 0) hx hb dX9_clear_6 (by decide +kernel) ?_
  refine va_put (D := D) (ci := 8) (v := .int 0) (ty := .int) (C := RX9) (T := TX9) (N := 5) hx hb hts inX9 tyX9 tyX9_ok nmX9 hown hK hP hD hS 0 rfl rfl 2 (by decide) k2 (fun _ h9 => h9) rfl (by decide +kernel) rfl rfl (Nat.le_of_ble_eq_true rfl) dX9_clear_7 (fun H locs hP hD hS => ?_)
  have hP : va_P D vwCl (wT h a cA ((0, 0, t.2.2.1, t.2.2.2.1, t.2.2.2.2))) H := hP
  have hD : va_D A (wT h a cA ((0, 0, t.2.2.1, t.2.2.2.1, t.2.2.2.2))) := hD
  obtain rfl := Option.some.inj hE
  exact rt_v hx hb hr hP hS hlocks dX9_clear_10
set_option maxHeartbeats 4000000 in
set_option maxRecDepth 100000 in
theorem c_X9_isBlankAt (l : Launch) (D : va_G) (cA : Nat → ClassId) (h : Nat) (a : Nat) (sz : Nat) (x1 : Int32) (t : tT) (u : Int32) (hE : f_X9_isBlankAt x1 t = some u) : Met l yX9_isBlankAt wsX9_isBlankAt ({ frames := 0, cells := 0, slots := 0, locals := 0 }) (va_Pc [.ref h, .int x1] (PRE D cA (wT h a cA t) sz (fun _ => True))) (cQi D (wT h a cA t) (va_A (wT h a cA t) sz) u) 0 0 (va_A (wT h a cA t) sz) := by
  refine Met.ofW (cc := cX9_isBlankAt) (maxL := 2) (ret := (some .boolean)) (by decide) rfl ?_
  intro PP EE S0 MM args below meth CC S1 B hml hv
  obtain ⟨rfl, hsz, hP, hK, hD0, hX⟩ := hv
  have hx := B.exec
  have hb := B.bytes
  have hr := B.returns
  have hts := atoms_spec (ws := wsX9_isBlankAt) B.pre
  have hown : S0.vm.findClass RX9 = some MM.cls := findClass_of_methodNamed B.named
  have hlocks := B.notSynchronized
  subst hsz
  have hD := hD0.self (sz := S0.heap.size)
  generalize hAe : va_A (wT h a cA t) S0.heap.size = A at hD ⊢
  have hA : ∀ q : Nat, S0.heap.size ≤ q → A q := fun q h => by rw [← hAe]; exact Or.inr h
  have hS : va_S A S0.heap S0.heap [] := va_S.rf
  have k0 := hts (.fieldLink RX9 11 "WordForge$Text" "characters" "[C") (List.mem_of_getElem? (i := 1) rfl)
  have inX9 : ∀ w ∈ wsX90, w ∈ wsX9_isBlankAt := fun _ h => List.mem_cons_of_mem _ (List.mem_append_right _ h)
  have hl := lv_entry ([.ref h, .int x1]) (n := 2) (Nat.le_of_ble_eq_true rfl)
  rw [lg_entry_eq]
  generalize (lg_sl ([.ref h, .int x1]) ++ List.replicate (2 - (lg_sl ([.ref h, .int x1])).length) Slot.unset).toArray = ls at hl ⊢
  have hl : lv_has ls 2 [(0, .ref h), (1, .int x1)] := hl
  have w22 : ∀ (t : tT) (H : Heap) (locs : List Loc) (ls : Array Slot), va_P D vwCl (wT h a cA t) H → va_D A (wT h a cA t) → va_S A S0.heap H locs → lv_has ls 2 [] → b_X9_isBlankAt_22  t = some u → W PP l EE (headSpec wsX9_isBlankAt ({ frames := 0, cells := 0, slots := 0, locals := 0 })).room S0 MM (#[.ref h, .int x1] : Array Value) below meth CC H locs 0 0 (MQ below (cQi D (wT h a cA t) A u) (#[.ref h, .int x1] : Array Value) S0 0 0 A) (F0 MM 22 ls []) := by
    intro t
    intro H locs ls hP hD hS hl hE
    unfold b_X9_isBlankAt_22 at hE
    refine lv_iconst (v := 1) hx hb dX9_isBlankAt_22 (by decide +kernel) ?_
    refine lv_goto (tgt := 27) hx hb dX9_isBlankAt_23 (by decide) ?_
    obtain rfl := Option.some.inj hE
    exact rt_n hx hb hr (by decide +kernel) hP hS rfl hlocks dX9_isBlankAt_27
  unfold f_X9_isBlankAt at hE
  suffices main : ∀ (H : Heap) (locs : List Loc) (ls : Array Slot), va_P D vwCl (wT h a cA t) H → va_D A (wT h a cA t) → va_S A S0.heap H locs → lv_has ls 2 [(0, .ref h), (1, .int x1)] → W PP l EE (headSpec wsX9_isBlankAt ({ frames := 0, cells := 0, slots := 0, locals := 0 })).room S0 MM (#[.ref h, .int x1] : Array Value) below meth CC H locs 0 0 (MQ below (cQi D (wT h a cA t) A u) (#[.ref h, .int x1] : Array Value) S0 0 0 A) (F0 MM 0 ls []) from main _ _ _ hP hD hS hl
  intro H locs ls hP hD hS hl
  refine lv_aload_n hx hb dX9_isBlankAt_0 rfl (lv_at hl 0 rfl) ?_
  refine va_get (D := D) (ci := 8) (v := .ref a) (C := RX9) (T := TX9) (N := 5) hx hb hts inX9 hown hK hP 0 rfl rfl 0 (by decide) k0 (fun _ h9 => h9) rfl dX9_isBlankAt_1 ?_
  refine lv_iload_n hx hb dX9_isBlankAt_4 rfl (lv_at hl 1 rfl) ?_
  have ⟨c1, hE⟩ := ck_some hE
  refine va_cald hx hb hK hP 1 2 rfl rfl c1 dX9_isBlankAt_5 ?_
  refine lv_bipush (v := 32) hx hb dX9_isBlankAt_6 (by decide +kernel) ?_
  refine lv_icmp_eq (tgt := 22) hx hb dX9_isBlankAt_8 (by decide) (fun c2 => ?_) (fun c2 => ?_)
  · have hE := if_t c2 hE
    exact w22  t H locs ls hP hD hS (lv_sub hl [] rfl) hE
  · have hE := if_f c2 hE
    refine lv_aload_n hx hb dX9_isBlankAt_11 rfl (lv_at hl 0 rfl) ?_
    refine va_get (D := D) (ci := 8) (v := .ref a) (C := RX9) (T := TX9) (N := 5) hx hb hts inX9 hown hK hP 0 rfl rfl 0 (by decide) k0 (fun _ h9 => h9) rfl dX9_isBlankAt_12 ?_
    refine lv_iload_n hx hb dX9_isBlankAt_15 rfl (lv_at hl 1 rfl) ?_
    have ⟨c3, hE⟩ := ck_some hE
    refine va_cald hx hb hK hP 1 2 rfl rfl c3 dX9_isBlankAt_16 ?_
    refine lv_bipush (v := 10) hx hb dX9_isBlankAt_17 (by decide +kernel) ?_
    refine lv_icmp_ne (tgt := 26) hx hb dX9_isBlankAt_19 (by decide) (fun c4 => ?_) (fun c4 => ?_)
    · have hE := if_f c4 hE
      refine lv_iconst (v := 0) hx hb dX9_isBlankAt_26 (by decide +kernel) ?_
      obtain rfl := Option.some.inj hE
      exact rt_n hx hb hr (by decide +kernel) hP hS rfl hlocks dX9_isBlankAt_27
    · have hE := if_t c4 hE
      exact w22  t H locs ls hP hD hS (lv_sub hl [] rfl) hE
set_option maxRecDepth 20000 in
theorem hX9_takeName_X9_isBlankAt_22 : GoodIn wsX9_takeName (wsV RX9 22 RX9 yX9_isBlankAt wsX9_isBlankAt) := goodIn_r _ [5, 6, 7, 8, 9, 10, 11, 12, 13, 14, 15] rfl (by decide +kernel)
set_option maxHeartbeats 4000000 in
set_option maxRecDepth 100000 in
theorem c_X9_takeName (l : Launch) (D : va_G) (cA : Nat → ClassId) (h : Nat) (a : Nat) (sz : Nat) (t : tT) (u : Int32 × tT) (hE : f_X9_takeName t = some u) : Met l yX9_takeName wsX9_takeName ({ frames := 1, cells := 0, slots := 0, locals := 21 }) (va_Pc [.ref h] (PRE D cA (wT h a cA t) sz (fun _ => True))) (cQi D (wT h a cA u.2) (va_A (wT h a cA t) sz) u.1) 0 0 (va_A (wT h a cA t) sz) := by
  refine Met.ofW (cc := cX9_takeName) (maxL := 1) (ret := (some .boolean)) (by decide) rfl ?_
  intro PP EE S0 MM args below meth CC S1 B hml hv
  obtain ⟨rfl, hsz, hP, hK, hD0, hX⟩ := hv
  have hx := B.exec
  have hb := B.bytes
  have hr := B.returns
  have hts := atoms_spec (ws := wsX9_takeName) B.pre
  have hown : S0.vm.findClass RX9 = some MM.cls := findClass_of_methodNamed B.named
  have hlocks := B.notSynchronized
  subst hsz
  have hD := hD0.self (sz := S0.heap.size)
  generalize hAe : va_A (wT h a cA t) S0.heap.size = A at hD ⊢
  have hA : ∀ q : Nat, S0.heap.size ≤ q → A q := fun q h => by rw [← hAe]; exact Or.inr h
  have hS : va_S A S0.heap S0.heap [] := va_S.rf
  have k0 := hts (.fieldLink RX9 19 "WordForge$Text" "at" "I") (List.mem_of_getElem? (i := 1) rfl)
  have inX9 : ∀ w ∈ wsX90, w ∈ wsX9_takeName := fun _ h => List.mem_cons_of_mem _ (List.mem_append_right _ h)
  have k2 := hts (.fieldLink RX9 15 "WordForge$Text" "size" "I") (List.mem_of_getElem? (i := 2) rfl)
  have k3 := hts (.fieldLink RX9 26 "WordForge$Text" "nameStart" "I") (List.mem_of_getElem? (i := 3) rfl)
  have k4 := hts (.fieldLink RX9 29 "WordForge$Text" "nameLength" "I") (List.mem_of_getElem? (i := 4) rfl)
  have hl := lv_entry ([.ref h]) (n := 1) (Nat.le_of_ble_eq_true rfl)
  rw [lg_entry_eq]
  generalize (lg_sl ([.ref h]) ++ List.replicate (1 - (lg_sl ([.ref h])).length) Slot.unset).toArray = ls at hl ⊢
  have hl : lv_has ls 1 [(0, .ref h)] := hl
  have w112 : ∀ (t : tT) (H : Heap) (locs : List Loc) (ls : Array Slot), va_P D vwCl (wT h a cA t) H → va_D A (wT h a cA t) → va_S A S0.heap H locs → lv_has ls 1 [(0, .ref h)] → b_X9_takeName_112  t = some u → W PP l EE (headSpec wsX9_takeName ({ frames := 1, cells := 0, slots := 0, locals := 21 })).room S0 MM (#[.ref h] : Array Value) below meth CC H locs 0 0 (MQ below (cQi D (wT h a cA u.2) A u.1) (#[.ref h] : Array Value) S0 0 0 A) (F0 MM 112 ls []) := by
    intro t
    intro H locs ls hP hD hS hl hE
    unfold b_X9_takeName_112 at hE
    refine lv_aload_n hx hb dX9_takeName_112 rfl (lv_at hl 0 rfl) ?_
    refine va_get (D := D) (ci := 8) (v := .int t.2.2.2.1) (C := RX9) (T := TX9) (N := 5) hx hb hts inX9 hown hK hP 0 rfl rfl 4 (by decide) k4 (fun _ h9 => h9) rfl dX9_takeName_113 ?_
    refine lv_if_le (tgt := 123) hx hb dX9_takeName_116 (by decide) (fun c10 => ?_) (fun c10 => ?_)
    · have hE := if_t c10 hE
      refine lv_iconst (v := 0) hx hb dX9_takeName_123 (by decide +kernel) ?_
      obtain rfl := Option.some.inj hE
      exact rt_n hx hb hr (by decide +kernel) hP hS rfl hlocks dX9_takeName_124
    · have hE := if_f c10 hE
      refine lv_iconst (v := 1) hx hb dX9_takeName_119 (by decide +kernel) ?_
      refine lv_goto (tgt := 124) hx hb dX9_takeName_120 (by decide) ?_
      obtain rfl := Option.some.inj hE
      exact rt_n hx hb hr (by decide +kernel) hP hS rfl hlocks dX9_takeName_124
  have w78 : ∀ (t : tT) (H : Heap) (locs : List Loc) (ls : Array Slot), va_P D vwCl (wT h a cA t) H → va_D A (wT h a cA t) → va_S A S0.heap H locs → lv_has ls 1 [(0, .ref h)] → b_X9_takeName_78  t = some u → W PP l EE (headSpec wsX9_takeName ({ frames := 1, cells := 0, slots := 0, locals := 21 })).room S0 MM (#[.ref h] : Array Value) below meth CC H locs 0 0 (MQ below (cQi D (wT h a cA u.2) A u.1) (#[.ref h] : Array Value) S0 0 0 A) (F0 MM 78 ls []) := by
    intro t
    intro H locs ls hP hD hS hl hE
    unfold b_X9_takeName_78 at hE
    refine lv_aload_n hx hb dX9_takeName_78 rfl (lv_at hl 0 rfl) ?_
    refine lv_aload_n hx hb dX9_takeName_79 rfl (lv_at hl 0 rfl) ?_
    refine va_get (D := D) (ci := 8) (v := .int t.2.1) (C := RX9) (T := TX9) (N := 5) hx hb hts inX9 hown hK hP 0 rfl rfl 2 (by decide) k0 (fun _ h9 => h9) rfl dX9_takeName_80 ?_
    refine lv_aload_n hx hb dX9_takeName_83 rfl (lv_at hl 0 rfl) ?_
    refine va_get (D := D) (ci := 8) (v := .int t.2.2.1) (C := RX9) (T := TX9) (N := 5) hx hb hts inX9 hown hK hP 0 rfl rfl 3 (by decide) k3 (fun _ h9 => h9) rfl dX9_takeName_84 ?_
    refine lv_isub hx hb dX9_takeName_87 ?_
    refine va_put (D := D) (ci := 8) (v := .int (t.2.1 - t.2.2.1)) (ty := .int) (C := RX9) (T := TX9) (N := 5) hx hb hts inX9 tyX9 tyX9_ok nmX9 hown hK hP hD hS 0 rfl rfl 4 (by decide) k4 (fun _ h9 => h9) rfl (by decide +kernel) rfl rfl (Nat.le_of_ble_eq_true rfl) dX9_takeName_88 (fun H locs hP hD hS => ?_)
    have hP : va_P D vwCl (wT h a cA ((t.1, t.2.1, t.2.2.1, t.2.1 - t.2.2.1, t.2.2.2.2))) H := hP
    have hD : va_D A (wT h a cA ((t.1, t.2.1, t.2.2.1, t.2.1 - t.2.2.1, t.2.2.2.2))) := hD
    refine lv_aload_n hx hb dX9_takeName_91 rfl (lv_at hl 0 rfl) ?_
    refine va_get (D := D) (ci := 8) (v := .int t.2.1) (C := RX9) (T := TX9) (N := 5) hx hb hts inX9 hown hK hP 0 rfl rfl 2 (by decide) k0 (fun _ h9 => h9) rfl dX9_takeName_92 ?_
    refine lv_aload_n hx hb dX9_takeName_95 rfl (lv_at hl 0 rfl) ?_
    refine va_get (D := D) (ci := 8) (v := .int t.1) (C := RX9) (T := TX9) (N := 5) hx hb hts inX9 hown hK hP 0 rfl rfl 1 (by decide) k2 (fun _ h9 => h9) rfl dX9_takeName_96 ?_
    refine lv_icmp_ge (tgt := 112) hx hb dX9_takeName_99 (by decide) (fun c9 => ?_) (fun c9 => ?_)
    · have hE := if_t c9 hE
      exact w112  ((t.1, t.2.1, t.2.2.1, t.2.1 - t.2.2.1, t.2.2.2.2)) H locs ls hP hD hS (lv_sub hl [0] rfl) hE
    · have hE := if_f c9 hE
      refine lv_aload_n hx hb dX9_takeName_102 rfl (lv_at hl 0 rfl) ?_
      refine lv_dup hx hb dX9_takeName_103 rfl ?_
      refine va_get (D := D) (ci := 8) (v := .int t.2.1) (C := RX9) (T := TX9) (N := 5) hx hb hts inX9 hown hK hP 0 rfl rfl 2 (by decide) k0 (fun _ h9 => h9) rfl dX9_takeName_104 ?_
      refine lv_iconst (v := 1) hx hb dX9_takeName_107 (by decide +kernel) ?_
      refine lv_iadd hx hb dX9_takeName_108 ?_
      refine va_put (D := D) (ci := 8) (v := .int (t.2.1 + 1)) (ty := .int) (C := RX9) (T := TX9) (N := 5) hx hb hts inX9 tyX9 tyX9_ok nmX9 hown hK hP hD hS 0 rfl rfl 2 (by decide) k0 (fun _ h9 => h9) rfl (by decide +kernel) rfl rfl (Nat.le_of_ble_eq_true rfl) dX9_takeName_109 (fun H locs hP hD hS => ?_)
      have hP : va_P D vwCl (wT h a cA ((t.1, t.2.1 + 1, t.2.2.1, t.2.1 - t.2.2.1, t.2.2.2.2))) H := hP
      have hD : va_D A (wT h a cA ((t.1, t.2.1 + 1, t.2.2.1, t.2.1 - t.2.2.1, t.2.2.2.2))) := hD
      exact w112  ((t.1, t.2.1 + 1, t.2.2.1, t.2.1 - t.2.2.1, t.2.2.2.2)) H locs ls hP hD hS (lv_sub hl [0] rfl) hE
  have w43 : ∀ (n : Nat), ∀ (t : tT) (H : Heap) (locs : List Loc) (ls : Array Slot), va_P D vwCl (wT h a cA t) H → va_D A (wT h a cA t) → va_S A S0.heap H locs → lv_has ls 1 [(0, .ref h)] → b_X9_takeName_43 n t = some u → W PP l EE (headSpec wsX9_takeName ({ frames := 1, cells := 0, slots := 0, locals := 21 })).room S0 MM (#[.ref h] : Array Value) below meth CC H locs 0 0 (MQ below (cQi D (wT h a cA u.2) A u.1) (#[.ref h] : Array Value) S0 0 0 A) (F0 MM 43 ls []) := by
    intro  n
    induction n with
    | zero => intros; rename_i hE; exact absurd hE (by simp [b_X9_takeName_43])
    | succ n ih43 =>
      intro t
      intro H locs ls hP hD hS hl hE
      unfold b_X9_takeName_43 at hE
      refine lv_aload_n hx hb dX9_takeName_43 rfl (lv_at hl 0 rfl) ?_
      refine va_get (D := D) (ci := 8) (v := .int t.2.1) (C := RX9) (T := TX9) (N := 5) hx hb hts inX9 hown hK hP 0 rfl rfl 2 (by decide) k0 (fun _ h9 => h9) rfl dX9_takeName_44 ?_
      refine lv_aload_n hx hb dX9_takeName_47 rfl (lv_at hl 0 rfl) ?_
      refine va_get (D := D) (ci := 8) (v := .int t.1) (C := RX9) (T := TX9) (N := 5) hx hb hts inX9 hown hK hP 0 rfl rfl 1 (by decide) k2 (fun _ h9 => h9) rfl dX9_takeName_48 ?_
      refine lv_icmp_ge (tgt := 78) hx hb dX9_takeName_51 (by decide) (fun c5 => ?_) (fun c5 => ?_)
      · have hE := if_t c5 hE
        exact w78  t H locs ls hP hD hS (lv_sub hl [0] rfl) hE
      · have hE := if_f c5 hE
        refine lv_aload_n hx hb dX9_takeName_54 rfl (lv_at hl 0 rfl) ?_
        refine lv_aload_n hx hb dX9_takeName_55 rfl (lv_at hl 0 rfl) ?_
        refine va_get (D := D) (ci := 8) (v := .int t.2.1) (C := RX9) (T := TX9) (N := 5) hx hb hts inX9 hown hK hP 0 rfl rfl 2 (by decide) k0 (fun _ h9 => h9) rfl dX9_takeName_56 ?_
        obtain ⟨u6, h7, hE⟩ := bd_some hE
        refine cw_i (As := [.int t.2.1]) (rest := []) (r := u6) (wc := (wT h a cA t)) ⟨hx, hb, hml, hown, hts⟩ (c_X9_isBlankAt l D cA h a H.size t.2.1 t u6 h7) (cwV 1 hts hX9_takeName_X9_isBlankAt_22 rfl rfl rfl (by decide +kernel) ⟨Nat.le_of_ble_eq_true rfl, Nat.le_of_ble_eq_true rfl⟩) rfl hl.1 rfl (Nat.le_of_ble_eq_true rfl) dX9_takeName_59 ⟨Nat.zero_le _, Nat.zero_le _⟩ hK hP hD hS hA (va_recv hK hP (ci := 8) (q0 := 0) rfl rfl) [h, a] rfl rfl (fun _ _ _ _ h => h) (fun _ _ _ => trivial) (fun H locs hP hD hS => ?_)
        have hP : va_P D vwCl (wT h a cA t) H := hP
        have hD : va_D A (wT h a cA t) := hD
        refine lv_if_ne (tgt := 78) hx hb dX9_takeName_62 (by decide) (fun c8 => ?_) (fun c8 => ?_)
        · have hE := if_f c8 hE
          exact w78  t H locs ls hP hD hS (lv_sub hl [0] rfl) hE
        · have hE := if_t c8 hE
          refine lv_aload_n hx hb dX9_takeName_65 rfl (lv_at hl 0 rfl) ?_
          refine lv_dup hx hb dX9_takeName_66 rfl ?_
          refine va_get (D := D) (ci := 8) (v := .int t.2.1) (C := RX9) (T := TX9) (N := 5) hx hb hts inX9 hown hK hP 0 rfl rfl 2 (by decide) k0 (fun _ h9 => h9) rfl dX9_takeName_67 ?_
          refine lv_iconst (v := 1) hx hb dX9_takeName_70 (by decide +kernel) ?_
          refine lv_iadd hx hb dX9_takeName_71 ?_
          refine va_put (D := D) (ci := 8) (v := .int (t.2.1 + 1)) (ty := .int) (C := RX9) (T := TX9) (N := 5) hx hb hts inX9 tyX9 tyX9_ok nmX9 hown hK hP hD hS 0 rfl rfl 2 (by decide) k0 (fun _ h9 => h9) rfl (by decide +kernel) rfl rfl (Nat.le_of_ble_eq_true rfl) dX9_takeName_72 (fun H locs hP hD hS => ?_)
          have hP : va_P D vwCl (wT h a cA ((t.1, t.2.1 + 1, t.2.2.1, t.2.2.2.1, t.2.2.2.2))) H := hP
          have hD : va_D A (wT h a cA ((t.1, t.2.1 + 1, t.2.2.1, t.2.2.2.1, t.2.2.2.2))) := hD
          refine lv_goto (tgt := 43) hx hb dX9_takeName_75 (by decide) ?_
          exact ih43 ((t.1, t.2.1 + 1, t.2.2.1, t.2.2.2.1, t.2.2.2.2)) H locs ls hP hD hS (lv_sub hl [0] rfl) hE
  have w35 : ∀ (t : tT) (H : Heap) (locs : List Loc) (ls : Array Slot), va_P D vwCl (wT h a cA t) H → va_D A (wT h a cA t) → va_S A S0.heap H locs → lv_has ls 1 [(0, .ref h)] → b_X9_takeName_35  t = some u → W PP l EE (headSpec wsX9_takeName ({ frames := 1, cells := 0, slots := 0, locals := 21 })).room S0 MM (#[.ref h] : Array Value) below meth CC H locs 0 0 (MQ below (cQi D (wT h a cA u.2) A u.1) (#[.ref h] : Array Value) S0 0 0 A) (F0 MM 35 ls []) := by
    intro t
    intro H locs ls hP hD hS hl hE
    unfold b_X9_takeName_35 at hE
    refine lv_aload_n hx hb dX9_takeName_35 rfl (lv_at hl 0 rfl) ?_
    refine lv_aload_n hx hb dX9_takeName_36 rfl (lv_at hl 0 rfl) ?_
    refine va_get (D := D) (ci := 8) (v := .int t.2.1) (C := RX9) (T := TX9) (N := 5) hx hb hts inX9 hown hK hP 0 rfl rfl 2 (by decide) k0 (fun _ h9 => h9) rfl dX9_takeName_37 ?_
    refine va_put (D := D) (ci := 8) (v := .int t.2.1) (ty := .int) (C := RX9) (T := TX9) (N := 5) hx hb hts inX9 tyX9 tyX9_ok nmX9 hown hK hP hD hS 0 rfl rfl 3 (by decide) k3 (fun _ h9 => h9) rfl (by decide +kernel) rfl rfl (Nat.le_of_ble_eq_true rfl) dX9_takeName_40 (fun H locs hP hD hS => ?_)
    have hP : va_P D vwCl (wT h a cA ((t.1, t.2.1, t.2.1, t.2.2.2.1, t.2.2.2.2))) H := hP
    have hD : va_D A (wT h a cA ((t.1, t.2.1, t.2.1, t.2.2.2.1, t.2.2.2.2))) := hD
    exact w43 FU ((t.1, t.2.1, t.2.1, t.2.2.2.1, t.2.2.2.2)) H locs ls hP hD hS (lv_sub hl [0] rfl) hE
  have w0 : ∀ (n : Nat), ∀ (t : tT) (H : Heap) (locs : List Loc) (ls : Array Slot), va_P D vwCl (wT h a cA t) H → va_D A (wT h a cA t) → va_S A S0.heap H locs → lv_has ls 1 [(0, .ref h)] → b_X9_takeName_0 n t = some u → W PP l EE (headSpec wsX9_takeName ({ frames := 1, cells := 0, slots := 0, locals := 21 })).room S0 MM (#[.ref h] : Array Value) below meth CC H locs 0 0 (MQ below (cQi D (wT h a cA u.2) A u.1) (#[.ref h] : Array Value) S0 0 0 A) (F0 MM 0 ls []) := by
    intro  n
    induction n with
    | zero => intros; rename_i hE; exact absurd hE (by simp [b_X9_takeName_0])
    | succ n ih0 =>
      intro t
      intro H locs ls hP hD hS hl hE
      unfold b_X9_takeName_0 at hE
      refine lv_aload_n hx hb dX9_takeName_0 rfl (lv_at hl 0 rfl) ?_
      refine va_get (D := D) (ci := 8) (v := .int t.2.1) (C := RX9) (T := TX9) (N := 5) hx hb hts inX9 hown hK hP 0 rfl rfl 2 (by decide) k0 (fun _ h9 => h9) rfl dX9_takeName_1 ?_
      refine lv_aload_n hx hb dX9_takeName_4 rfl (lv_at hl 0 rfl) ?_
      refine va_get (D := D) (ci := 8) (v := .int t.1) (C := RX9) (T := TX9) (N := 5) hx hb hts inX9 hown hK hP 0 rfl rfl 1 (by decide) k2 (fun _ h9 => h9) rfl dX9_takeName_5 ?_
      refine lv_icmp_ge (tgt := 35) hx hb dX9_takeName_8 (by decide) (fun c1 => ?_) (fun c1 => ?_)
      · have hE := if_t c1 hE
        exact w35  t H locs ls hP hD hS (lv_sub hl [0] rfl) hE
      · have hE := if_f c1 hE
        refine lv_aload_n hx hb dX9_takeName_11 rfl (lv_at hl 0 rfl) ?_
        refine lv_aload_n hx hb dX9_takeName_12 rfl (lv_at hl 0 rfl) ?_
        refine va_get (D := D) (ci := 8) (v := .int t.2.1) (C := RX9) (T := TX9) (N := 5) hx hb hts inX9 hown hK hP 0 rfl rfl 2 (by decide) k0 (fun _ h9 => h9) rfl dX9_takeName_13 ?_
        obtain ⟨u2, h3, hE⟩ := bd_some hE
        refine cw_i (As := [.int t.2.1]) (rest := []) (r := u2) (wc := (wT h a cA t)) ⟨hx, hb, hml, hown, hts⟩ (c_X9_isBlankAt l D cA h a H.size t.2.1 t u2 h3) (cwV 1 hts hX9_takeName_X9_isBlankAt_22 rfl rfl rfl (by decide +kernel) ⟨Nat.le_of_ble_eq_true rfl, Nat.le_of_ble_eq_true rfl⟩) rfl hl.1 rfl (Nat.le_of_ble_eq_true rfl) dX9_takeName_16 ⟨Nat.zero_le _, Nat.zero_le _⟩ hK hP hD hS hA (va_recv hK hP (ci := 8) (q0 := 0) rfl rfl) [h, a] rfl rfl (fun _ _ _ _ h => h) (fun _ _ _ => trivial) (fun H locs hP hD hS => ?_)
        have hP : va_P D vwCl (wT h a cA t) H := hP
        have hD : va_D A (wT h a cA t) := hD
        refine lv_if_eq (tgt := 35) hx hb dX9_takeName_19 (by decide) (fun c4 => ?_) (fun c4 => ?_)
        · have hE := if_t c4 hE
          exact w35  t H locs ls hP hD hS (lv_sub hl [0] rfl) hE
        · have hE := if_f c4 hE
          refine lv_aload_n hx hb dX9_takeName_22 rfl (lv_at hl 0 rfl) ?_
          refine lv_dup hx hb dX9_takeName_23 rfl ?_
          refine va_get (D := D) (ci := 8) (v := .int t.2.1) (C := RX9) (T := TX9) (N := 5) hx hb hts inX9 hown hK hP 0 rfl rfl 2 (by decide) k0 (fun _ h9 => h9) rfl dX9_takeName_24 ?_
          refine lv_iconst (v := 1) hx hb dX9_takeName_27 (by decide +kernel) ?_
          refine lv_iadd hx hb dX9_takeName_28 ?_
          refine va_put (D := D) (ci := 8) (v := .int (t.2.1 + 1)) (ty := .int) (C := RX9) (T := TX9) (N := 5) hx hb hts inX9 tyX9 tyX9_ok nmX9 hown hK hP hD hS 0 rfl rfl 2 (by decide) k0 (fun _ h9 => h9) rfl (by decide +kernel) rfl rfl (Nat.le_of_ble_eq_true rfl) dX9_takeName_29 (fun H locs hP hD hS => ?_)
          have hP : va_P D vwCl (wT h a cA ((t.1, t.2.1 + 1, t.2.2.1, t.2.2.2.1, t.2.2.2.2))) H := hP
          have hD : va_D A (wT h a cA ((t.1, t.2.1 + 1, t.2.2.1, t.2.2.2.1, t.2.2.2.2))) := hD
          refine lv_goto (tgt := 0) hx hb dX9_takeName_32 (by decide) ?_
          exact ih0 ((t.1, t.2.1 + 1, t.2.2.1, t.2.2.2.1, t.2.2.2.2)) H locs ls hP hD hS (lv_sub hl [0] rfl) hE
  unfold f_X9_takeName at hE
  suffices main : ∀ (H : Heap) (locs : List Loc) (ls : Array Slot), va_P D vwCl (wT h a cA t) H → va_D A (wT h a cA t) → va_S A S0.heap H locs → lv_has ls 1 [(0, .ref h)] → W PP l EE (headSpec wsX9_takeName ({ frames := 1, cells := 0, slots := 0, locals := 21 })).room S0 MM (#[.ref h] : Array Value) below meth CC H locs 0 0 (MQ below (cQi D (wT h a cA u.2) A u.1) (#[.ref h] : Array Value) S0 0 0 A) (F0 MM 0 ls []) from main _ _ _ hP hD hS hl
  intro H locs ls hP hD hS hl
  exact w0 FU t H locs ls hP hD hS (lv_sub hl [0] rfl) hE
set_option maxHeartbeats 4000000 in
set_option maxRecDepth 100000 in
theorem c_X9_nameIsTooLong (l : Launch) (D : va_G) (cA : Nat → ClassId) (h : Nat) (a : Nat) (sz : Nat) (t : tT) (u : Int32) (hE : f_X9_nameIsTooLong t = some u) : Met l yX9_nameIsTooLong wsX9_nameIsTooLong ({ frames := 0, cells := 0, slots := 0, locals := 0 }) (va_Pc [.ref h] (PRE D cA (wT h a cA t) sz (fun _ => True))) (cQi D (wT h a cA t) (va_A (wT h a cA t) sz) u) 0 0 (va_A (wT h a cA t) sz) := by
  refine Met.ofW (cc := cX9_nameIsTooLong) (maxL := 1) (ret := (some .boolean)) (by decide) rfl ?_
  intro PP EE S0 MM args below meth CC S1 B hml hv
  obtain ⟨rfl, hsz, hP, hK, hD0, hX⟩ := hv
  have hx := B.exec
  have hb := B.bytes
  have hr := B.returns
  have hts := atoms_spec (ws := wsX9_nameIsTooLong) B.pre
  have hown : S0.vm.findClass RX9 = some MM.cls := findClass_of_methodNamed B.named
  have hlocks := B.notSynchronized
  subst hsz
  have hD := hD0.self (sz := S0.heap.size)
  generalize hAe : va_A (wT h a cA t) S0.heap.size = A at hD ⊢
  have hA : ∀ q : Nat, S0.heap.size ≤ q → A q := fun q h => by rw [← hAe]; exact Or.inr h
  have hS : va_S A S0.heap S0.heap [] := va_S.rf
  have k0 := hts (.fieldLink RX9 29 "WordForge$Text" "nameLength" "I") (List.mem_of_getElem? (i := 1) rfl)
  have inX9 : ∀ w ∈ wsX90, w ∈ wsX9_nameIsTooLong := fun _ h => List.mem_cons_of_mem _ (List.mem_append_right _ h)
  have hl := lv_entry ([.ref h]) (n := 1) (Nat.le_of_ble_eq_true rfl)
  rw [lg_entry_eq]
  generalize (lg_sl ([.ref h]) ++ List.replicate (1 - (lg_sl ([.ref h])).length) Slot.unset).toArray = ls at hl ⊢
  have hl : lv_has ls 1 [(0, .ref h)] := hl
  unfold f_X9_nameIsTooLong at hE
  suffices main : ∀ (H : Heap) (locs : List Loc) (ls : Array Slot), va_P D vwCl (wT h a cA t) H → va_D A (wT h a cA t) → va_S A S0.heap H locs → lv_has ls 1 [(0, .ref h)] → W PP l EE (headSpec wsX9_nameIsTooLong ({ frames := 0, cells := 0, slots := 0, locals := 0 })).room S0 MM (#[.ref h] : Array Value) below meth CC H locs 0 0 (MQ below (cQi D (wT h a cA t) A u) (#[.ref h] : Array Value) S0 0 0 A) (F0 MM 0 ls []) from main _ _ _ hP hD hS hl
  intro H locs ls hP hD hS hl
  refine lv_aload_n hx hb dX9_nameIsTooLong_0 rfl (lv_at hl 0 rfl) ?_
  refine va_get (D := D) (ci := 8) (v := .int t.2.2.2.1) (C := RX9) (T := TX9) (N := 5) hx hb hts inX9 hown hK hP 0 rfl rfl 4 (by decide) k0 (fun _ h9 => h9) rfl dX9_nameIsTooLong_1 ?_
  refine lv_bipush (v := 9) hx hb dX9_nameIsTooLong_4 (by decide +kernel) ?_
  refine lv_icmp_le (tgt := 13) hx hb dX9_nameIsTooLong_6 (by decide) (fun c1 => ?_) (fun c1 => ?_)
  · have hE := if_t c1 hE
    refine lv_iconst (v := 0) hx hb dX9_nameIsTooLong_13 (by decide +kernel) ?_
    obtain rfl := Option.some.inj hE
    exact rt_n hx hb hr (by decide +kernel) hP hS rfl hlocks dX9_nameIsTooLong_14
  · have hE := if_f c1 hE
    refine lv_iconst (v := 1) hx hb dX9_nameIsTooLong_9 (by decide +kernel) ?_
    refine lv_goto (tgt := 14) hx hb dX9_nameIsTooLong_10 (by decide) ?_
    obtain rfl := Option.some.inj hE
    exact rt_n hx hb hr (by decide +kernel) hP hS rfl hlocks dX9_nameIsTooLong_14
set_option maxRecDepth 20000 in
theorem hX9_parseName_X9_takeName_32 : GoodIn wsX9_parseName (wsV RX9 32 RX9 yX9_takeName wsX9_takeName) := goodIn_r _ [1, 2, 3, 4, 5, 6, 7, 8, 9, 10, 11, 12, 4, 13, 14, 19, 20, 21, 22, 23] rfl (by decide +kernel)
set_option maxRecDepth 20000 in
theorem hX9_parseName_X9_nameIsTooLong_36 : GoodIn wsX9_parseName (wsV RX9 36 RX9 yX9_nameIsTooLong wsX9_nameIsTooLong) := goodIn_r _ [15, 16, 17, 4, 18, 9, 19, 20, 21, 22, 23] rfl (by decide +kernel)
set_option maxHeartbeats 4000000 in
set_option maxRecDepth 100000 in
theorem c_X9_parseName (l : Launch) (D : va_G) (cA : Nat → ClassId) (h : Nat) (a : Nat) (sz : Nat) (t : tT) (u : Int32 × tT) (hE : f_X9_parseName t = some u) : Met l yX9_parseName wsX9_parseName ({ frames := 2, cells := 0, slots := 0, locals := 41 }) (va_Pc [.ref h] (PRE D cA (wT h a cA t) sz (fun _ => True))) (cQi D (wT h a cA u.2) (va_A (wT h a cA t) sz) u.1) 0 0 (va_A (wT h a cA t) sz) := by
  refine Met.ofW (cc := cX9_parseName) (maxL := 1) (ret := (some .int)) (by decide) rfl ?_
  intro PP EE S0 MM args below meth CC S1 B hml hv
  obtain ⟨rfl, hsz, hP, hK, hD0, hX⟩ := hv
  have hx := B.exec
  have hb := B.bytes
  have hr := B.returns
  have hts := atoms_spec (ws := wsX9_parseName) B.pre
  have hown : S0.vm.findClass RX9 = some MM.cls := findClass_of_methodNamed B.named
  have hlocks := B.notSynchronized
  subst hsz
  have hD := hD0.self (sz := S0.heap.size)
  generalize hAe : va_A (wT h a cA t) S0.heap.size = A at hD ⊢
  have hA : ∀ q : Nat, S0.heap.size ≤ q → A q := fun q h => by rw [← hAe]; exact Or.inr h
  have hS : va_S A S0.heap S0.heap [] := va_S.rf
  have hl := lv_entry ([.ref h]) (n := 1) (Nat.le_of_ble_eq_true rfl)
  rw [lg_entry_eq]
  generalize (lg_sl ([.ref h]) ++ List.replicate (1 - (lg_sl ([.ref h])).length) Slot.unset).toArray = ls at hl ⊢
  have hl : lv_has ls 1 [(0, .ref h)] := hl
  unfold f_X9_parseName at hE
  suffices main : ∀ (H : Heap) (locs : List Loc) (ls : Array Slot), va_P D vwCl (wT h a cA t) H → va_D A (wT h a cA t) → va_S A S0.heap H locs → lv_has ls 1 [(0, .ref h)] → W PP l EE (headSpec wsX9_parseName ({ frames := 2, cells := 0, slots := 0, locals := 41 })).room S0 MM (#[.ref h] : Array Value) below meth CC H locs 0 0 (MQ below (cQi D (wT h a cA u.2) A u.1) (#[.ref h] : Array Value) S0 0 0 A) (F0 MM 0 ls []) from main _ _ _ hP hD hS hl
  intro H locs ls hP hD hS hl
  refine lv_aload_n hx hb dX9_parseName_0 rfl (lv_at hl 0 rfl) ?_
  obtain ⟨u1, h2, hE⟩ := bd_some hE
  refine cw_i (As := []) (rest := []) (r := u1.1) (wc := (wT h a cA t)) ⟨hx, hb, hml, hown, hts⟩ (c_X9_takeName l D cA h a H.size t u1 h2) (cwV 0 hts hX9_parseName_X9_takeName_32 rfl rfl rfl (by decide +kernel) ⟨Nat.le_of_ble_eq_true rfl, Nat.le_of_ble_eq_true rfl⟩) rfl hl.1 rfl (Nat.le_of_ble_eq_true rfl) dX9_parseName_1 ⟨Nat.zero_le _, Nat.zero_le _⟩ hK hP hD hS hA (va_recv hK hP (ci := 8) (q0 := 0) rfl rfl) [h, a] rfl rfl (fun _ _ _ _ h => h) (fun _ _ _ => trivial) (fun H locs hP hD hS => ?_)
  have hP : va_P D vwCl (wT h a cA u1.2) H := hP
  have hD : va_D A (wT h a cA u1.2) := hD
  refine lv_if_ne (tgt := 10) hx hb dX9_parseName_4 (by decide) (fun c3 => ?_) (fun c3 => ?_)
  · have hE := if_f c3 hE
    refine lv_aload_n hx hb dX9_parseName_10 rfl (lv_at hl 0 rfl) ?_
    obtain ⟨u4, h5, hE⟩ := bd_some hE
    refine cw_i (As := []) (rest := []) (r := u4) (wc := (wT h a cA u1.2)) ⟨hx, hb, hml, hown, hts⟩ (c_X9_nameIsTooLong l D cA h a H.size u1.2 u4 h5) (cwV 0 hts hX9_parseName_X9_nameIsTooLong_36 rfl rfl rfl (by decide +kernel) ⟨Nat.le_of_ble_eq_true rfl, Nat.le_of_ble_eq_true rfl⟩) rfl hl.1 rfl (Nat.le_of_ble_eq_true rfl) dX9_parseName_11 ⟨Nat.zero_le _, Nat.zero_le _⟩ hK hP hD hS hA (va_recv hK hP (ci := 8) (q0 := 0) rfl rfl) [h, a] rfl rfl (fun _ _ _ _ h => h) (fun _ _ _ => trivial) (fun H locs hP hD hS => ?_)
    have hP : va_P D vwCl (wT h a cA u1.2) H := hP
    have hD : va_D A (wT h a cA u1.2) := hD
    refine lv_if_eq (tgt := 22) hx hb dX9_parseName_14 (by decide) (fun c6 => ?_) (fun c6 => ?_)
    · have hE := if_t c6 hE
      refine lv_iconst (v := 0) hx hb dX9_parseName_22 (by decide +kernel) ?_
      obtain rfl := Option.some.inj hE
      exact rt_i hx hb hr hP hS rfl hlocks dX9_parseName_23
    · have hE := if_f c6 hE
      refine lv_bipush (v := (-19)) hx hb dX9_parseName_17 (by decide +kernel) ?_
      refine lv_goto (tgt := 23) hx hb dX9_parseName_19 (by decide) ?_
      obtain rfl := Option.some.inj hE
      exact rt_i hx hb hr hP hS rfl hlocks dX9_parseName_23
  · have hE := if_t c3 hE
    refine lv_bipush (v := (-16)) hx hb dX9_parseName_7 (by decide +kernel) ?_
    obtain rfl := Option.some.inj hE
    exact rt_i hx hb hr hP hS rfl hlocks dX9_parseName_9
set_option maxHeartbeats 4000000 in
set_option maxRecDepth 100000 in
theorem c_X9_nameAt (l : Launch) (D : va_G) (cA : Nat → ClassId) (h : Nat) (a : Nat) (sz : Nat) (x1 : Int32) (t : tT) (u : Int32) (hE : f_X9_nameAt x1 t = some u) : Met l yX9_nameAt wsX9_nameAt ({ frames := 0, cells := 0, slots := 0, locals := 0 }) (va_Pc [.ref h, .int x1] (PRE D cA (wT h a cA t) sz (fun _ => True))) (cQi D (wT h a cA t) (va_A (wT h a cA t) sz) u) 0 0 (va_A (wT h a cA t) sz) := by
  refine Met.ofW (cc := cX9_nameAt) (maxL := 2) (ret := (some .char)) (by decide) rfl ?_
  intro PP EE S0 MM args below meth CC S1 B hml hv
  obtain ⟨rfl, hsz, hP, hK, hD0, hX⟩ := hv
  have hx := B.exec
  have hb := B.bytes
  have hr := B.returns
  have hts := atoms_spec (ws := wsX9_nameAt) B.pre
  have hown : S0.vm.findClass RX9 = some MM.cls := findClass_of_methodNamed B.named
  have hlocks := B.notSynchronized
  subst hsz
  have hD := hD0.self (sz := S0.heap.size)
  generalize hAe : va_A (wT h a cA t) S0.heap.size = A at hD ⊢
  have hA : ∀ q : Nat, S0.heap.size ≤ q → A q := fun q h => by rw [← hAe]; exact Or.inr h
  have hS : va_S A S0.heap S0.heap [] := va_S.rf
  have k0 := hts (.fieldLink RX9 11 "WordForge$Text" "characters" "[C") (List.mem_of_getElem? (i := 1) rfl)
  have inX9 : ∀ w ∈ wsX90, w ∈ wsX9_nameAt := fun _ h => List.mem_cons_of_mem _ (List.mem_append_right _ h)
  have k2 := hts (.fieldLink RX9 26 "WordForge$Text" "nameStart" "I") (List.mem_of_getElem? (i := 2) rfl)
  have hl := lv_entry ([.ref h, .int x1]) (n := 2) (Nat.le_of_ble_eq_true rfl)
  rw [lg_entry_eq]
  generalize (lg_sl ([.ref h, .int x1]) ++ List.replicate (2 - (lg_sl ([.ref h, .int x1])).length) Slot.unset).toArray = ls at hl ⊢
  have hl : lv_has ls 2 [(0, .ref h), (1, .int x1)] := hl
  unfold f_X9_nameAt at hE
  suffices main : ∀ (H : Heap) (locs : List Loc) (ls : Array Slot), va_P D vwCl (wT h a cA t) H → va_D A (wT h a cA t) → va_S A S0.heap H locs → lv_has ls 2 [(0, .ref h), (1, .int x1)] → W PP l EE (headSpec wsX9_nameAt ({ frames := 0, cells := 0, slots := 0, locals := 0 })).room S0 MM (#[.ref h, .int x1] : Array Value) below meth CC H locs 0 0 (MQ below (cQi D (wT h a cA t) A u) (#[.ref h, .int x1] : Array Value) S0 0 0 A) (F0 MM 0 ls []) from main _ _ _ hP hD hS hl
  intro H locs ls hP hD hS hl
  refine lv_aload_n hx hb dX9_nameAt_0 rfl (lv_at hl 0 rfl) ?_
  refine va_get (D := D) (ci := 8) (v := .ref a) (C := RX9) (T := TX9) (N := 5) hx hb hts inX9 hown hK hP 0 rfl rfl 0 (by decide) k0 (fun _ h9 => h9) rfl dX9_nameAt_1 ?_
  refine lv_aload_n hx hb dX9_nameAt_4 rfl (lv_at hl 0 rfl) ?_
  refine va_get (D := D) (ci := 8) (v := .int t.2.2.1) (C := RX9) (T := TX9) (N := 5) hx hb hts inX9 hown hK hP 0 rfl rfl 3 (by decide) k2 (fun _ h9 => h9) rfl dX9_nameAt_5 ?_
  refine lv_iload_n hx hb dX9_nameAt_8 rfl (lv_at hl 1 rfl) ?_
  refine lv_iadd hx hb dX9_nameAt_9 ?_
  have ⟨c1, hE⟩ := ck_some hE
  refine va_cald hx hb hK hP 1 2 rfl rfl c1 dX9_nameAt_10 ?_
  have ⟨c2, hE⟩ := ck_some hE
  obtain rfl := Option.some.inj hE
  exact rt_n hx hb hr (cfit c2).1 hP hS rfl hlocks dX9_nameAt_11
set_option maxRecDepth 20000 in
theorem hX9_nameAsNumber_X9_nameAt_39 : GoodIn wsX9_nameAsNumber (wsV RX9 39 RX9 yX9_nameAt wsX9_nameAt) := goodIn_r _ [6, 7, 8, 9, 10, 11, 12, 13, 14, 15, 16, 17] rfl (by decide +kernel)
set_option maxHeartbeats 4000000 in
set_option maxRecDepth 100000 in
theorem c_X9_nameAsNumber (l : Launch) (D : va_G) (cA : Nat → ClassId) (h : Nat) (a : Nat) (sz : Nat) (t : tT) (u : Int64) (hE : f_X9_nameAsNumber t = some u) : Met l yX9_nameAsNumber wsX9_nameAsNumber ({ frames := 1, cells := 0, slots := 0, locals := 21 }) (va_Pc [.ref h] (PRE D cA (wT h a cA t) sz (fun _ => True))) (cQl D (wT h a cA t) (va_A (wT h a cA t) sz) u) 0 0 (va_A (wT h a cA t) sz) := by
  refine Met.ofW (cc := cX9_nameAsNumber) (maxL := 8) (ret := (some .long)) (by decide) rfl ?_
  intro PP EE S0 MM args below meth CC S1 B hml hv
  obtain ⟨rfl, hsz, hP, hK, hD0, hX⟩ := hv
  have hx := B.exec
  have hb := B.bytes
  have hr := B.returns
  have hts := atoms_spec (ws := wsX9_nameAsNumber) B.pre
  have hown : S0.vm.findClass RX9 = some MM.cls := findClass_of_methodNamed B.named
  have hlocks := B.notSynchronized
  subst hsz
  have hD := hD0.self (sz := S0.heap.size)
  generalize hAe : va_A (wT h a cA t) S0.heap.size = A at hD ⊢
  have hA : ∀ q : Nat, S0.heap.size ≤ q → A q := fun q h => by rw [← hAe]; exact Or.inr h
  have hS : va_S A S0.heap S0.heap [] := va_S.rf
  have k0 := hts (.fieldLink RX9 29 "WordForge$Text" "nameLength" "I") (List.mem_of_getElem? (i := 1) rfl)
  have inX9 : ∀ w ∈ wsX90, w ∈ wsX9_nameAsNumber := fun _ h => List.mem_cons_of_mem _ (List.mem_append_right _ h)
  have k2 := hts (.constantLong RX9 43 (2147483648)) (List.mem_of_getElem? (i := 2) rfl)
  have k3 := hts (.constantLong RX9 45 (10)) (List.mem_of_getElem? (i := 3) rfl)
  have k4 := hts (.constantLong RX9 47 (-2147483648)) (List.mem_of_getElem? (i := 4) rfl)
  have k5 := hts (.constantLong RX9 49 (2147483647)) (List.mem_of_getElem? (i := 5) rfl)
  have hl := lv_entry ([.ref h]) (n := 8) (Nat.le_of_ble_eq_true rfl)
  rw [lg_entry_eq]
  generalize (lg_sl ([.ref h]) ++ List.replicate (8 - (lg_sl ([.ref h])).length) Slot.unset).toArray = ls at hl ⊢
  have hl : lv_has ls 8 [(0, .ref h)] := hl
  have w154 : ∀ (y4 : Int64) (z0 : Int32) (t : tT) (H : Heap) (locs : List Loc) (ls : Array Slot), va_P D vwCl (wT h a cA t) H → va_D A (wT h a cA t) → va_S A S0.heap H locs → lv_has ls 8 [(4, .long y4)] → b_X9_nameAsNumber_154  y4 z0 t = some u → W PP l EE (headSpec wsX9_nameAsNumber ({ frames := 1, cells := 0, slots := 0, locals := 21 })).room S0 MM (#[.ref h] : Array Value) below meth CC H locs 0 0 (MQ below (cQl D (wT h a cA t) A u) (#[.ref h] : Array Value) S0 0 0 A) (F0 MM 154 ls [.int z0]) := by
    intro y4 z0 t
    intro H locs ls hP hD hS hl hE
    unfold b_X9_nameAsNumber_154 at hE
    refine lv_istore (lv' := [(6, .int z0), (4, .long y4)]) hx hb dX9_nameAsNumber_154 hl (by decide) rfl (fun ls hl => ?_)
    refine lv_iload hx hb dX9_nameAsNumber_156 (lv_at hl 0 rfl) ?_
    refine lv_if_eq (tgt := 166) hx hb dX9_nameAsNumber_158 (by decide) (fun c16 => ?_) (fun c16 => ?_)
    · have hE := if_t c16 hE
      refine lv_ldc2 (v := 2147483648) hx hb hown k2 dX9_nameAsNumber_166 ?_
      obtain rfl := Option.some.inj hE
      exact rt_l hx hb hr hP hS rfl hlocks dX9_nameAsNumber_169
    · have hE := if_f c16 hE
      refine lv_lload hx hb dX9_nameAsNumber_161 (lv_at hl 1 rfl) ?_
      refine lv_goto (tgt := 169) hx hb dX9_nameAsNumber_163 (by decide) ?_
      obtain rfl := Option.some.inj hE
      exact rt_l hx hb hr hP hS rfl hlocks dX9_nameAsNumber_169
  have w153 : ∀ (y4 : Int64) (t : tT) (H : Heap) (locs : List Loc) (ls : Array Slot), va_P D vwCl (wT h a cA t) H → va_D A (wT h a cA t) → va_S A S0.heap H locs → lv_has ls 8 [(4, .long y4)] → b_X9_nameAsNumber_153  y4 t = some u → W PP l EE (headSpec wsX9_nameAsNumber ({ frames := 1, cells := 0, slots := 0, locals := 21 })).room S0 MM (#[.ref h] : Array Value) below meth CC H locs 0 0 (MQ below (cQl D (wT h a cA t) A u) (#[.ref h] : Array Value) S0 0 0 A) (F0 MM 153 ls []) := by
    intro y4 t
    intro H locs ls hP hD hS hl hE
    unfold b_X9_nameAsNumber_153 at hE
    refine lv_iconst (v := 0) hx hb dX9_nameAsNumber_153 (by decide +kernel) ?_
    exact w154  y4 0 t H locs ls hP hD hS (lv_sub hl [0] rfl) hE
  have w129 : ∀ (z0 : Int64) (t : tT) (H : Heap) (locs : List Loc) (ls : Array Slot), va_P D vwCl (wT h a cA t) H → va_D A (wT h a cA t) → va_S A S0.heap H locs → lv_has ls 8 [] → b_X9_nameAsNumber_129  z0 t = some u → W PP l EE (headSpec wsX9_nameAsNumber ({ frames := 1, cells := 0, slots := 0, locals := 21 })).room S0 MM (#[.ref h] : Array Value) below meth CC H locs 0 0 (MQ below (cQl D (wT h a cA t) A u) (#[.ref h] : Array Value) S0 0 0 A) (F0 MM 129 ls [.long z0]) := by
    intro z0 t
    intro H locs ls hP hD hS hl hE
    unfold b_X9_nameAsNumber_129 at hE
    refine lv_lstore (lv' := [(4, .long z0)]) hx hb dX9_nameAsNumber_129 hl (by decide) rfl (fun ls hl => ?_)
    refine lv_lload hx hb dX9_nameAsNumber_131 (lv_at hl 0 rfl) ?_
    refine lv_ldc2 (v := (-2147483648)) hx hb hown k4 dX9_nameAsNumber_133 ?_
    refine W.lcmp hx hb dX9_nameAsNumber_136 ?_
    refine lv_if_lt (tgt := 153) hx hb dX9_nameAsNumber_137 (by decide) (fun c14 => ?_) (fun c14 => ?_)
    · have hE := if_t c14 hE
      exact w153  z0 t H locs ls hP hD hS (lv_sub hl [0] rfl) hE
    · have hE := if_f c14 hE
      refine lv_lload hx hb dX9_nameAsNumber_140 (lv_at hl 0 rfl) ?_
      refine lv_ldc2 (v := 2147483647) hx hb hown k5 dX9_nameAsNumber_142 ?_
      refine W.lcmp hx hb dX9_nameAsNumber_145 ?_
      refine lv_if_gt (tgt := 153) hx hb dX9_nameAsNumber_146 (by decide) (fun c15 => ?_) (fun c15 => ?_)
      · have hE := if_t c15 hE
        exact w153  z0 t H locs ls hP hD hS (lv_sub hl [0] rfl) hE
      · have hE := if_f c15 hE
        refine lv_iconst (v := 1) hx hb dX9_nameAsNumber_149 (by decide +kernel) ?_
        refine lv_goto (tgt := 154) hx hb dX9_nameAsNumber_150 (by decide) ?_
        exact w154  z0 1 t H locs ls hP hD hS (lv_sub hl [0] rfl) hE
  have w61 : ∀ (n : Nat), ∀ (y1 : Int32) (y4 : Int64) (y6 : Int32) (t : tT) (H : Heap) (locs : List Loc) (ls : Array Slot), va_P D vwCl (wT h a cA t) H → va_D A (wT h a cA t) → va_S A S0.heap H locs → lv_has ls 8 [(0, .ref h), (1, .int y1), (4, .long y4), (6, .int y6)] → b_X9_nameAsNumber_61 n y1 y4 y6 t = some u → W PP l EE (headSpec wsX9_nameAsNumber ({ frames := 1, cells := 0, slots := 0, locals := 21 })).room S0 MM (#[.ref h] : Array Value) below meth CC H locs 0 0 (MQ below (cQl D (wT h a cA t) A u) (#[.ref h] : Array Value) S0 0 0 A) (F0 MM 61 ls []) := by
    intro  n
    induction n with
    | zero => intros; rename_i hE; exact absurd hE (by simp [b_X9_nameAsNumber_61])
    | succ n ih61 =>
      intro y1 y4 y6 t
      intro H locs ls hP hD hS hl hE
      unfold b_X9_nameAsNumber_61 at hE
      refine lv_iload hx hb dX9_nameAsNumber_61 (lv_at hl 3 rfl) ?_
      refine lv_aload_n hx hb dX9_nameAsNumber_63 rfl (lv_at hl 0 rfl) ?_
      refine va_get (D := D) (ci := 8) (v := .int t.2.2.2.1) (C := RX9) (T := TX9) (N := 5) hx hb hts inX9 hown hK hP 0 rfl rfl 4 (by decide) k0 (fun _ h9 => h9) rfl dX9_nameAsNumber_64 ?_
      refine lv_icmp_ge (tgt := 117) hx hb dX9_nameAsNumber_67 (by decide) (fun c8 => ?_) (fun c8 => ?_)
      · have hE := if_t c8 hE
        refine lv_iload_n hx hb dX9_nameAsNumber_117 rfl (lv_at hl 1 rfl) ?_
        refine lv_if_eq (tgt := 127) hx hb dX9_nameAsNumber_118 (by decide) (fun c9 => ?_) (fun c9 => ?_)
        · have hE := if_t c9 hE
          refine lv_lload hx hb dX9_nameAsNumber_127 (lv_at hl 2 rfl) ?_
          exact w129  y4 t H locs ls hP hD hS (lv_sub hl [] rfl) hE
        · have hE := if_f c9 hE
          refine lv_lload hx hb dX9_nameAsNumber_121 (lv_at hl 2 rfl) ?_
          refine lv_lneg hx hb dX9_nameAsNumber_123 ?_
          refine lv_goto (tgt := 129) hx hb dX9_nameAsNumber_124 (by decide) ?_
          exact w129  (-y4) t H locs ls hP hD hS (lv_sub hl [] rfl) hE
      · have hE := if_f c8 hE
        refine lv_aload_n hx hb dX9_nameAsNumber_70 rfl (lv_at hl 0 rfl) ?_
        refine lv_iload hx hb dX9_nameAsNumber_71 (lv_at hl 3 rfl) ?_
        obtain ⟨u10, h11, hE⟩ := bd_some hE
        refine cw_i (As := [.int y6]) (rest := []) (r := u10) (wc := (wT h a cA t)) ⟨hx, hb, hml, hown, hts⟩ (c_X9_nameAt l D cA h a H.size y6 t u10 h11) (cwV 1 hts hX9_nameAsNumber_X9_nameAt_39 rfl rfl rfl (by decide +kernel) ⟨Nat.le_of_ble_eq_true rfl, Nat.le_of_ble_eq_true rfl⟩) rfl hl.1 rfl (Nat.le_of_ble_eq_true rfl) dX9_nameAsNumber_73 ⟨Nat.zero_le _, Nat.zero_le _⟩ hK hP hD hS hA (va_recv hK hP (ci := 8) (q0 := 0) rfl rfl) [h, a] rfl rfl (fun _ _ _ _ h => h) (fun _ _ _ => trivial) (fun H locs hP hD hS => ?_)
        have hP : va_P D vwCl (wT h a cA t) H := hP
        have hD : va_D A (wT h a cA t) := hD
        refine lv_istore (lv' := [(7, .int u10), (0, .ref h), (1, .int y1), (4, .long y4), (6, .int y6)]) hx hb dX9_nameAsNumber_76 hl (by decide) rfl (fun ls hl => ?_)
        refine lv_iload hx hb dX9_nameAsNumber_78 (lv_at hl 0 rfl) ?_
        refine lv_bipush (v := 48) hx hb dX9_nameAsNumber_80 (by decide +kernel) ?_
        refine lv_icmp_lt (tgt := 92) hx hb dX9_nameAsNumber_82 (by decide) (fun c12 => ?_) (fun c12 => ?_)
        · have hE := if_t c12 hE
          refine lv_ldc2 (v := 2147483648) hx hb hown k2 dX9_nameAsNumber_92 ?_
          obtain rfl := Option.some.inj hE
          exact rt_l hx hb hr hP hS rfl hlocks dX9_nameAsNumber_95
        · have hE := if_f c12 hE
          refine lv_iload hx hb dX9_nameAsNumber_85 (lv_at hl 0 rfl) ?_
          refine lv_bipush (v := 57) hx hb dX9_nameAsNumber_87 (by decide +kernel) ?_
          refine lv_icmp_le (tgt := 96) hx hb dX9_nameAsNumber_89 (by decide) (fun c13 => ?_) (fun c13 => ?_)
          · have hE := if_t c13 hE
            refine lv_lload hx hb dX9_nameAsNumber_96 (lv_at hl 3 rfl) ?_
            refine lv_ldc2 (v := 10) hx hb hown k3 dX9_nameAsNumber_98 ?_
            refine lv_lmul hx hb dX9_nameAsNumber_101 ?_
            refine lv_iload hx hb dX9_nameAsNumber_102 (lv_at hl 0 rfl) ?_
            refine lv_bipush (v := 48) hx hb dX9_nameAsNumber_104 (by decide +kernel) ?_
            refine lv_isub hx hb dX9_nameAsNumber_106 ?_
            refine lv_i2l hx hb dX9_nameAsNumber_107 rfl ?_
            refine lv_ladd hx hb dX9_nameAsNumber_108 ?_
            refine lv_lstore (lv' := [(4, .long ((y4 * 10) + ((u10 - 48).toInt64))), (7, .int u10), (0, .ref h), (1, .int y1), (6, .int y6)]) hx hb dX9_nameAsNumber_109 hl (by decide) rfl (fun ls hl => ?_)
            refine lv_iinc (v := y6 + 1) (lv' := [(6, .int (y6 + 1)), (4, .long ((y4 * 10) + ((u10 - 48).toInt64))), (7, .int u10), (0, .ref h), (1, .int y1)]) hx hb dX9_nameAsNumber_111 hl (k := 4) rfl rfl (by decide) rfl (fun ls hl => ?_)
            refine lv_goto (tgt := 61) hx hb dX9_nameAsNumber_114 (by decide) ?_
            exact ih61 y1 ((y4 * 10) + ((u10 - 48).toInt64)) (y6 + 1) t H locs ls hP hD hS (lv_sub hl [3, 4, 1, 0] rfl) hE
          · have hE := if_f c13 hE
            refine lv_ldc2 (v := 2147483648) hx hb hown k2 dX9_nameAsNumber_92 ?_
            obtain rfl := Option.some.inj hE
            exact rt_l hx hb hr hP hS rfl hlocks dX9_nameAsNumber_95
  have w32 : ∀ (y1 : Int32) (z0 : Int32) (t : tT) (H : Heap) (locs : List Loc) (ls : Array Slot), va_P D vwCl (wT h a cA t) H → va_D A (wT h a cA t) → va_S A S0.heap H locs → lv_has ls 8 [(0, .ref h), (1, .int y1)] → b_X9_nameAsNumber_32  y1 z0 t = some u → W PP l EE (headSpec wsX9_nameAsNumber ({ frames := 1, cells := 0, slots := 0, locals := 21 })).room S0 MM (#[.ref h] : Array Value) below meth CC H locs 0 0 (MQ below (cQl D (wT h a cA t) A u) (#[.ref h] : Array Value) S0 0 0 A) (F0 MM 32 ls [.int z0]) := by
    intro y1 z0 t
    intro H locs ls hP hD hS hl hE
    unfold b_X9_nameAsNumber_32 at hE
    refine lv_istore_n (lv' := [(2, .int z0), (0, .ref h), (1, .int y1)]) hx hb dX9_nameAsNumber_32 rfl hl (by decide) rfl (fun ls hl => ?_)
    refine lv_aload_n hx hb dX9_nameAsNumber_33 rfl (lv_at hl 1 rfl) ?_
    refine va_get (D := D) (ci := 8) (v := .int t.2.2.2.1) (C := RX9) (T := TX9) (N := 5) hx hb hts inX9 hown hK hP 0 rfl rfl 4 (by decide) k0 (fun _ h9 => h9) rfl dX9_nameAsNumber_34 ?_
    refine lv_iload_n hx hb dX9_nameAsNumber_37 rfl (lv_at hl 0 rfl) ?_
    refine lv_isub hx hb dX9_nameAsNumber_38 ?_
    refine lv_istore_n (lv' := [(3, .int (t.2.2.2.1 - z0)), (2, .int z0), (0, .ref h), (1, .int y1)]) hx hb dX9_nameAsNumber_39 rfl hl (by decide) rfl (fun ls hl => ?_)
    refine lv_iload_n hx hb dX9_nameAsNumber_40 rfl (lv_at hl 0 rfl) ?_
    refine lv_iconst (v := 1) hx hb dX9_nameAsNumber_41 (by decide +kernel) ?_
    refine lv_icmp_lt (tgt := 51) hx hb dX9_nameAsNumber_42 (by decide) (fun c6 => ?_) (fun c6 => ?_)
    · have hE := if_t c6 hE
      refine lv_ldc2 (v := 2147483648) hx hb hown k2 dX9_nameAsNumber_51 ?_
      obtain rfl := Option.some.inj hE
      exact rt_l hx hb hr hP hS rfl hlocks dX9_nameAsNumber_54
    · have hE := if_f c6 hE
      refine lv_iload_n hx hb dX9_nameAsNumber_45 rfl (lv_at hl 0 rfl) ?_
      refine lv_bipush (v := 10) hx hb dX9_nameAsNumber_46 (by decide +kernel) ?_
      refine lv_icmp_le (tgt := 55) hx hb dX9_nameAsNumber_48 (by decide) (fun c7 => ?_) (fun c7 => ?_)
      · have hE := if_t c7 hE
        refine lv_lconst (v := 0) hx hb dX9_nameAsNumber_55 (by decide +kernel) ?_
        refine lv_lstore (lv' := [(4, .long 0), (3, .int (t.2.2.2.1 - z0)), (2, .int z0), (0, .ref h), (1, .int y1)]) hx hb dX9_nameAsNumber_56 hl (by decide) rfl (fun ls hl => ?_)
        refine lv_iload_n hx hb dX9_nameAsNumber_58 rfl (lv_at hl 2 rfl) ?_
        refine lv_istore (lv' := [(6, .int z0), (4, .long 0), (3, .int (t.2.2.2.1 - z0)), (2, .int z0), (0, .ref h), (1, .int y1)]) hx hb dX9_nameAsNumber_59 hl (by decide) rfl (fun ls hl => ?_)
        exact w61 FU y1 0 z0 t H locs ls hP hD hS (lv_sub hl [4, 5, 1, 0] rfl) hE
      · have hE := if_f c7 hE
        refine lv_ldc2 (v := 2147483648) hx hb hown k2 dX9_nameAsNumber_51 ?_
        obtain rfl := Option.some.inj hE
        exact rt_l hx hb hr hP hS rfl hlocks dX9_nameAsNumber_54
  have w22 : ∀ (z0 : Int32) (t : tT) (H : Heap) (locs : List Loc) (ls : Array Slot), va_P D vwCl (wT h a cA t) H → va_D A (wT h a cA t) → va_S A S0.heap H locs → lv_has ls 8 [(0, .ref h)] → b_X9_nameAsNumber_22  z0 t = some u → W PP l EE (headSpec wsX9_nameAsNumber ({ frames := 1, cells := 0, slots := 0, locals := 21 })).room S0 MM (#[.ref h] : Array Value) below meth CC H locs 0 0 (MQ below (cQl D (wT h a cA t) A u) (#[.ref h] : Array Value) S0 0 0 A) (F0 MM 22 ls [.int z0]) := by
    intro z0 t
    intro H locs ls hP hD hS hl hE
    unfold b_X9_nameAsNumber_22 at hE
    refine lv_istore_n (lv' := [(1, .int z0), (0, .ref h)]) hx hb dX9_nameAsNumber_22 rfl hl (by decide) rfl (fun ls hl => ?_)
    refine lv_iload_n hx hb dX9_nameAsNumber_23 rfl (lv_at hl 0 rfl) ?_
    refine lv_if_eq (tgt := 31) hx hb dX9_nameAsNumber_24 (by decide) (fun c5 => ?_) (fun c5 => ?_)
    · have hE := if_t c5 hE
      refine lv_iconst (v := 0) hx hb dX9_nameAsNumber_31 (by decide +kernel) ?_
      exact w32  z0 0 t H locs ls hP hD hS (lv_sub hl [1, 0] rfl) hE
    · have hE := if_f c5 hE
      refine lv_iconst (v := 1) hx hb dX9_nameAsNumber_27 (by decide +kernel) ?_
      refine lv_goto (tgt := 32) hx hb dX9_nameAsNumber_28 (by decide) ?_
      exact w32  z0 1 t H locs ls hP hD hS (lv_sub hl [1, 0] rfl) hE
  have w21 : ∀ (t : tT) (H : Heap) (locs : List Loc) (ls : Array Slot), va_P D vwCl (wT h a cA t) H → va_D A (wT h a cA t) → va_S A S0.heap H locs → lv_has ls 8 [(0, .ref h)] → b_X9_nameAsNumber_21  t = some u → W PP l EE (headSpec wsX9_nameAsNumber ({ frames := 1, cells := 0, slots := 0, locals := 21 })).room S0 MM (#[.ref h] : Array Value) below meth CC H locs 0 0 (MQ below (cQl D (wT h a cA t) A u) (#[.ref h] : Array Value) S0 0 0 A) (F0 MM 21 ls []) := by
    intro t
    intro H locs ls hP hD hS hl hE
    unfold b_X9_nameAsNumber_21 at hE
    refine lv_iconst (v := 0) hx hb dX9_nameAsNumber_21 (by decide +kernel) ?_
    exact w22  0 t H locs ls hP hD hS (lv_sub hl [0] rfl) hE
  unfold f_X9_nameAsNumber at hE
  suffices main : ∀ (H : Heap) (locs : List Loc) (ls : Array Slot), va_P D vwCl (wT h a cA t) H → va_D A (wT h a cA t) → va_S A S0.heap H locs → lv_has ls 8 [(0, .ref h)] → W PP l EE (headSpec wsX9_nameAsNumber ({ frames := 1, cells := 0, slots := 0, locals := 21 })).room S0 MM (#[.ref h] : Array Value) below meth CC H locs 0 0 (MQ below (cQl D (wT h a cA t) A u) (#[.ref h] : Array Value) S0 0 0 A) (F0 MM 0 ls []) from main _ _ _ hP hD hS hl
  intro H locs ls hP hD hS hl
  refine lv_aload_n hx hb dX9_nameAsNumber_0 rfl (lv_at hl 0 rfl) ?_
  refine va_get (D := D) (ci := 8) (v := .int t.2.2.2.1) (C := RX9) (T := TX9) (N := 5) hx hb hts inX9 hown hK hP 0 rfl rfl 4 (by decide) k0 (fun _ h9 => h9) rfl dX9_nameAsNumber_1 ?_
  refine lv_if_le (tgt := 21) hx hb dX9_nameAsNumber_4 (by decide) (fun c1 => ?_) (fun c1 => ?_)
  · have hE := if_t c1 hE
    exact w21  t H locs ls hP hD hS (lv_sub hl [0] rfl) hE
  · have hE := if_f c1 hE
    refine lv_aload_n hx hb dX9_nameAsNumber_7 rfl (lv_at hl 0 rfl) ?_
    refine lv_iconst (v := 0) hx hb dX9_nameAsNumber_8 (by decide +kernel) ?_
    obtain ⟨u2, h3, hE⟩ := bd_some hE
    refine cw_i (As := [.int 0]) (rest := []) (r := u2) (wc := (wT h a cA t)) ⟨hx, hb, hml, hown, hts⟩ (c_X9_nameAt l D cA h a H.size 0 t u2 h3) (cwV 1 hts hX9_nameAsNumber_X9_nameAt_39 rfl rfl rfl (by decide +kernel) ⟨Nat.le_of_ble_eq_true rfl, Nat.le_of_ble_eq_true rfl⟩) rfl hl.1 rfl (Nat.le_of_ble_eq_true rfl) dX9_nameAsNumber_9 ⟨Nat.zero_le _, Nat.zero_le _⟩ hK hP hD hS hA (va_recv hK hP (ci := 8) (q0 := 0) rfl rfl) [h, a] rfl rfl (fun _ _ _ _ h => h) (fun _ _ _ => trivial) (fun H locs hP hD hS => ?_)
    have hP : va_P D vwCl (wT h a cA t) H := hP
    have hD : va_D A (wT h a cA t) := hD
    refine lv_bipush (v := 45) hx hb dX9_nameAsNumber_12 (by decide +kernel) ?_
    refine lv_icmp_ne (tgt := 21) hx hb dX9_nameAsNumber_14 (by decide) (fun c4 => ?_) (fun c4 => ?_)
    · have hE := if_f c4 hE
      exact w21  t H locs ls hP hD hS (lv_sub hl [0] rfl) hE
    · have hE := if_t c4 hE
      refine lv_iconst (v := 1) hx hb dX9_nameAsNumber_17 (by decide +kernel) ?_
      refine lv_goto (tgt := 22) hx hb dX9_nameAsNumber_18 (by decide) ?_
      exact w22  1 t H locs ls hP hD hS (lv_sub hl [0] rfl) hE
set_option maxHeartbeats 4000000 in
set_option maxRecDepth 100000 in
theorem c_X9_passComment (l : Launch) (D : va_G) (cA : Nat → ClassId) (h : Nat) (a : Nat) (sz : Nat) (t : tT) (u : tT) (hE : f_X9_passComment t = some u) : Met l yX9_passComment wsX9_passComment ({ frames := 0, cells := 0, slots := 0, locals := 0 }) (va_Pc [.ref h] (PRE D cA (wT h a cA t) sz (fun _ => True))) (cQv D (wT h a cA u) (va_A (wT h a cA t) sz)) 0 0 (va_A (wT h a cA t) sz) := by
  refine Met.ofW (cc := cX9_passComment) (maxL := 1) (ret := none) (by decide) rfl ?_
  intro PP EE S0 MM args below meth CC S1 B hml hv
  obtain ⟨rfl, hsz, hP, hK, hD0, hX⟩ := hv
  have hx := B.exec
  have hb := B.bytes
  have hr := B.returns
  have hts := atoms_spec (ws := wsX9_passComment) B.pre
  have hown : S0.vm.findClass RX9 = some MM.cls := findClass_of_methodNamed B.named
  have hlocks := B.notSynchronized
  subst hsz
  have hD := hD0.self (sz := S0.heap.size)
  generalize hAe : va_A (wT h a cA t) S0.heap.size = A at hD ⊢
  have hA : ∀ q : Nat, S0.heap.size ≤ q → A q := fun q h => by rw [← hAe]; exact Or.inr h
  have hS : va_S A S0.heap S0.heap [] := va_S.rf
  have k0 := hts (.fieldLink RX9 19 "WordForge$Text" "at" "I") (List.mem_of_getElem? (i := 1) rfl)
  have inX9 : ∀ w ∈ wsX90, w ∈ wsX9_passComment := fun _ h => List.mem_cons_of_mem _ (List.mem_append_right _ h)
  have k2 := hts (.fieldLink RX9 15 "WordForge$Text" "size" "I") (List.mem_of_getElem? (i := 2) rfl)
  have k3 := hts (.fieldLink RX9 11 "WordForge$Text" "characters" "[C") (List.mem_of_getElem? (i := 3) rfl)
  have hl := lv_entry ([.ref h]) (n := 1) (Nat.le_of_ble_eq_true rfl)
  rw [lg_entry_eq]
  generalize (lg_sl ([.ref h]) ++ List.replicate (1 - (lg_sl ([.ref h])).length) Slot.unset).toArray = ls at hl ⊢
  have hl : lv_has ls 1 [(0, .ref h)] := hl
  have w38 : ∀ (t : tT) (H : Heap) (locs : List Loc) (ls : Array Slot), va_P D vwCl (wT h a cA t) H → va_D A (wT h a cA t) → va_S A S0.heap H locs → lv_has ls 1 [(0, .ref h)] → b_X9_passComment_38  t = some u → W PP l EE (headSpec wsX9_passComment ({ frames := 0, cells := 0, slots := 0, locals := 0 })).room S0 MM (#[.ref h] : Array Value) below meth CC H locs 0 0 (MQ below (cQv D (wT h a cA u) A) (#[.ref h] : Array Value) S0 0 0 A) (F0 MM 38 ls []) := by
    intro t
    intro H locs ls hP hD hS hl hE
    unfold b_X9_passComment_38 at hE
    refine lv_aload_n hx hb dX9_passComment_38 rfl (lv_at hl 0 rfl) ?_
    refine va_get (D := D) (ci := 8) (v := .int t.2.1) (C := RX9) (T := TX9) (N := 5) hx hb hts inX9 hown hK hP 0 rfl rfl 2 (by decide) k0 (fun _ h9 => h9) rfl dX9_passComment_39 ?_
    refine lv_aload_n hx hb dX9_passComment_42 rfl (lv_at hl 0 rfl) ?_
    refine va_get (D := D) (ci := 8) (v := .int t.1) (C := RX9) (T := TX9) (N := 5) hx hb hts inX9 hown hK hP 0 rfl rfl 1 (by decide) k2 (fun _ h9 => h9) rfl dX9_passComment_43 ?_
    refine lv_icmp_ge (tgt := 59) hx hb dX9_passComment_46 (by decide) (fun c4 => ?_) (fun c4 => ?_)
    · have hE := if_t c4 hE
      obtain rfl := Option.some.inj hE
      exact rt_v hx hb hr hP hS hlocks dX9_passComment_59
    · have hE := if_f c4 hE
      refine lv_aload_n hx hb dX9_passComment_49 rfl (lv_at hl 0 rfl) ?_
      refine lv_dup hx hb dX9_passComment_50 rfl ?_
      refine va_get (D := D) (ci := 8) (v := .int t.2.1) (C := RX9) (T := TX9) (N := 5) hx hb hts inX9 hown hK hP 0 rfl rfl 2 (by decide) k0 (fun _ h9 => h9) rfl dX9_passComment_51 ?_
      refine lv_iconst (v := 1) hx hb dX9_passComment_54 (by decide +kernel) ?_
      refine lv_iadd hx hb dX9_passComment_55 ?_
      refine va_put (D := D) (ci := 8) (v := .int (t.2.1 + 1)) (ty := .int) (C := RX9) (T := TX9) (N := 5) hx hb hts inX9 tyX9 tyX9_ok nmX9 hown hK hP hD hS 0 rfl rfl 2 (by decide) k0 (fun _ h9 => h9) rfl (by decide +kernel) rfl rfl (Nat.le_of_ble_eq_true rfl) dX9_passComment_56 (fun H locs hP hD hS => ?_)
      have hP : va_P D vwCl (wT h a cA ((t.1, t.2.1 + 1, t.2.2.1, t.2.2.2.1, t.2.2.2.2))) H := hP
      have hD : va_D A (wT h a cA ((t.1, t.2.1 + 1, t.2.2.1, t.2.2.2.1, t.2.2.2.2))) := hD
      obtain rfl := Option.some.inj hE
      exact rt_v hx hb hr hP hS hlocks dX9_passComment_59
  have w0 : ∀ (n : Nat), ∀ (t : tT) (H : Heap) (locs : List Loc) (ls : Array Slot), va_P D vwCl (wT h a cA t) H → va_D A (wT h a cA t) → va_S A S0.heap H locs → lv_has ls 1 [(0, .ref h)] → b_X9_passComment_0 n t = some u → W PP l EE (headSpec wsX9_passComment ({ frames := 0, cells := 0, slots := 0, locals := 0 })).room S0 MM (#[.ref h] : Array Value) below meth CC H locs 0 0 (MQ below (cQv D (wT h a cA u) A) (#[.ref h] : Array Value) S0 0 0 A) (F0 MM 0 ls []) := by
    intro  n
    induction n with
    | zero => intros; rename_i hE; exact absurd hE (by simp [b_X9_passComment_0])
    | succ n ih0 =>
      intro t
      intro H locs ls hP hD hS hl hE
      unfold b_X9_passComment_0 at hE
      refine lv_aload_n hx hb dX9_passComment_0 rfl (lv_at hl 0 rfl) ?_
      refine va_get (D := D) (ci := 8) (v := .int t.2.1) (C := RX9) (T := TX9) (N := 5) hx hb hts inX9 hown hK hP 0 rfl rfl 2 (by decide) k0 (fun _ h9 => h9) rfl dX9_passComment_1 ?_
      refine lv_aload_n hx hb dX9_passComment_4 rfl (lv_at hl 0 rfl) ?_
      refine va_get (D := D) (ci := 8) (v := .int t.1) (C := RX9) (T := TX9) (N := 5) hx hb hts inX9 hown hK hP 0 rfl rfl 1 (by decide) k2 (fun _ h9 => h9) rfl dX9_passComment_5 ?_
      refine lv_icmp_ge (tgt := 38) hx hb dX9_passComment_8 (by decide) (fun c1 => ?_) (fun c1 => ?_)
      · have hE := if_t c1 hE
        exact w38  t H locs ls hP hD hS (lv_sub hl [0] rfl) hE
      · have hE := if_f c1 hE
        refine lv_aload_n hx hb dX9_passComment_11 rfl (lv_at hl 0 rfl) ?_
        refine va_get (D := D) (ci := 8) (v := .ref a) (C := RX9) (T := TX9) (N := 5) hx hb hts inX9 hown hK hP 0 rfl rfl 0 (by decide) k3 (fun _ h9 => h9) rfl dX9_passComment_12 ?_
        refine lv_aload_n hx hb dX9_passComment_15 rfl (lv_at hl 0 rfl) ?_
        refine va_get (D := D) (ci := 8) (v := .int t.2.1) (C := RX9) (T := TX9) (N := 5) hx hb hts inX9 hown hK hP 0 rfl rfl 2 (by decide) k0 (fun _ h9 => h9) rfl dX9_passComment_16 ?_
        have ⟨c2, hE⟩ := ck_some hE
        refine va_cald hx hb hK hP 1 2 rfl rfl c2 dX9_passComment_19 ?_
        refine lv_bipush (v := 41) hx hb dX9_passComment_20 (by decide +kernel) ?_
        refine lv_icmp_eq (tgt := 38) hx hb dX9_passComment_22 (by decide) (fun c3 => ?_) (fun c3 => ?_)
        · have hE := if_t c3 hE
          exact w38  t H locs ls hP hD hS (lv_sub hl [0] rfl) hE
        · have hE := if_f c3 hE
          refine lv_aload_n hx hb dX9_passComment_25 rfl (lv_at hl 0 rfl) ?_
          refine lv_dup hx hb dX9_passComment_26 rfl ?_
          refine va_get (D := D) (ci := 8) (v := .int t.2.1) (C := RX9) (T := TX9) (N := 5) hx hb hts inX9 hown hK hP 0 rfl rfl 2 (by decide) k0 (fun _ h9 => h9) rfl dX9_passComment_27 ?_
          refine lv_iconst (v := 1) hx hb dX9_passComment_30 (by decide +kernel) ?_
          refine lv_iadd hx hb dX9_passComment_31 ?_
          refine va_put (D := D) (ci := 8) (v := .int (t.2.1 + 1)) (ty := .int) (C := RX9) (T := TX9) (N := 5) hx hb hts inX9 tyX9 tyX9_ok nmX9 hown hK hP hD hS 0 rfl rfl 2 (by decide) k0 (fun _ h9 => h9) rfl (by decide +kernel) rfl rfl (Nat.le_of_ble_eq_true rfl) dX9_passComment_32 (fun H locs hP hD hS => ?_)
          have hP : va_P D vwCl (wT h a cA ((t.1, t.2.1 + 1, t.2.2.1, t.2.2.2.1, t.2.2.2.2))) H := hP
          have hD : va_D A (wT h a cA ((t.1, t.2.1 + 1, t.2.2.1, t.2.2.2.1, t.2.2.2.2))) := hD
          refine lv_goto (tgt := 0) hx hb dX9_passComment_35 (by decide) ?_
          exact ih0 ((t.1, t.2.1 + 1, t.2.2.1, t.2.2.2.1, t.2.2.2.2)) H locs ls hP hD hS (lv_sub hl [0] rfl) hE
  unfold f_X9_passComment at hE
  suffices main : ∀ (H : Heap) (locs : List Loc) (ls : Array Slot), va_P D vwCl (wT h a cA t) H → va_D A (wT h a cA t) → va_S A S0.heap H locs → lv_has ls 1 [(0, .ref h)] → W PP l EE (headSpec wsX9_passComment ({ frames := 0, cells := 0, slots := 0, locals := 0 })).room S0 MM (#[.ref h] : Array Value) below meth CC H locs 0 0 (MQ below (cQv D (wT h a cA u) A) (#[.ref h] : Array Value) S0 0 0 A) (F0 MM 0 ls []) from main _ _ _ hP hD hS hl
  intro H locs ls hP hD hS hl
  exact w0 FU t H locs ls hP hD hS (lv_sub hl [0] rfl) hE
