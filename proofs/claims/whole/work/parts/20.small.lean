set_option maxHeartbeats 4000000 in
set_option maxRecDepth 100000 in
theorem c_X8_hasRoom (l : Launch) (D : va_G) (cA : Nat → ClassId) (h : Nat) (a : Nat) (sz : Nat) (x1 : Int32) (er : Int32) (s : tR) (u : Int32) (hE : f_X8_hasRoom x1 er s = some u) : Met l yX8_hasRoom wsX8_hasRoom ({ frames := 0, cells := 0, slots := 0, locals := 0 }) (va_Pc [.ref h, .int x1] (PRE D cA (wR h a cA er s) sz (fun _ => True))) (cQi D (wR h a cA er s) (va_A (wR h a cA er s) sz) u) 0 0 (va_A (wR h a cA er s) sz) := by
  refine Met.ofW (cc := cX8_hasRoom) (maxL := 2) (ret := (some .boolean)) (by decide) rfl ?_
  intro PP EE S0 MM args below meth CC S1 B hml hv
  obtain ⟨rfl, hsz, hP, hK, hD0, hX⟩ := hv
  have hx := B.exec
  have hb := B.bytes
  have hr := B.returns
  have hts := atoms_spec (ws := wsX8_hasRoom) B.pre
  have hown : S0.vm.findClass RX8 = some MM.cls := findClass_of_methodNamed B.named
  have hlocks := B.notSynchronized
  subst hsz
  have hD := hD0.self (sz := S0.heap.size)
  generalize hAe : va_A (wR h a cA er s) S0.heap.size = A at hD ⊢
  have hA : ∀ q : Nat, S0.heap.size ≤ q → A q := fun q h => by rw [← hAe]; exact Or.inr h
  have hS : va_S A S0.heap S0.heap [] := va_S.rf
  have k0 := hts (.fieldLink RX8 17 "WordForge$Row" "size" "I") (List.mem_of_getElem? (i := 1) rfl)
  have inX8 : ∀ w ∈ wsX80, w ∈ wsX8_hasRoom := fun _ h => List.mem_cons_of_mem _ (List.mem_append_right _ h)
  have hl := lv_entry ([.ref h, .int x1]) (n := 2) (Nat.le_of_ble_eq_true rfl)
  rw [lg_entry_eq]
  generalize (lg_sl ([.ref h, .int x1]) ++ List.replicate (2 - (lg_sl ([.ref h, .int x1])).length) Slot.unset).toArray = ls at hl ⊢
  have hl : lv_has ls 2 [(0, .ref h), (1, .int x1)] := hl
  unfold f_X8_hasRoom at hE
  suffices main : ∀ (H : Heap) (locs : List Loc) (ls : Array Slot), va_P D vwCl (wR h a cA er s) H → va_D A (wR h a cA er s) → va_S A S0.heap H locs → lv_has ls 2 [(0, .ref h), (1, .int x1)] → W PP l EE (headSpec wsX8_hasRoom ({ frames := 0, cells := 0, slots := 0, locals := 0 })).room S0 MM (#[.ref h, .int x1] : Array Value) below meth CC H locs 0 0 (MQ below (cQi D (wR h a cA er s) A u) (#[.ref h, .int x1] : Array Value) S0 0 0 A) (F0 MM 0 ls []) from main _ _ _ hP hD hS hl
  intro H locs ls hP hD hS hl
  refine lv_aload_n hx hb dX8_hasRoom_0 rfl (lv_at hl 0 rfl) ?_
  refine va_get (D := D) (ci := 7) (v := .int s.1) (C := RX8) (T := TX8) (N := 3) hx hb hts inX8 hown hK hP 0 rfl rfl 2 (by decide) k0 (fun _ h9 => h9) rfl dX8_hasRoom_1 ?_
  refine lv_iload_n hx hb dX8_hasRoom_4 rfl (lv_at hl 1 rfl) ?_
  refine lv_iadd hx hb dX8_hasRoom_5 ?_
  refine lv_bipush (v := 30) hx hb dX8_hasRoom_6 (by decide +kernel) ?_
  refine lv_icmp_gt (tgt := 15) hx hb dX8_hasRoom_8 (by decide) (fun c1 => ?_) (fun c1 => ?_)
  · have hE := if_t c1 hE
    refine lv_iconst (v := 0) hx hb dX8_hasRoom_15 (by decide +kernel) ?_
    obtain rfl := Option.some.inj hE
    exact rt_n hx hb hr (by decide +kernel) hP hS rfl hlocks dX8_hasRoom_16
  · have hE := if_f c1 hE
    refine lv_iconst (v := 1) hx hb dX8_hasRoom_11 (by decide +kernel) ?_
    refine lv_goto (tgt := 16) hx hb dX8_hasRoom_12 (by decide) ?_
    obtain rfl := Option.some.inj hE
    exact rt_n hx hb hr (by decide +kernel) hP hS rfl hlocks dX8_hasRoom_16
set_option maxHeartbeats 4000000 in
set_option maxRecDepth 100000 in
theorem c_X8_put (l : Launch) (D : va_G) (cA : Nat → ClassId) (h : Nat) (a : Nat) (sz : Nat) (x1 : Int32) (er : Int32) (s : tR) (u : Int32 × tR) (hE : f_X8_put x1 er s = some u) : Met l yX8_put wsX8_put ({ frames := 0, cells := 0, slots := 0, locals := 0 }) (va_Pc [.ref h, .int x1] (PRE D cA (wR h a cA er s) sz (fun _ => True))) (cQi D (wR h a cA er u.2) (va_A (wR h a cA er s) sz) u.1) 0 0 (va_A (wR h a cA er s) sz) := by
  refine Met.ofW (cc := cX8_put) (maxL := 2) (ret := (some .int)) (by decide) rfl ?_
  intro PP EE S0 MM args below meth CC S1 B hml hv
  obtain ⟨rfl, hsz, hP, hK, hD0, hX⟩ := hv
  have hx := B.exec
  have hb := B.bytes
  have hr := B.returns
  have hts := atoms_spec (ws := wsX8_put) B.pre
  have hown : S0.vm.findClass RX8 = some MM.cls := findClass_of_methodNamed B.named
  have hlocks := B.notSynchronized
  subst hsz
  have hD := hD0.self (sz := S0.heap.size)
  generalize hAe : va_A (wR h a cA er s) S0.heap.size = A at hD ⊢
  have hA : ∀ q : Nat, S0.heap.size ≤ q → A q := fun q h => by rw [← hAe]; exact Or.inr h
  have hS : va_S A S0.heap S0.heap [] := va_S.rf
  have k0 := hts (.fieldLink RX8 17 "WordForge$Row" "size" "I") (List.mem_of_getElem? (i := 1) rfl)
  have inX8 : ∀ w ∈ wsX80, w ∈ wsX8_put := fun _ h => List.mem_cons_of_mem _ (List.mem_append_right _ h)
  have k2 := hts (.fieldLink RX8 9 "WordForge$Row" "numbers" "[I") (List.mem_of_getElem? (i := 3) rfl)
  have k3 := hts (.fieldLink RX8 13 "WordForge$Row" "errorWhenFull" "I") (List.mem_of_getElem? (i := 2) rfl)
  have hl := lv_entry ([.ref h, .int x1]) (n := 2) (Nat.le_of_ble_eq_true rfl)
  rw [lg_entry_eq]
  generalize (lg_sl ([.ref h, .int x1]) ++ List.replicate (2 - (lg_sl ([.ref h, .int x1])).length) Slot.unset).toArray = ls at hl ⊢
  have hl : lv_has ls 2 [(0, .ref h), (1, .int x1)] := hl
  unfold f_X8_put at hE
  suffices main : ∀ (H : Heap) (locs : List Loc) (ls : Array Slot), va_P D vwCl (wR h a cA er s) H → va_D A (wR h a cA er s) → va_S A S0.heap H locs → lv_has ls 2 [(0, .ref h), (1, .int x1)] → W PP l EE (headSpec wsX8_put ({ frames := 0, cells := 0, slots := 0, locals := 0 })).room S0 MM (#[.ref h, .int x1] : Array Value) below meth CC H locs 0 0 (MQ below (cQi D (wR h a cA er u.2) A u.1) (#[.ref h, .int x1] : Array Value) S0 0 0 A) (F0 MM 0 ls []) from main _ _ _ hP hD hS hl
  intro H locs ls hP hD hS hl
  refine lv_aload_n hx hb dX8_put_0 rfl (lv_at hl 0 rfl) ?_
  refine va_get (D := D) (ci := 7) (v := .int s.1) (C := RX8) (T := TX8) (N := 3) hx hb hts inX8 hown hK hP 0 rfl rfl 2 (by decide) k0 (fun _ h9 => h9) rfl dX8_put_1 ?_
  refine lv_bipush (v := 30) hx hb dX8_put_4 (by decide +kernel) ?_
  refine lv_icmp_ne (tgt := 14) hx hb dX8_put_6 (by decide) (fun c1 => ?_) (fun c1 => ?_)
  · have hE := if_f c1 hE
    refine lv_aload_n hx hb dX8_put_14 rfl (lv_at hl 0 rfl) ?_
    refine va_get (D := D) (ci := 7) (v := .ref a) (C := RX8) (T := TX8) (N := 3) hx hb hts inX8 hown hK hP 0 rfl rfl 0 (by decide) k2 (fun _ h9 => h9) rfl dX8_put_15 ?_
    refine lv_aload_n hx hb dX8_put_18 rfl (lv_at hl 0 rfl) ?_
    refine va_get (D := D) (ci := 7) (v := .int s.1) (C := RX8) (T := TX8) (N := 3) hx hb hts inX8 hown hK hP 0 rfl rfl 2 (by decide) k0 (fun _ h9 => h9) rfl dX8_put_19 ?_
    refine lv_iload_n hx hb dX8_put_22 rfl (lv_at hl 1 rfl) ?_
    have ⟨c2, hE⟩ := ck_some hE
    refine va_iast hx hb hK hP hD hS 1 0 rfl rfl c2 dX8_put_23 (fun H locs hP hD hS => ?_)
    have hP : va_P D vwCl (wR h a cA er ((s.1, upd s.2 s.1.toNatClampNeg x1))) H := hP
    have hD : va_D A (wR h a cA er ((s.1, upd s.2 s.1.toNatClampNeg x1))) := hD
    refine lv_aload_n hx hb dX8_put_24 rfl (lv_at hl 0 rfl) ?_
    refine lv_dup hx hb dX8_put_25 rfl ?_
    refine va_get (D := D) (ci := 7) (v := .int s.1) (C := RX8) (T := TX8) (N := 3) hx hb hts inX8 hown hK hP 0 rfl rfl 2 (by decide) k0 (fun _ h9 => h9) rfl dX8_put_26 ?_
    refine lv_iconst (v := 1) hx hb dX8_put_29 (by decide +kernel) ?_
    refine lv_iadd hx hb dX8_put_30 ?_
    refine va_put (D := D) (ci := 7) (v := .int (s.1 + 1)) (ty := .int) (C := RX8) (T := TX8) (N := 3) hx hb hts inX8 tyX8 tyX8_ok nmX8 hown hK hP hD hS 0 rfl rfl 2 (by decide) k0 (fun _ h9 => h9) rfl (by decide +kernel) rfl rfl (Nat.le_of_ble_eq_true rfl) dX8_put_31 (fun H locs hP hD hS => ?_)
    have hP : va_P D vwCl (wR h a cA er ((s.1 + 1, upd s.2 s.1.toNatClampNeg x1))) H := hP
    have hD : va_D A (wR h a cA er ((s.1 + 1, upd s.2 s.1.toNatClampNeg x1))) := hD
    refine lv_iconst (v := 0) hx hb dX8_put_34 (by decide +kernel) ?_
    obtain rfl := Option.some.inj hE
    exact rt_i hx hb hr hP hS rfl hlocks dX8_put_35
  · have hE := if_t c1 hE
    refine lv_aload_n hx hb dX8_put_9 rfl (lv_at hl 0 rfl) ?_
    refine va_get (D := D) (ci := 7) (v := .int er) (C := RX8) (T := TX8) (N := 3) hx hb hts inX8 hown hK hP 0 rfl rfl 1 (by decide) k3 (fun _ h9 => h9) rfl dX8_put_10 ?_
    obtain rfl := Option.some.inj hE
    exact rt_i hx hb hr hP hS rfl hlocks dX8_put_13
set_option maxHeartbeats 4000000 in
set_option maxRecDepth 100000 in
theorem c_X8_fromTop (l : Launch) (D : va_G) (cA : Nat → ClassId) (h : Nat) (a : Nat) (sz : Nat) (x1 : Int32) (er : Int32) (s : tR) (u : Int32) (hE : f_X8_fromTop x1 er s = some u) : Met l yX8_fromTop wsX8_fromTop ({ frames := 0, cells := 0, slots := 0, locals := 0 }) (va_Pc [.ref h, .int x1] (PRE D cA (wR h a cA er s) sz (fun _ => True))) (cQi D (wR h a cA er s) (va_A (wR h a cA er s) sz) u) 0 0 (va_A (wR h a cA er s) sz) := by
  refine Met.ofW (cc := cX8_fromTop) (maxL := 2) (ret := (some .int)) (by decide) rfl ?_
  intro PP EE S0 MM args below meth CC S1 B hml hv
  obtain ⟨rfl, hsz, hP, hK, hD0, hX⟩ := hv
  have hx := B.exec
  have hb := B.bytes
  have hr := B.returns
  have hts := atoms_spec (ws := wsX8_fromTop) B.pre
  have hown : S0.vm.findClass RX8 = some MM.cls := findClass_of_methodNamed B.named
  have hlocks := B.notSynchronized
  subst hsz
  have hD := hD0.self (sz := S0.heap.size)
  generalize hAe : va_A (wR h a cA er s) S0.heap.size = A at hD ⊢
  have hA : ∀ q : Nat, S0.heap.size ≤ q → A q := fun q h => by rw [← hAe]; exact Or.inr h
  have hS : va_S A S0.heap S0.heap [] := va_S.rf
  have k0 := hts (.fieldLink RX8 17 "WordForge$Row" "size" "I") (List.mem_of_getElem? (i := 1) rfl)
  have inX8 : ∀ w ∈ wsX80, w ∈ wsX8_fromTop := fun _ h => List.mem_cons_of_mem _ (List.mem_append_right _ h)
  have k2 := hts (.fieldLink RX8 9 "WordForge$Row" "numbers" "[I") (List.mem_of_getElem? (i := 2) rfl)
  have hl := lv_entry ([.ref h, .int x1]) (n := 2) (Nat.le_of_ble_eq_true rfl)
  rw [lg_entry_eq]
  generalize (lg_sl ([.ref h, .int x1]) ++ List.replicate (2 - (lg_sl ([.ref h, .int x1])).length) Slot.unset).toArray = ls at hl ⊢
  have hl : lv_has ls 2 [(0, .ref h), (1, .int x1)] := hl
  unfold f_X8_fromTop at hE
  suffices main : ∀ (H : Heap) (locs : List Loc) (ls : Array Slot), va_P D vwCl (wR h a cA er s) H → va_D A (wR h a cA er s) → va_S A S0.heap H locs → lv_has ls 2 [(0, .ref h), (1, .int x1)] → W PP l EE (headSpec wsX8_fromTop ({ frames := 0, cells := 0, slots := 0, locals := 0 })).room S0 MM (#[.ref h, .int x1] : Array Value) below meth CC H locs 0 0 (MQ below (cQi D (wR h a cA er s) A u) (#[.ref h, .int x1] : Array Value) S0 0 0 A) (F0 MM 0 ls []) from main _ _ _ hP hD hS hl
  intro H locs ls hP hD hS hl
  refine lv_iload_n hx hb dX8_fromTop_0 rfl (lv_at hl 1 rfl) ?_
  refine lv_if_lt (tgt := 28) hx hb dX8_fromTop_1 (by decide) (fun c1 => ?_) (fun c1 => ?_)
  · have hE := if_t c1 hE
    refine lv_iconst (v := 0) hx hb dX8_fromTop_28 (by decide +kernel) ?_
    obtain rfl := Option.some.inj hE
    exact rt_i hx hb hr hP hS rfl hlocks dX8_fromTop_29
  · have hE := if_f c1 hE
    refine lv_iload_n hx hb dX8_fromTop_4 rfl (lv_at hl 1 rfl) ?_
    refine lv_aload_n hx hb dX8_fromTop_5 rfl (lv_at hl 0 rfl) ?_
    refine va_get (D := D) (ci := 7) (v := .int s.1) (C := RX8) (T := TX8) (N := 3) hx hb hts inX8 hown hK hP 0 rfl rfl 2 (by decide) k0 (fun _ h9 => h9) rfl dX8_fromTop_6 ?_
    refine lv_icmp_ge (tgt := 28) hx hb dX8_fromTop_9 (by decide) (fun c2 => ?_) (fun c2 => ?_)
    · have hE := if_t c2 hE
      refine lv_iconst (v := 0) hx hb dX8_fromTop_28 (by decide +kernel) ?_
      obtain rfl := Option.some.inj hE
      exact rt_i hx hb hr hP hS rfl hlocks dX8_fromTop_29
    · have hE := if_f c2 hE
      refine lv_aload_n hx hb dX8_fromTop_12 rfl (lv_at hl 0 rfl) ?_
      refine va_get (D := D) (ci := 7) (v := .ref a) (C := RX8) (T := TX8) (N := 3) hx hb hts inX8 hown hK hP 0 rfl rfl 0 (by decide) k2 (fun _ h9 => h9) rfl dX8_fromTop_13 ?_
      refine lv_aload_n hx hb dX8_fromTop_16 rfl (lv_at hl 0 rfl) ?_
      refine va_get (D := D) (ci := 7) (v := .int s.1) (C := RX8) (T := TX8) (N := 3) hx hb hts inX8 hown hK hP 0 rfl rfl 2 (by decide) k0 (fun _ h9 => h9) rfl dX8_fromTop_17 ?_
      refine lv_iconst (v := 1) hx hb dX8_fromTop_20 (by decide +kernel) ?_
      refine lv_isub hx hb dX8_fromTop_21 ?_
      refine lv_iload_n hx hb dX8_fromTop_22 rfl (lv_at hl 1 rfl) ?_
      refine lv_isub hx hb dX8_fromTop_23 ?_
      have ⟨c3, hE⟩ := ck_some hE
      refine va_iald hx hb hK hP 1 0 rfl rfl c3 dX8_fromTop_24 ?_
      refine lv_goto (tgt := 29) hx hb dX8_fromTop_25 (by decide) ?_
      obtain rfl := Option.some.inj hE
      exact rt_i hx hb hr hP hS rfl hlocks dX8_fromTop_29
set_option maxHeartbeats 4000000 in
set_option maxRecDepth 100000 in
theorem c_X8_drop (l : Launch) (D : va_G) (cA : Nat → ClassId) (h : Nat) (a : Nat) (sz : Nat) (x1 : Int32) (er : Int32) (s : tR) (u : tR) (hE : f_X8_drop x1 er s = some u) : Met l yX8_drop wsX8_drop ({ frames := 0, cells := 0, slots := 0, locals := 0 }) (va_Pc [.ref h, .int x1] (PRE D cA (wR h a cA er s) sz (fun _ => True))) (cQv D (wR h a cA er u) (va_A (wR h a cA er s) sz)) 0 0 (va_A (wR h a cA er s) sz) := by
  refine Met.ofW (cc := cX8_drop) (maxL := 2) (ret := none) (by decide) rfl ?_
  intro PP EE S0 MM args below meth CC S1 B hml hv
  obtain ⟨rfl, hsz, hP, hK, hD0, hX⟩ := hv
  have hx := B.exec
  have hb := B.bytes
  have hr := B.returns
  have hts := atoms_spec (ws := wsX8_drop) B.pre
  have hown : S0.vm.findClass RX8 = some MM.cls := findClass_of_methodNamed B.named
  have hlocks := B.notSynchronized
  subst hsz
  have hD := hD0.self (sz := S0.heap.size)
  generalize hAe : va_A (wR h a cA er s) S0.heap.size = A at hD ⊢
  have hA : ∀ q : Nat, S0.heap.size ≤ q → A q := fun q h => by rw [← hAe]; exact Or.inr h
  have hS : va_S A S0.heap S0.heap [] := va_S.rf
  have k0 := hts (.fieldLink RX8 17 "WordForge$Row" "size" "I") (List.mem_of_getElem? (i := 1) rfl)
  have inX8 : ∀ w ∈ wsX80, w ∈ wsX8_drop := fun _ h => List.mem_cons_of_mem _ (List.mem_append_right _ h)
  have hl := lv_entry ([.ref h, .int x1]) (n := 2) (Nat.le_of_ble_eq_true rfl)
  rw [lg_entry_eq]
  generalize (lg_sl ([.ref h, .int x1]) ++ List.replicate (2 - (lg_sl ([.ref h, .int x1])).length) Slot.unset).toArray = ls at hl ⊢
  have hl : lv_has ls 2 [(0, .ref h), (1, .int x1)] := hl
  have w19 : ∀ (z0 : Int32) (s : tR) (H : Heap) (locs : List Loc) (ls : Array Slot), va_P D vwCl (wR h a cA er s) H → va_D A (wR h a cA er s) → va_S A S0.heap H locs → lv_has ls 2 [] → b_X8_drop_19 er z0 s = some u → W PP l EE (headSpec wsX8_drop ({ frames := 0, cells := 0, slots := 0, locals := 0 })).room S0 MM (#[.ref h, .int x1] : Array Value) below meth CC H locs 0 0 (MQ below (cQv D (wR h a cA er u) A) (#[.ref h, .int x1] : Array Value) S0 0 0 A) (F0 MM 19 ls [.int z0, .ref h]) := by
    intro z0 s
    intro H locs ls hP hD hS hl hE
    unfold b_X8_drop_19 at hE
    refine va_put (D := D) (ci := 7) (v := .int z0) (ty := .int) (C := RX8) (T := TX8) (N := 3) hx hb hts inX8 tyX8 tyX8_ok nmX8 hown hK hP hD hS 0 rfl rfl 2 (by decide) k0 (fun _ h9 => h9) rfl (by decide +kernel) rfl rfl (Nat.le_of_ble_eq_true rfl) dX8_drop_19 (fun H locs hP hD hS => ?_)
    have hP : va_P D vwCl (wR h a cA er ((z0, s.2))) H := hP
    have hD : va_D A (wR h a cA er ((z0, s.2))) := hD
    obtain rfl := Option.some.inj hE
    exact rt_v hx hb hr hP hS hlocks dX8_drop_22
  unfold f_X8_drop at hE
  suffices main : ∀ (H : Heap) (locs : List Loc) (ls : Array Slot), va_P D vwCl (wR h a cA er s) H → va_D A (wR h a cA er s) → va_S A S0.heap H locs → lv_has ls 2 [(0, .ref h), (1, .int x1)] → W PP l EE (headSpec wsX8_drop ({ frames := 0, cells := 0, slots := 0, locals := 0 })).room S0 MM (#[.ref h, .int x1] : Array Value) below meth CC H locs 0 0 (MQ below (cQv D (wR h a cA er u) A) (#[.ref h, .int x1] : Array Value) S0 0 0 A) (F0 MM 0 ls []) from main _ _ _ hP hD hS hl
  intro H locs ls hP hD hS hl
  refine lv_aload_n hx hb dX8_drop_0 rfl (lv_at hl 0 rfl) ?_
  refine lv_iload_n hx hb dX8_drop_1 rfl (lv_at hl 1 rfl) ?_
  refine lv_aload_n hx hb dX8_drop_2 rfl (lv_at hl 0 rfl) ?_
  refine va_get (D := D) (ci := 7) (v := .int s.1) (C := RX8) (T := TX8) (N := 3) hx hb hts inX8 hown hK hP 0 rfl rfl 2 (by decide) k0 (fun _ h9 => h9) rfl dX8_drop_3 ?_
  refine lv_icmp_ge (tgt := 18) hx hb dX8_drop_6 (by decide) (fun c1 => ?_) (fun c1 => ?_)
  · have hE := if_t c1 hE
    refine lv_iconst (v := 0) hx hb dX8_drop_18 (by decide +kernel) ?_
    exact w19  0 s H locs ls hP hD hS (lv_sub hl [] rfl) hE
  · have hE := if_f c1 hE
    refine lv_aload_n hx hb dX8_drop_9 rfl (lv_at hl 0 rfl) ?_
    refine va_get (D := D) (ci := 7) (v := .int s.1) (C := RX8) (T := TX8) (N := 3) hx hb hts inX8 hown hK hP 0 rfl rfl 2 (by decide) k0 (fun _ h9 => h9) rfl dX8_drop_10 ?_
    refine lv_iload_n hx hb dX8_drop_13 rfl (lv_at hl 1 rfl) ?_
    refine lv_isub hx hb dX8_drop_14 ?_
    refine lv_goto (tgt := 19) hx hb dX8_drop_15 (by decide) ?_
    exact w19  (s.1 - x1) s H locs ls hP hD hS (lv_sub hl [] rfl) hE
set_option maxRecDepth 20000 in
theorem hX8_take_X8_fromTop_20 : GoodIn wsX8_take (wsV RX8 20 RX8 yX8_fromTop wsX8_fromTop) := goodIn_r _ [1, 2, 3, 4, 5, 6, 7, 12, 13, 14] rfl (by decide +kernel)
set_option maxRecDepth 20000 in
theorem hX8_take_X8_drop_24 : GoodIn wsX8_take (wsV RX8 24 RX8 yX8_drop wsX8_drop) := goodIn_r _ [8, 9, 10, 4, 11, 6, 12, 13, 14] rfl (by decide +kernel)
set_option maxHeartbeats 4000000 in
set_option maxRecDepth 100000 in
theorem c_X8_take (l : Launch) (D : va_G) (cA : Nat → ClassId) (h : Nat) (a : Nat) (sz : Nat) (er : Int32) (s : tR) (u : Int32 × tR) (hE : f_X8_take er s = some u) : Met l yX8_take wsX8_take ({ frames := 1, cells := 0, slots := 0, locals := 21 }) (va_Pc [.ref h] (PRE D cA (wR h a cA er s) sz (fun _ => True))) (cQi D (wR h a cA er u.2) (va_A (wR h a cA er s) sz) u.1) 0 0 (va_A (wR h a cA er s) sz) := by
  refine Met.ofW (cc := cX8_take) (maxL := 2) (ret := (some .int)) (by decide) rfl ?_
  intro PP EE S0 MM args below meth CC S1 B hml hv
  obtain ⟨rfl, hsz, hP, hK, hD0, hX⟩ := hv
  have hx := B.exec
  have hb := B.bytes
  have hr := B.returns
  have hts := atoms_spec (ws := wsX8_take) B.pre
  have hown : S0.vm.findClass RX8 = some MM.cls := findClass_of_methodNamed B.named
  have hlocks := B.notSynchronized
  subst hsz
  have hD := hD0.self (sz := S0.heap.size)
  generalize hAe : va_A (wR h a cA er s) S0.heap.size = A at hD ⊢
  have hA : ∀ q : Nat, S0.heap.size ≤ q → A q := fun q h => by rw [← hAe]; exact Or.inr h
  have hS : va_S A S0.heap S0.heap [] := va_S.rf
  have hl := lv_entry ([.ref h]) (n := 2) (Nat.le_of_ble_eq_true rfl)
  rw [lg_entry_eq]
  generalize (lg_sl ([.ref h]) ++ List.replicate (2 - (lg_sl ([.ref h])).length) Slot.unset).toArray = ls at hl ⊢
  have hl : lv_has ls 2 [(0, .ref h)] := hl
  unfold f_X8_take at hE
  suffices main : ∀ (H : Heap) (locs : List Loc) (ls : Array Slot), va_P D vwCl (wR h a cA er s) H → va_D A (wR h a cA er s) → va_S A S0.heap H locs → lv_has ls 2 [(0, .ref h)] → W PP l EE (headSpec wsX8_take ({ frames := 1, cells := 0, slots := 0, locals := 21 })).room S0 MM (#[.ref h] : Array Value) below meth CC H locs 0 0 (MQ below (cQi D (wR h a cA er u.2) A u.1) (#[.ref h] : Array Value) S0 0 0 A) (F0 MM 0 ls []) from main _ _ _ hP hD hS hl
  intro H locs ls hP hD hS hl
  refine lv_aload_n hx hb dX8_take_0 rfl (lv_at hl 0 rfl) ?_
  refine lv_iconst (v := 0) hx hb dX8_take_1 (by decide +kernel) ?_
  obtain ⟨u1, h2, hE⟩ := bd_some hE
  refine cw_i (As := [.int 0]) (rest := []) (r := u1) (wc := (wR h a cA er s)) ⟨hx, hb, hml, hown, hts⟩ (c_X8_fromTop l D cA h a H.size 0 er s u1 h2) (cwV 1 hts hX8_take_X8_fromTop_20 rfl rfl rfl (by decide +kernel) ⟨Nat.le_of_ble_eq_true rfl, Nat.le_of_ble_eq_true rfl⟩) rfl hl.1 rfl (Nat.le_of_ble_eq_true rfl) dX8_take_2 ⟨Nat.zero_le _, Nat.zero_le _⟩ hK hP hD hS hA (va_recv hK hP (ci := 7) (q0 := 0) rfl rfl) [h, a] rfl rfl (fun _ _ _ _ h => h) (fun _ _ _ => trivial) (fun H locs hP hD hS => ?_)
  have hP : va_P D vwCl (wR h a cA er s) H := hP
  have hD : va_D A (wR h a cA er s) := hD
  refine lv_istore_n (lv' := [(1, .int u1), (0, .ref h)]) hx hb dX8_take_5 rfl hl (by decide) rfl (fun ls hl => ?_)
  refine lv_aload_n hx hb dX8_take_6 rfl (lv_at hl 1 rfl) ?_
  refine lv_iconst (v := 1) hx hb dX8_take_7 (by decide +kernel) ?_
  obtain ⟨u3, h4, hE⟩ := bd_some hE
  refine cw_v (As := [.int 1]) (rest := []) (wc := (wR h a cA er s)) ⟨hx, hb, hml, hown, hts⟩ (c_X8_drop l D cA h a H.size 1 er s u3 h4) (cwV 1 hts hX8_take_X8_drop_24 rfl rfl rfl (by decide +kernel) ⟨Nat.le_of_ble_eq_true rfl, Nat.le_of_ble_eq_true rfl⟩) rfl hl.1 rfl (Nat.le_of_ble_eq_true rfl) dX8_take_8 ⟨Nat.zero_le _, Nat.zero_le _⟩ hK hP hD hS hA (va_recv hK hP (ci := 7) (q0 := 0) rfl rfl) [h, a] rfl rfl (fun _ _ _ _ h => h) (fun _ _ _ => trivial) (fun H locs hP hD hS => ?_)
  have hP : va_P D vwCl (wR h a cA er u3) H := hP
  have hD : va_D A (wR h a cA er u3) := hD
  refine lv_iload_n hx hb dX8_take_11 rfl (lv_at hl 0 rfl) ?_
  obtain rfl := Option.some.inj hE
  exact rt_i hx hb hr hP hS rfl hlocks dX8_take_12
set_option maxRecDepth 20000 in
theorem hX8_dropOneUnless_X8_drop_24 : GoodIn wsX8_dropOneUnless (wsV RX8 24 RX8 yX8_drop wsX8_drop) := goodIn_r _ [1, 2, 3, 4, 5, 6, 7, 8, 9] rfl (by decide +kernel)
set_option maxHeartbeats 4000000 in
set_option maxRecDepth 100000 in
theorem c_X8_dropOneUnless (l : Launch) (D : va_G) (cA : Nat → ClassId) (h : Nat) (a : Nat) (sz : Nat) (x1 : Int32) (er : Int32) (s : tR) (u : Int32 × tR) (hE : f_X8_dropOneUnless x1 er s = some u) : Met l yX8_dropOneUnless wsX8_dropOneUnless ({ frames := 1, cells := 0, slots := 0, locals := 21 }) (va_Pc [.ref h, .int x1] (PRE D cA (wR h a cA er s) sz (fun _ => True))) (cQi D (wR h a cA er u.2) (va_A (wR h a cA er s) sz) u.1) 0 0 (va_A (wR h a cA er s) sz) := by
  refine Met.ofW (cc := cX8_dropOneUnless) (maxL := 2) (ret := (some .int)) (by decide) rfl ?_
  intro PP EE S0 MM args below meth CC S1 B hml hv
  obtain ⟨rfl, hsz, hP, hK, hD0, hX⟩ := hv
  have hx := B.exec
  have hb := B.bytes
  have hr := B.returns
  have hts := atoms_spec (ws := wsX8_dropOneUnless) B.pre
  have hown : S0.vm.findClass RX8 = some MM.cls := findClass_of_methodNamed B.named
  have hlocks := B.notSynchronized
  subst hsz
  have hD := hD0.self (sz := S0.heap.size)
  generalize hAe : va_A (wR h a cA er s) S0.heap.size = A at hD ⊢
  have hA : ∀ q : Nat, S0.heap.size ≤ q → A q := fun q h => by rw [← hAe]; exact Or.inr h
  have hS : va_S A S0.heap S0.heap [] := va_S.rf
  have hl := lv_entry ([.ref h, .int x1]) (n := 2) (Nat.le_of_ble_eq_true rfl)
  rw [lg_entry_eq]
  generalize (lg_sl ([.ref h, .int x1]) ++ List.replicate (2 - (lg_sl ([.ref h, .int x1])).length) Slot.unset).toArray = ls at hl ⊢
  have hl : lv_has ls 2 [(0, .ref h), (1, .int x1)] := hl
  unfold f_X8_dropOneUnless at hE
  suffices main : ∀ (H : Heap) (locs : List Loc) (ls : Array Slot), va_P D vwCl (wR h a cA er s) H → va_D A (wR h a cA er s) → va_S A S0.heap H locs → lv_has ls 2 [(0, .ref h), (1, .int x1)] → W PP l EE (headSpec wsX8_dropOneUnless ({ frames := 1, cells := 0, slots := 0, locals := 21 })).room S0 MM (#[.ref h, .int x1] : Array Value) below meth CC H locs 0 0 (MQ below (cQi D (wR h a cA er u.2) A u.1) (#[.ref h, .int x1] : Array Value) S0 0 0 A) (F0 MM 0 ls []) from main _ _ _ hP hD hS hl
  intro H locs ls hP hD hS hl
  refine lv_iload_n hx hb dX8_dropOneUnless_0 rfl (lv_at hl 1 rfl) ?_
  refine lv_if_ne (tgt := 9) hx hb dX8_dropOneUnless_1 (by decide) (fun c1 => ?_) (fun c1 => ?_)
  · have hE := if_f c1 hE
    refine lv_iload_n hx hb dX8_dropOneUnless_9 rfl (lv_at hl 1 rfl) ?_
    obtain rfl := Option.some.inj hE
    exact rt_i hx hb hr hP hS rfl hlocks dX8_dropOneUnless_10
  · have hE := if_t c1 hE
    refine lv_aload_n hx hb dX8_dropOneUnless_4 rfl (lv_at hl 0 rfl) ?_
    refine lv_iconst (v := 1) hx hb dX8_dropOneUnless_5 (by decide +kernel) ?_
    obtain ⟨u2, h3, hE⟩ := bd_some hE
    refine cw_v (As := [.int 1]) (rest := []) (wc := (wR h a cA er s)) ⟨hx, hb, hml, hown, hts⟩ (c_X8_drop l D cA h a H.size 1 er s u2 h3) (cwV 1 hts hX8_dropOneUnless_X8_drop_24 rfl rfl rfl (by decide +kernel) ⟨Nat.le_of_ble_eq_true rfl, Nat.le_of_ble_eq_true rfl⟩) rfl hl.1 rfl (Nat.le_of_ble_eq_true rfl) dX8_dropOneUnless_6 ⟨Nat.zero_le _, Nat.zero_le _⟩ hK hP hD hS hA (va_recv hK hP (ci := 7) (q0 := 0) rfl rfl) [h, a] rfl rfl (fun _ _ _ _ h => h) (fun _ _ _ => trivial) (fun H locs hP hD hS => ?_)
    have hP : va_P D vwCl (wR h a cA er u2) H := hP
    have hD : va_D A (wR h a cA er u2) := hD
    refine lv_iload_n hx hb dX8_dropOneUnless_9 rfl (lv_at hl 1 rfl) ?_
    obtain rfl := Option.some.inj hE
    exact rt_i hx hb hr hP hS rfl hlocks dX8_dropOneUnless_10
set_option maxHeartbeats 4000000 in
set_option maxRecDepth 100000 in
theorem c_X8_replaceTop (l : Launch) (D : va_G) (cA : Nat → ClassId) (h : Nat) (a : Nat) (sz : Nat) (x1 : Int32) (er : Int32) (s : tR) (u : tR) (hE : f_X8_replaceTop x1 er s = some u) : Met l yX8_replaceTop wsX8_replaceTop ({ frames := 0, cells := 0, slots := 0, locals := 0 }) (va_Pc [.ref h, .int x1] (PRE D cA (wR h a cA er s) sz (fun _ => True))) (cQv D (wR h a cA er u) (va_A (wR h a cA er s) sz)) 0 0 (va_A (wR h a cA er s) sz) := by
  refine Met.ofW (cc := cX8_replaceTop) (maxL := 2) (ret := none) (by decide) rfl ?_
  intro PP EE S0 MM args below meth CC S1 B hml hv
  obtain ⟨rfl, hsz, hP, hK, hD0, hX⟩ := hv
  have hx := B.exec
  have hb := B.bytes
  have hr := B.returns
  have hts := atoms_spec (ws := wsX8_replaceTop) B.pre
  have hown : S0.vm.findClass RX8 = some MM.cls := findClass_of_methodNamed B.named
  have hlocks := B.notSynchronized
  subst hsz
  have hD := hD0.self (sz := S0.heap.size)
  generalize hAe : va_A (wR h a cA er s) S0.heap.size = A at hD ⊢
  have hA : ∀ q : Nat, S0.heap.size ≤ q → A q := fun q h => by rw [← hAe]; exact Or.inr h
  have hS : va_S A S0.heap S0.heap [] := va_S.rf
  have k0 := hts (.fieldLink RX8 17 "WordForge$Row" "size" "I") (List.mem_of_getElem? (i := 1) rfl)
  have inX8 : ∀ w ∈ wsX80, w ∈ wsX8_replaceTop := fun _ h => List.mem_cons_of_mem _ (List.mem_append_right _ h)
  have k2 := hts (.fieldLink RX8 9 "WordForge$Row" "numbers" "[I") (List.mem_of_getElem? (i := 2) rfl)
  have hl := lv_entry ([.ref h, .int x1]) (n := 2) (Nat.le_of_ble_eq_true rfl)
  rw [lg_entry_eq]
  generalize (lg_sl ([.ref h, .int x1]) ++ List.replicate (2 - (lg_sl ([.ref h, .int x1])).length) Slot.unset).toArray = ls at hl ⊢
  have hl : lv_has ls 2 [(0, .ref h), (1, .int x1)] := hl
  unfold f_X8_replaceTop at hE
  suffices main : ∀ (H : Heap) (locs : List Loc) (ls : Array Slot), va_P D vwCl (wR h a cA er s) H → va_D A (wR h a cA er s) → va_S A S0.heap H locs → lv_has ls 2 [(0, .ref h), (1, .int x1)] → W PP l EE (headSpec wsX8_replaceTop ({ frames := 0, cells := 0, slots := 0, locals := 0 })).room S0 MM (#[.ref h, .int x1] : Array Value) below meth CC H locs 0 0 (MQ below (cQv D (wR h a cA er u) A) (#[.ref h, .int x1] : Array Value) S0 0 0 A) (F0 MM 0 ls []) from main _ _ _ hP hD hS hl
  intro H locs ls hP hD hS hl
  refine lv_aload_n hx hb dX8_replaceTop_0 rfl (lv_at hl 0 rfl) ?_
  refine va_get (D := D) (ci := 7) (v := .int s.1) (C := RX8) (T := TX8) (N := 3) hx hb hts inX8 hown hK hP 0 rfl rfl 2 (by decide) k0 (fun _ h9 => h9) rfl dX8_replaceTop_1 ?_
  refine lv_if_le (tgt := 19) hx hb dX8_replaceTop_4 (by decide) (fun c1 => ?_) (fun c1 => ?_)
  · have hE := if_t c1 hE
    obtain rfl := Option.some.inj hE
    exact rt_v hx hb hr hP hS hlocks dX8_replaceTop_19
  · have hE := if_f c1 hE
    refine lv_aload_n hx hb dX8_replaceTop_7 rfl (lv_at hl 0 rfl) ?_
    refine va_get (D := D) (ci := 7) (v := .ref a) (C := RX8) (T := TX8) (N := 3) hx hb hts inX8 hown hK hP 0 rfl rfl 0 (by decide) k2 (fun _ h9 => h9) rfl dX8_replaceTop_8 ?_
    refine lv_aload_n hx hb dX8_replaceTop_11 rfl (lv_at hl 0 rfl) ?_
    refine va_get (D := D) (ci := 7) (v := .int s.1) (C := RX8) (T := TX8) (N := 3) hx hb hts inX8 hown hK hP 0 rfl rfl 2 (by decide) k0 (fun _ h9 => h9) rfl dX8_replaceTop_12 ?_
    refine lv_iconst (v := 1) hx hb dX8_replaceTop_15 (by decide +kernel) ?_
    refine lv_isub hx hb dX8_replaceTop_16 ?_
    refine lv_iload_n hx hb dX8_replaceTop_17 rfl (lv_at hl 1 rfl) ?_
    have ⟨c2, hE⟩ := ck_some hE
    refine va_iast hx hb hK hP hD hS 1 0 rfl rfl c2 dX8_replaceTop_18 (fun H locs hP hD hS => ?_)
    have hP : va_P D vwCl (wR h a cA er ((s.1, upd s.2 ((s.1 - 1).toNatClampNeg) x1))) H := hP
    have hD : va_D A (wR h a cA er ((s.1, upd s.2 ((s.1 - 1).toNatClampNeg) x1))) := hD
    obtain rfl := Option.some.inj hE
    exact rt_v hx hb hr hP hS hlocks dX8_replaceTop_19
set_option maxRecDepth 20000 in
theorem hX8_raise_X8_fromTop_20 : GoodIn wsX8_raise (wsV RX8 20 RX8 yX8_fromTop wsX8_fromTop) := goodIn_r _ [3, 4, 5, 6, 7, 1, 2, 12, 13, 14] rfl (by decide +kernel)
set_option maxRecDepth 20000 in
theorem hX8_raise_X8_replaceTop_28 : GoodIn wsX8_raise (wsV RX8 28 RX8 yX8_replaceTop wsX8_replaceTop) := goodIn_r _ [8, 9, 10, 6, 11, 1, 2, 12, 13, 14] rfl (by decide +kernel)
set_option maxHeartbeats 4000000 in
set_option maxRecDepth 100000 in
theorem c_X8_raise (l : Launch) (D : va_G) (cA : Nat → ClassId) (h : Nat) (a : Nat) (sz : Nat) (x1 : Int32) (er : Int32) (s : tR) (u : tR) (hE : f_X8_raise x1 er s = some u) : Met l yX8_raise wsX8_raise ({ frames := 1, cells := 0, slots := 0, locals := 21 }) (va_Pc [.ref h, .int x1] (PRE D cA (wR h a cA er s) sz (fun _ => True))) (cQv D (wR h a cA er u) (va_A (wR h a cA er s) sz)) 0 0 (va_A (wR h a cA er s) sz) := by
  refine Met.ofW (cc := cX8_raise) (maxL := 4) (ret := none) (by decide) rfl ?_
  intro PP EE S0 MM args below meth CC S1 B hml hv
  obtain ⟨rfl, hsz, hP, hK, hD0, hX⟩ := hv
  have hx := B.exec
  have hb := B.bytes
  have hr := B.returns
  have hts := atoms_spec (ws := wsX8_raise) B.pre
  have hown : S0.vm.findClass RX8 = some MM.cls := findClass_of_methodNamed B.named
  have hlocks := B.notSynchronized
  subst hsz
  have hD := hD0.self (sz := S0.heap.size)
  generalize hAe : va_A (wR h a cA er s) S0.heap.size = A at hD ⊢
  have hA : ∀ q : Nat, S0.heap.size ≤ q → A q := fun q h => by rw [← hAe]; exact Or.inr h
  have hS : va_S A S0.heap S0.heap [] := va_S.rf
  have k0 := hts (.fieldLink RX8 17 "WordForge$Row" "size" "I") (List.mem_of_getElem? (i := 1) rfl)
  have inX8 : ∀ w ∈ wsX80, w ∈ wsX8_raise := fun _ h => List.mem_cons_of_mem _ (List.mem_append_right _ h)
  have k2 := hts (.fieldLink RX8 9 "WordForge$Row" "numbers" "[I") (List.mem_of_getElem? (i := 2) rfl)
  have hl := lv_entry ([.ref h, .int x1]) (n := 4) (Nat.le_of_ble_eq_true rfl)
  rw [lg_entry_eq]
  generalize (lg_sl ([.ref h, .int x1]) ++ List.replicate (4 - (lg_sl ([.ref h, .int x1])).length) Slot.unset).toArray = ls at hl ⊢
  have hl : lv_has ls 4 [(0, .ref h), (1, .int x1)] := hl
  have w50 : ∀ (y2 : Int32) (s : tR) (H : Heap) (locs : List Loc) (ls : Array Slot), va_P D vwCl (wR h a cA er s) H → va_D A (wR h a cA er s) → va_S A S0.heap H locs → lv_has ls 4 [(0, .ref h), (2, .int y2)] → b_X8_raise_50 er y2 s = some u → W PP l EE (headSpec wsX8_raise ({ frames := 1, cells := 0, slots := 0, locals := 21 })).room S0 MM (#[.ref h, .int x1] : Array Value) below meth CC H locs 0 0 (MQ below (cQv D (wR h a cA er u) A) (#[.ref h, .int x1] : Array Value) S0 0 0 A) (F0 MM 50 ls []) := by
    intro y2 s
    intro H locs ls hP hD hS hl hE
    unfold b_X8_raise_50 at hE
    refine lv_aload_n hx hb dX8_raise_50 rfl (lv_at hl 0 rfl) ?_
    refine lv_iload_n hx hb dX8_raise_51 rfl (lv_at hl 1 rfl) ?_
    obtain ⟨u7, h8, hE⟩ := bd_some hE
    refine cw_v (As := [.int y2]) (rest := []) (wc := (wR h a cA er s)) ⟨hx, hb, hml, hown, hts⟩ (c_X8_replaceTop l D cA h a H.size y2 er s u7 h8) (cwV 1 hts hX8_raise_X8_replaceTop_28 rfl rfl rfl (by decide +kernel) ⟨Nat.le_of_ble_eq_true rfl, Nat.le_of_ble_eq_true rfl⟩) rfl hl.1 rfl (Nat.le_of_ble_eq_true rfl) dX8_raise_52 ⟨Nat.zero_le _, Nat.zero_le _⟩ hK hP hD hS hA (va_recv hK hP (ci := 7) (q0 := 0) rfl rfl) [h, a] rfl rfl (fun _ _ _ _ h => h) (fun _ _ _ => trivial) (fun H locs hP hD hS => ?_)
    have hP : va_P D vwCl (wR h a cA er u7) H := hP
    have hD : va_D A (wR h a cA er u7) := hD
    obtain rfl := Option.some.inj hE
    exact rt_v hx hb hr hP hS hlocks dX8_raise_55
  have w8 : ∀ (n : Nat), ∀ (y2 : Int32) (y3 : Int32) (s : tR) (H : Heap) (locs : List Loc) (ls : Array Slot), va_P D vwCl (wR h a cA er s) H → va_D A (wR h a cA er s) → va_S A S0.heap H locs → lv_has ls 4 [(0, .ref h), (2, .int y2), (3, .int y3)] → b_X8_raise_8 er n y2 y3 s = some u → W PP l EE (headSpec wsX8_raise ({ frames := 1, cells := 0, slots := 0, locals := 21 })).room S0 MM (#[.ref h, .int x1] : Array Value) below meth CC H locs 0 0 (MQ below (cQv D (wR h a cA er u) A) (#[.ref h, .int x1] : Array Value) S0 0 0 A) (F0 MM 8 ls []) := by
    intro  n
    induction n with
    | zero => intros; rename_i hE; exact absurd hE (by simp [b_X8_raise_8])
    | succ n ih8 =>
      intro y2 y3 s
      intro H locs ls hP hD hS hl hE
      unfold b_X8_raise_8 at hE
      refine lv_iload_n hx hb dX8_raise_8 rfl (lv_at hl 2 rfl) ?_
      refine lv_if_le (tgt := 50) hx hb dX8_raise_9 (by decide) (fun c3 => ?_) (fun c3 => ?_)
      · have hE := if_t c3 hE
        exact w50  y2 s H locs ls hP hD hS (lv_sub hl [0, 1] rfl) hE
      · have hE := if_f c3 hE
        refine lv_iload_n hx hb dX8_raise_12 rfl (lv_at hl 2 rfl) ?_
        refine lv_aload_n hx hb dX8_raise_13 rfl (lv_at hl 0 rfl) ?_
        refine va_get (D := D) (ci := 7) (v := .int s.1) (C := RX8) (T := TX8) (N := 3) hx hb hts inX8 hown hK hP 0 rfl rfl 2 (by decide) k0 (fun _ h9 => h9) rfl dX8_raise_14 ?_
        refine lv_icmp_ge (tgt := 50) hx hb dX8_raise_17 (by decide) (fun c4 => ?_) (fun c4 => ?_)
        · have hE := if_t c4 hE
          exact w50  y2 s H locs ls hP hD hS (lv_sub hl [0, 1] rfl) hE
        · have hE := if_f c4 hE
          refine lv_aload_n hx hb dX8_raise_20 rfl (lv_at hl 0 rfl) ?_
          refine va_get (D := D) (ci := 7) (v := .ref a) (C := RX8) (T := TX8) (N := 3) hx hb hts inX8 hown hK hP 0 rfl rfl 0 (by decide) k2 (fun _ h9 => h9) rfl dX8_raise_21 ?_
          refine lv_aload_n hx hb dX8_raise_24 rfl (lv_at hl 0 rfl) ?_
          refine va_get (D := D) (ci := 7) (v := .int s.1) (C := RX8) (T := TX8) (N := 3) hx hb hts inX8 hown hK hP 0 rfl rfl 2 (by decide) k0 (fun _ h9 => h9) rfl dX8_raise_25 ?_
          refine lv_iconst (v := 1) hx hb dX8_raise_28 (by decide +kernel) ?_
          refine lv_isub hx hb dX8_raise_29 ?_
          refine lv_iload_n hx hb dX8_raise_30 rfl (lv_at hl 2 rfl) ?_
          refine lv_isub hx hb dX8_raise_31 ?_
          refine lv_aload_n hx hb dX8_raise_32 rfl (lv_at hl 0 rfl) ?_
          refine va_get (D := D) (ci := 7) (v := .ref a) (C := RX8) (T := TX8) (N := 3) hx hb hts inX8 hown hK hP 0 rfl rfl 0 (by decide) k2 (fun _ h9 => h9) rfl dX8_raise_33 ?_
          refine lv_aload_n hx hb dX8_raise_36 rfl (lv_at hl 0 rfl) ?_
          refine va_get (D := D) (ci := 7) (v := .int s.1) (C := RX8) (T := TX8) (N := 3) hx hb hts inX8 hown hK hP 0 rfl rfl 2 (by decide) k0 (fun _ h9 => h9) rfl dX8_raise_37 ?_
          refine lv_iload_n hx hb dX8_raise_40 rfl (lv_at hl 2 rfl) ?_
          refine lv_isub hx hb dX8_raise_41 ?_
          have ⟨c5, hE⟩ := ck_some hE
          refine va_iald hx hb hK hP 1 0 rfl rfl c5 dX8_raise_42 ?_
          have ⟨c6, hE⟩ := ck_some hE
          refine va_iast hx hb hK hP hD hS 1 0 rfl rfl c6 dX8_raise_43 (fun H locs hP hD hS => ?_)
          have hP : va_P D vwCl (wR h a cA er ((s.1, upd s.2 (((s.1 - 1) - y3).toNatClampNeg) (s.2 ((s.1 - y3).toNatClampNeg))))) H := hP
          have hD : va_D A (wR h a cA er ((s.1, upd s.2 (((s.1 - 1) - y3).toNatClampNeg) (s.2 ((s.1 - y3).toNatClampNeg))))) := hD
          refine lv_iinc (v := y3 + (-1)) (lv' := [(3, .int (y3 + (-1))), (0, .ref h), (2, .int y2)]) hx hb dX8_raise_44 hl (k := 2) rfl rfl (by decide) rfl (fun ls hl => ?_)
          refine lv_goto (tgt := 8) hx hb dX8_raise_47 (by decide) ?_
          exact ih8 y2 (y3 + (-1)) ((s.1, upd s.2 (((s.1 - 1) - y3).toNatClampNeg) (s.2 ((s.1 - y3).toNatClampNeg)))) H locs ls hP hD hS (lv_sub hl [1, 2, 0] rfl) hE
  unfold f_X8_raise at hE
  suffices main : ∀ (H : Heap) (locs : List Loc) (ls : Array Slot), va_P D vwCl (wR h a cA er s) H → va_D A (wR h a cA er s) → va_S A S0.heap H locs → lv_has ls 4 [(0, .ref h), (1, .int x1)] → W PP l EE (headSpec wsX8_raise ({ frames := 1, cells := 0, slots := 0, locals := 21 })).room S0 MM (#[.ref h, .int x1] : Array Value) below meth CC H locs 0 0 (MQ below (cQv D (wR h a cA er u) A) (#[.ref h, .int x1] : Array Value) S0 0 0 A) (F0 MM 0 ls []) from main _ _ _ hP hD hS hl
  intro H locs ls hP hD hS hl
  refine lv_aload_n hx hb dX8_raise_0 rfl (lv_at hl 0 rfl) ?_
  refine lv_iload_n hx hb dX8_raise_1 rfl (lv_at hl 1 rfl) ?_
  obtain ⟨u1, h2, hE⟩ := bd_some hE
  refine cw_i (As := [.int x1]) (rest := []) (r := u1) (wc := (wR h a cA er s)) ⟨hx, hb, hml, hown, hts⟩ (c_X8_fromTop l D cA h a H.size x1 er s u1 h2) (cwV 1 hts hX8_raise_X8_fromTop_20 rfl rfl rfl (by decide +kernel) ⟨Nat.le_of_ble_eq_true rfl, Nat.le_of_ble_eq_true rfl⟩) rfl hl.1 rfl (Nat.le_of_ble_eq_true rfl) dX8_raise_2 ⟨Nat.zero_le _, Nat.zero_le _⟩ hK hP hD hS hA (va_recv hK hP (ci := 7) (q0 := 0) rfl rfl) [h, a] rfl rfl (fun _ _ _ _ h => h) (fun _ _ _ => trivial) (fun H locs hP hD hS => ?_)
  have hP : va_P D vwCl (wR h a cA er s) H := hP
  have hD : va_D A (wR h a cA er s) := hD
  refine lv_istore_n (lv' := [(2, .int u1), (0, .ref h), (1, .int x1)]) hx hb dX8_raise_5 rfl hl (by decide) rfl (fun ls hl => ?_)
  refine lv_iload_n hx hb dX8_raise_6 rfl (lv_at hl 2 rfl) ?_
  refine lv_istore_n (lv' := [(3, .int x1), (2, .int u1), (0, .ref h), (1, .int x1)]) hx hb dX8_raise_7 rfl hl (by decide) rfl (fun ls hl => ?_)
  exact w8 FU u1 x1 s H locs ls hP hD hS (lv_sub hl [2, 1, 0] rfl) hE
set_option maxHeartbeats 4000000 in
set_option maxRecDepth 100000 in
theorem c_X8_resize (l : Launch) (D : va_G) (cA : Nat → ClassId) (h : Nat) (a : Nat) (sz : Nat) (x1 : Int32) (er : Int32) (s : tR) (u : tR) (hE : f_X8_resize x1 er s = some u) : Met l yX8_resize wsX8_resize ({ frames := 0, cells := 0, slots := 0, locals := 0 }) (va_Pc [.ref h, .int x1] (PRE D cA (wR h a cA er s) sz (fun _ => True))) (cQv D (wR h a cA er u) (va_A (wR h a cA er s) sz)) 0 0 (va_A (wR h a cA er s) sz) := by
  refine Met.ofW (cc := cX8_resize) (maxL := 3) (ret := none) (by decide) rfl ?_
  intro PP EE S0 MM args below meth CC S1 B hml hv
  obtain ⟨rfl, hsz, hP, hK, hD0, hX⟩ := hv
  have hx := B.exec
  have hb := B.bytes
  have hr := B.returns
  have hts := atoms_spec (ws := wsX8_resize) B.pre
  have hown : S0.vm.findClass RX8 = some MM.cls := findClass_of_methodNamed B.named
  have hlocks := B.notSynchronized
  subst hsz
  have hD := hD0.self (sz := S0.heap.size)
  generalize hAe : va_A (wR h a cA er s) S0.heap.size = A at hD ⊢
  have hA : ∀ q : Nat, S0.heap.size ≤ q → A q := fun q h => by rw [← hAe]; exact Or.inr h
  have hS : va_S A S0.heap S0.heap [] := va_S.rf
  have k0 := hts (.fieldLink RX8 17 "WordForge$Row" "size" "I") (List.mem_of_getElem? (i := 1) rfl)
  have inX8 : ∀ w ∈ wsX80, w ∈ wsX8_resize := fun _ h => List.mem_cons_of_mem _ (List.mem_append_right _ h)
  have k2 := hts (.fieldLink RX8 9 "WordForge$Row" "numbers" "[I") (List.mem_of_getElem? (i := 2) rfl)
  have hl := lv_entry ([.ref h, .int x1]) (n := 3) (Nat.le_of_ble_eq_true rfl)
  rw [lg_entry_eq]
  generalize (lg_sl ([.ref h, .int x1]) ++ List.replicate (3 - (lg_sl ([.ref h, .int x1])).length) Slot.unset).toArray = ls at hl ⊢
  have hl : lv_has ls 3 [(0, .ref h), (1, .int x1)] := hl
  have w29 : ∀ (y1 : Int32) (s : tR) (H : Heap) (locs : List Loc) (ls : Array Slot), va_P D vwCl (wR h a cA er s) H → va_D A (wR h a cA er s) → va_S A S0.heap H locs → lv_has ls 3 [(0, .ref h), (1, .int y1)] → b_X8_resize_29 er y1 s = some u → W PP l EE (headSpec wsX8_resize ({ frames := 0, cells := 0, slots := 0, locals := 0 })).room S0 MM (#[.ref h, .int x1] : Array Value) below meth CC H locs 0 0 (MQ below (cQv D (wR h a cA er u) A) (#[.ref h, .int x1] : Array Value) S0 0 0 A) (F0 MM 29 ls []) := by
    intro y1 s
    intro H locs ls hP hD hS hl hE
    unfold b_X8_resize_29 at hE
    refine lv_aload_n hx hb dX8_resize_29 rfl (lv_at hl 0 rfl) ?_
    refine lv_iload_n hx hb dX8_resize_30 rfl (lv_at hl 1 rfl) ?_
    refine va_put (D := D) (ci := 7) (v := .int y1) (ty := .int) (C := RX8) (T := TX8) (N := 3) hx hb hts inX8 tyX8 tyX8_ok nmX8 hown hK hP hD hS 0 rfl rfl 2 (by decide) k0 (fun _ h9 => h9) rfl (by decide +kernel) rfl rfl (Nat.le_of_ble_eq_true rfl) dX8_resize_31 (fun H locs hP hD hS => ?_)
    have hP : va_P D vwCl (wR h a cA er ((y1, s.2))) H := hP
    have hD : va_D A (wR h a cA er ((y1, s.2))) := hD
    obtain rfl := Option.some.inj hE
    exact rt_v hx hb hr hP hS hlocks dX8_resize_34
  have w5 : ∀ (n : Nat), ∀ (y1 : Int32) (y2 : Int32) (s : tR) (H : Heap) (locs : List Loc) (ls : Array Slot), va_P D vwCl (wR h a cA er s) H → va_D A (wR h a cA er s) → va_S A S0.heap H locs → lv_has ls 3 [(0, .ref h), (1, .int y1), (2, .int y2)] → b_X8_resize_5 er n y1 y2 s = some u → W PP l EE (headSpec wsX8_resize ({ frames := 0, cells := 0, slots := 0, locals := 0 })).room S0 MM (#[.ref h, .int x1] : Array Value) below meth CC H locs 0 0 (MQ below (cQv D (wR h a cA er u) A) (#[.ref h, .int x1] : Array Value) S0 0 0 A) (F0 MM 5 ls []) := by
    intro  n
    induction n with
    | zero => intros; rename_i hE; exact absurd hE (by simp [b_X8_resize_5])
    | succ n ih5 =>
      intro y1 y2 s
      intro H locs ls hP hD hS hl hE
      unfold b_X8_resize_5 at hE
      refine lv_iload_n hx hb dX8_resize_5 rfl (lv_at hl 2 rfl) ?_
      refine lv_iload_n hx hb dX8_resize_6 rfl (lv_at hl 1 rfl) ?_
      refine lv_icmp_ge (tgt := 29) hx hb dX8_resize_7 (by decide) (fun c1 => ?_) (fun c1 => ?_)
      · have hE := if_t c1 hE
        exact w29  y1 s H locs ls hP hD hS (lv_sub hl [0, 1] rfl) hE
      · have hE := if_f c1 hE
        refine lv_iload_n hx hb dX8_resize_10 rfl (lv_at hl 2 rfl) ?_
        refine lv_bipush (v := 30) hx hb dX8_resize_11 (by decide +kernel) ?_
        refine lv_icmp_ge (tgt := 29) hx hb dX8_resize_13 (by decide) (fun c2 => ?_) (fun c2 => ?_)
        · have hE := if_t c2 hE
          exact w29  y1 s H locs ls hP hD hS (lv_sub hl [0, 1] rfl) hE
        · have hE := if_f c2 hE
          refine lv_aload_n hx hb dX8_resize_16 rfl (lv_at hl 0 rfl) ?_
          refine va_get (D := D) (ci := 7) (v := .ref a) (C := RX8) (T := TX8) (N := 3) hx hb hts inX8 hown hK hP 0 rfl rfl 0 (by decide) k2 (fun _ h9 => h9) rfl dX8_resize_17 ?_
          refine lv_iload_n hx hb dX8_resize_20 rfl (lv_at hl 2 rfl) ?_
          refine lv_iconst (v := 0) hx hb dX8_resize_21 (by decide +kernel) ?_
          have ⟨c3, hE⟩ := ck_some hE
          refine va_iast hx hb hK hP hD hS 1 0 rfl rfl c3 dX8_resize_22 (fun H locs hP hD hS => ?_)
          have hP : va_P D vwCl (wR h a cA er ((s.1, upd s.2 y2.toNatClampNeg 0))) H := hP
          have hD : va_D A (wR h a cA er ((s.1, upd s.2 y2.toNatClampNeg 0))) := hD
          refine lv_iinc (v := y2 + 1) (lv' := [(2, .int (y2 + 1)), (0, .ref h), (1, .int y1)]) hx hb dX8_resize_23 hl (k := 2) rfl rfl (by decide) rfl (fun ls hl => ?_)
          refine lv_goto (tgt := 5) hx hb dX8_resize_26 (by decide) ?_
          exact ih5 y1 (y2 + 1) ((s.1, upd s.2 y2.toNatClampNeg 0)) H locs ls hP hD hS (lv_sub hl [1, 2, 0] rfl) hE
  unfold f_X8_resize at hE
  suffices main : ∀ (H : Heap) (locs : List Loc) (ls : Array Slot), va_P D vwCl (wR h a cA er s) H → va_D A (wR h a cA er s) → va_S A S0.heap H locs → lv_has ls 3 [(0, .ref h), (1, .int x1)] → W PP l EE (headSpec wsX8_resize ({ frames := 0, cells := 0, slots := 0, locals := 0 })).room S0 MM (#[.ref h, .int x1] : Array Value) below meth CC H locs 0 0 (MQ below (cQv D (wR h a cA er u) A) (#[.ref h, .int x1] : Array Value) S0 0 0 A) (F0 MM 0 ls []) from main _ _ _ hP hD hS hl
  intro H locs ls hP hD hS hl
  refine lv_aload_n hx hb dX8_resize_0 rfl (lv_at hl 0 rfl) ?_
  refine va_get (D := D) (ci := 7) (v := .int s.1) (C := RX8) (T := TX8) (N := 3) hx hb hts inX8 hown hK hP 0 rfl rfl 2 (by decide) k0 (fun _ h9 => h9) rfl dX8_resize_1 ?_
  refine lv_istore_n (lv' := [(2, .int s.1), (0, .ref h), (1, .int x1)]) hx hb dX8_resize_4 rfl hl (by decide) rfl (fun ls hl => ?_)
  exact w5 FU x1 s.1 s H locs ls hP hD hS (lv_sub hl [1, 2, 0] rfl) hE
set_option maxHeartbeats 4000000 in
set_option maxRecDepth 100000 in
theorem c_X5_isCell (l : Launch) (D : va_G) (cA : Nat → ClassId) (h : Nat) (a : Nat) (sz : Nat) (x1 : Int32) (y : tY) (u : Int32) (hE : f_X5_isCell x1 = some u) : Met l yX5_isCell wsX5_isCell ({ frames := 0, cells := 0, slots := 0, locals := 0 }) (va_Pc [.ref h, .int x1] (PRE D cA (wY h a cA y) sz (fun _ => True))) (cQi D (wY h a cA y) (va_A (wY h a cA y) sz) u) 0 0 (va_A (wY h a cA y) sz) := by
  refine Met.ofW (cc := cX5_isCell) (maxL := 2) (ret := (some .boolean)) (by decide) rfl ?_
  intro PP EE S0 MM args below meth CC S1 B hml hv
  obtain ⟨rfl, hsz, hP, hK, hD0, hX⟩ := hv
  have hx := B.exec
  have hb := B.bytes
  have hr := B.returns
  have hts := atoms_spec (ws := wsX5_isCell) B.pre
  have hown : S0.vm.findClass RX5 = some MM.cls := findClass_of_methodNamed B.named
  have hlocks := B.notSynchronized
  subst hsz
  have hD := hD0.self (sz := S0.heap.size)
  generalize hAe : va_A (wY h a cA y) S0.heap.size = A at hD ⊢
  have hA : ∀ q : Nat, S0.heap.size ≤ q → A q := fun q h => by rw [← hAe]; exact Or.inr h
  have hS : va_S A S0.heap S0.heap [] := va_S.rf
  have hl := lv_entry ([.ref h, .int x1]) (n := 2) (Nat.le_of_ble_eq_true rfl)
  rw [lg_entry_eq]
  generalize (lg_sl ([.ref h, .int x1]) ++ List.replicate (2 - (lg_sl ([.ref h, .int x1])).length) Slot.unset).toArray = ls at hl ⊢
  have hl : lv_has ls 2 [(0, .ref h), (1, .int x1)] := hl
  unfold f_X5_isCell at hE
  suffices main : ∀ (H : Heap) (locs : List Loc) (ls : Array Slot), va_P D vwCl (wY h a cA y) H → va_D A (wY h a cA y) → va_S A S0.heap H locs → lv_has ls 2 [(0, .ref h), (1, .int x1)] → W PP l EE (headSpec wsX5_isCell ({ frames := 0, cells := 0, slots := 0, locals := 0 })).room S0 MM (#[.ref h, .int x1] : Array Value) below meth CC H locs 0 0 (MQ below (cQi D (wY h a cA y) A u) (#[.ref h, .int x1] : Array Value) S0 0 0 A) (F0 MM 0 ls []) from main _ _ _ hP hD hS hl
  intro H locs ls hP hD hS hl
  refine lv_iload_n hx hb dX5_isCell_0 rfl (lv_at hl 1 rfl) ?_
  refine lv_if_lt (tgt := 15) hx hb dX5_isCell_1 (by decide) (fun c1 => ?_) (fun c1 => ?_)
  · have hE := if_t c1 hE
    refine lv_iconst (v := 0) hx hb dX5_isCell_15 (by decide +kernel) ?_
    obtain rfl := Option.some.inj hE
    exact rt_n hx hb hr (by decide +kernel) hP hS rfl hlocks dX5_isCell_16
  · have hE := if_f c1 hE
    refine lv_iload_n hx hb dX5_isCell_4 rfl (lv_at hl 1 rfl) ?_
    refine lv_sipush (v := 400) hx hb dX5_isCell_5 (by decide +kernel) ?_
    refine lv_icmp_ge (tgt := 15) hx hb dX5_isCell_8 (by decide) (fun c2 => ?_) (fun c2 => ?_)
    · have hE := if_t c2 hE
      refine lv_iconst (v := 0) hx hb dX5_isCell_15 (by decide +kernel) ?_
      obtain rfl := Option.some.inj hE
      exact rt_n hx hb hr (by decide +kernel) hP hS rfl hlocks dX5_isCell_16
    · have hE := if_f c2 hE
      refine lv_iconst (v := 1) hx hb dX5_isCell_11 (by decide +kernel) ?_
      refine lv_goto (tgt := 16) hx hb dX5_isCell_12 (by decide) ?_
      obtain rfl := Option.some.inj hE
      exact rt_n hx hb hr (by decide +kernel) hP hS rfl hlocks dX5_isCell_16
set_option maxRecDepth 20000 in
theorem hX5_at_X5_isCell_15 : GoodIn wsX5_at (wsV RX5 15 RX5 yX5_isCell wsX5_isCell) := goodIn_r _ [2, 3, 4, 5, 6] rfl (by decide +kernel)
set_option maxHeartbeats 4000000 in
set_option maxRecDepth 100000 in
theorem c_X5_at (l : Launch) (D : va_G) (cA : Nat → ClassId) (h : Nat) (a : Nat) (sz : Nat) (x1 : Int32) (y : tY) (u : Int32) (hE : f_X5_at x1 y = some u) : Met l yX5_at wsX5_at ({ frames := 1, cells := 0, slots := 0, locals := 21 }) (va_Pc [.ref h, .int x1] (PRE D cA (wY h a cA y) sz (fun _ => True))) (cQi D (wY h a cA y) (va_A (wY h a cA y) sz) u) 0 0 (va_A (wY h a cA y) sz) := by
  refine Met.ofW (cc := cX5_at) (maxL := 2) (ret := (some .int)) (by decide) rfl ?_
  intro PP EE S0 MM args below meth CC S1 B hml hv
  obtain ⟨rfl, hsz, hP, hK, hD0, hX⟩ := hv
  have hx := B.exec
  have hb := B.bytes
  have hr := B.returns
  have hts := atoms_spec (ws := wsX5_at) B.pre
  have hown : S0.vm.findClass RX5 = some MM.cls := findClass_of_methodNamed B.named
  have hlocks := B.notSynchronized
  subst hsz
  have hD := hD0.self (sz := S0.heap.size)
  generalize hAe : va_A (wY h a cA y) S0.heap.size = A at hD ⊢
  have hA : ∀ q : Nat, S0.heap.size ≤ q → A q := fun q h => by rw [← hAe]; exact Or.inr h
  have hS : va_S A S0.heap S0.heap [] := va_S.rf
  have k0 := hts (.fieldLink RX5 11 "WordForge$Memory" "cells" "[I") (List.mem_of_getElem? (i := 1) rfl)
  have inX5 : ∀ w ∈ wsX50, w ∈ wsX5_at := fun _ h => List.mem_cons_of_mem _ (List.mem_append_right _ h)
  have hl := lv_entry ([.ref h, .int x1]) (n := 2) (Nat.le_of_ble_eq_true rfl)
  rw [lg_entry_eq]
  generalize (lg_sl ([.ref h, .int x1]) ++ List.replicate (2 - (lg_sl ([.ref h, .int x1])).length) Slot.unset).toArray = ls at hl ⊢
  have hl : lv_has ls 2 [(0, .ref h), (1, .int x1)] := hl
  unfold f_X5_at at hE
  suffices main : ∀ (H : Heap) (locs : List Loc) (ls : Array Slot), va_P D vwCl (wY h a cA y) H → va_D A (wY h a cA y) → va_S A S0.heap H locs → lv_has ls 2 [(0, .ref h), (1, .int x1)] → W PP l EE (headSpec wsX5_at ({ frames := 1, cells := 0, slots := 0, locals := 21 })).room S0 MM (#[.ref h, .int x1] : Array Value) below meth CC H locs 0 0 (MQ below (cQi D (wY h a cA y) A u) (#[.ref h, .int x1] : Array Value) S0 0 0 A) (F0 MM 0 ls []) from main _ _ _ hP hD hS hl
  intro H locs ls hP hD hS hl
  refine lv_aload_n hx hb dX5_at_0 rfl (lv_at hl 0 rfl) ?_
  refine lv_iload_n hx hb dX5_at_1 rfl (lv_at hl 1 rfl) ?_
  obtain ⟨u1, h2, hE⟩ := bd_some hE
  refine cw_i (As := [.int x1]) (rest := []) (r := u1) (wc := (wY h a cA y)) ⟨hx, hb, hml, hown, hts⟩ (c_X5_isCell l D cA h a H.size x1 y u1 h2) (cwV 1 hts hX5_at_X5_isCell_15 rfl rfl rfl (by decide +kernel) ⟨Nat.le_of_ble_eq_true rfl, Nat.le_of_ble_eq_true rfl⟩) rfl hl.1 rfl (Nat.le_of_ble_eq_true rfl) dX5_at_2 ⟨Nat.zero_le _, Nat.zero_le _⟩ hK hP hD hS hA (va_recv hK hP (ci := 4) (q0 := 0) rfl rfl) [h, a] rfl rfl (fun _ _ _ _ h => h) (fun _ _ _ => trivial) (fun H locs hP hD hS => ?_)
  have hP : va_P D vwCl (wY h a cA y) H := hP
  have hD : va_D A (wY h a cA y) := hD
  refine lv_if_eq (tgt := 17) hx hb dX5_at_5 (by decide) (fun c3 => ?_) (fun c3 => ?_)
  · have hE := if_t c3 hE
    refine lv_iconst (v := 0) hx hb dX5_at_17 (by decide +kernel) ?_
    obtain rfl := Option.some.inj hE
    exact rt_i hx hb hr hP hS rfl hlocks dX5_at_18
  · have hE := if_f c3 hE
    refine lv_aload_n hx hb dX5_at_8 rfl (lv_at hl 0 rfl) ?_
    refine va_get (D := D) (ci := 4) (v := .ref a) (C := RX5) (T := TX5) (N := 2) hx hb hts inX5 hown hK hP 0 rfl rfl 0 (by decide) k0 (fun _ h9 => h9) rfl dX5_at_9 ?_
    refine lv_iload_n hx hb dX5_at_12 rfl (lv_at hl 1 rfl) ?_
    have ⟨c4, hE⟩ := ck_some hE
    refine va_iald hx hb hK hP 1 0 rfl rfl c4 dX5_at_13 ?_
    refine lv_goto (tgt := 18) hx hb dX5_at_14 (by decide) ?_
    obtain rfl := Option.some.inj hE
    exact rt_i hx hb hr hP hS rfl hlocks dX5_at_18
set_option maxRecDepth 20000 in
theorem hX5_set_X5_isCell_15 : GoodIn wsX5_set (wsV RX5 15 RX5 yX5_isCell wsX5_isCell) := goodIn_r _ [2, 3, 4, 5, 6] rfl (by decide +kernel)
set_option maxHeartbeats 4000000 in
set_option maxRecDepth 100000 in
theorem c_X5_set (l : Launch) (D : va_G) (cA : Nat → ClassId) (h : Nat) (a : Nat) (sz : Nat) (x1 : Int32) (x2 : Int32) (y : tY) (u : tY) (hE : f_X5_set x1 x2 y = some u) : Met l yX5_set wsX5_set ({ frames := 1, cells := 0, slots := 0, locals := 21 }) (va_Pc [.ref h, .int x1, .int x2] (PRE D cA (wY h a cA y) sz (fun _ => True))) (cQv D (wY h a cA u) (va_A (wY h a cA y) sz)) 0 0 (va_A (wY h a cA y) sz) := by
  refine Met.ofW (cc := cX5_set) (maxL := 3) (ret := none) (by decide) rfl ?_
  intro PP EE S0 MM args below meth CC S1 B hml hv
  obtain ⟨rfl, hsz, hP, hK, hD0, hX⟩ := hv
  have hx := B.exec
  have hb := B.bytes
  have hr := B.returns
  have hts := atoms_spec (ws := wsX5_set) B.pre
  have hown : S0.vm.findClass RX5 = some MM.cls := findClass_of_methodNamed B.named
  have hlocks := B.notSynchronized
  subst hsz
  have hD := hD0.self (sz := S0.heap.size)
  generalize hAe : va_A (wY h a cA y) S0.heap.size = A at hD ⊢
  have hA : ∀ q : Nat, S0.heap.size ≤ q → A q := fun q h => by rw [← hAe]; exact Or.inr h
  have hS : va_S A S0.heap S0.heap [] := va_S.rf
  have k0 := hts (.fieldLink RX5 11 "WordForge$Memory" "cells" "[I") (List.mem_of_getElem? (i := 1) rfl)
  have inX5 : ∀ w ∈ wsX50, w ∈ wsX5_set := fun _ h => List.mem_cons_of_mem _ (List.mem_append_right _ h)
  have hl := lv_entry ([.ref h, .int x1, .int x2]) (n := 3) (Nat.le_of_ble_eq_true rfl)
  rw [lg_entry_eq]
  generalize (lg_sl ([.ref h, .int x1, .int x2]) ++ List.replicate (3 - (lg_sl ([.ref h, .int x1, .int x2])).length) Slot.unset).toArray = ls at hl ⊢
  have hl : lv_has ls 3 [(0, .ref h), (1, .int x1), (2, .int x2)] := hl
  unfold f_X5_set at hE
  suffices main : ∀ (H : Heap) (locs : List Loc) (ls : Array Slot), va_P D vwCl (wY h a cA y) H → va_D A (wY h a cA y) → va_S A S0.heap H locs → lv_has ls 3 [(0, .ref h), (1, .int x1), (2, .int x2)] → W PP l EE (headSpec wsX5_set ({ frames := 1, cells := 0, slots := 0, locals := 21 })).room S0 MM (#[.ref h, .int x1, .int x2] : Array Value) below meth CC H locs 0 0 (MQ below (cQv D (wY h a cA u) A) (#[.ref h, .int x1, .int x2] : Array Value) S0 0 0 A) (F0 MM 0 ls []) from main _ _ _ hP hD hS hl
  intro H locs ls hP hD hS hl
  refine lv_aload_n hx hb dX5_set_0 rfl (lv_at hl 0 rfl) ?_
  refine lv_iload_n hx hb dX5_set_1 rfl (lv_at hl 1 rfl) ?_
  obtain ⟨u1, h2, hE⟩ := bd_some hE
  refine cw_i (As := [.int x1]) (rest := []) (r := u1) (wc := (wY h a cA y)) ⟨hx, hb, hml, hown, hts⟩ (c_X5_isCell l D cA h a H.size x1 y u1 h2) (cwV 1 hts hX5_set_X5_isCell_15 rfl rfl rfl (by decide +kernel) ⟨Nat.le_of_ble_eq_true rfl, Nat.le_of_ble_eq_true rfl⟩) rfl hl.1 rfl (Nat.le_of_ble_eq_true rfl) dX5_set_2 ⟨Nat.zero_le _, Nat.zero_le _⟩ hK hP hD hS hA (va_recv hK hP (ci := 4) (q0 := 0) rfl rfl) [h, a] rfl rfl (fun _ _ _ _ h => h) (fun _ _ _ => trivial) (fun H locs hP hD hS => ?_)
  have hP : va_P D vwCl (wY h a cA y) H := hP
  have hD : va_D A (wY h a cA y) := hD
  refine lv_if_eq (tgt := 15) hx hb dX5_set_5 (by decide) (fun c3 => ?_) (fun c3 => ?_)
  · have hE := if_t c3 hE
    obtain rfl := Option.some.inj hE
    exact rt_v hx hb hr hP hS hlocks dX5_set_15
  · have hE := if_f c3 hE
    refine lv_aload_n hx hb dX5_set_8 rfl (lv_at hl 0 rfl) ?_
    refine va_get (D := D) (ci := 4) (v := .ref a) (C := RX5) (T := TX5) (N := 2) hx hb hts inX5 hown hK hP 0 rfl rfl 0 (by decide) k0 (fun _ h9 => h9) rfl dX5_set_9 ?_
    refine lv_iload_n hx hb dX5_set_12 rfl (lv_at hl 1 rfl) ?_
    refine lv_iload_n hx hb dX5_set_13 rfl (lv_at hl 2 rfl) ?_
    have ⟨c4, hE⟩ := ck_some hE
    refine va_iast hx hb hK hP hD hS 1 0 rfl rfl c4 dX5_set_14 (fun H locs hP hD hS => ?_)
    have hP : va_P D vwCl (wY h a cA ((y.1, upd y.2 x1.toNatClampNeg x2))) H := hP
    have hD : va_D A (wY h a cA ((y.1, upd y.2 x1.toNatClampNeg x2))) := hD
    obtain rfl := Option.some.inj hE
    exact rt_v hx hb hr hP hS hlocks dX5_set_15
set_option maxHeartbeats 4000000 in
set_option maxRecDepth 100000 in
theorem c_X5_hasRoom (l : Launch) (D : va_G) (cA : Nat → ClassId) (h : Nat) (a : Nat) (sz : Nat) (x1 : Int32) (y : tY) (u : Int32) (hE : f_X5_hasRoom x1 y = some u) : Met l yX5_hasRoom wsX5_hasRoom ({ frames := 0, cells := 0, slots := 0, locals := 0 }) (va_Pc [.ref h, .int x1] (PRE D cA (wY h a cA y) sz (fun _ => True))) (cQi D (wY h a cA y) (va_A (wY h a cA y) sz) u) 0 0 (va_A (wY h a cA y) sz) := by
  refine Met.ofW (cc := cX5_hasRoom) (maxL := 2) (ret := (some .boolean)) (by decide) rfl ?_
  intro PP EE S0 MM args below meth CC S1 B hml hv
  obtain ⟨rfl, hsz, hP, hK, hD0, hX⟩ := hv
  have hx := B.exec
  have hb := B.bytes
  have hr := B.returns
  have hts := atoms_spec (ws := wsX5_hasRoom) B.pre
  have hown : S0.vm.findClass RX5 = some MM.cls := findClass_of_methodNamed B.named
  have hlocks := B.notSynchronized
  subst hsz
  have hD := hD0.self (sz := S0.heap.size)
  generalize hAe : va_A (wY h a cA y) S0.heap.size = A at hD ⊢
  have hA : ∀ q : Nat, S0.heap.size ≤ q → A q := fun q h => by rw [← hAe]; exact Or.inr h
  have hS : va_S A S0.heap S0.heap [] := va_S.rf
  have k0 := hts (.fieldLink RX5 19 "WordForge$Memory" "here" "I") (List.mem_of_getElem? (i := 1) rfl)
  have inX5 : ∀ w ∈ wsX50, w ∈ wsX5_hasRoom := fun _ h => List.mem_cons_of_mem _ (List.mem_append_right _ h)
  have hl := lv_entry ([.ref h, .int x1]) (n := 2) (Nat.le_of_ble_eq_true rfl)
  rw [lg_entry_eq]
  generalize (lg_sl ([.ref h, .int x1]) ++ List.replicate (2 - (lg_sl ([.ref h, .int x1])).length) Slot.unset).toArray = ls at hl ⊢
  have hl : lv_has ls 2 [(0, .ref h), (1, .int x1)] := hl
  unfold f_X5_hasRoom at hE
  suffices main : ∀ (H : Heap) (locs : List Loc) (ls : Array Slot), va_P D vwCl (wY h a cA y) H → va_D A (wY h a cA y) → va_S A S0.heap H locs → lv_has ls 2 [(0, .ref h), (1, .int x1)] → W PP l EE (headSpec wsX5_hasRoom ({ frames := 0, cells := 0, slots := 0, locals := 0 })).room S0 MM (#[.ref h, .int x1] : Array Value) below meth CC H locs 0 0 (MQ below (cQi D (wY h a cA y) A u) (#[.ref h, .int x1] : Array Value) S0 0 0 A) (F0 MM 0 ls []) from main _ _ _ hP hD hS hl
  intro H locs ls hP hD hS hl
  refine lv_aload_n hx hb dX5_hasRoom_0 rfl (lv_at hl 0 rfl) ?_
  refine va_get (D := D) (ci := 4) (v := .int y.1) (C := RX5) (T := TX5) (N := 2) hx hb hts inX5 hown hK hP 0 rfl rfl 1 (by decide) k0 (fun _ h9 => h9) rfl dX5_hasRoom_1 ?_
  refine lv_iload_n hx hb dX5_hasRoom_4 rfl (lv_at hl 1 rfl) ?_
  refine lv_iadd hx hb dX5_hasRoom_5 ?_
  refine lv_sipush (v := 400) hx hb dX5_hasRoom_6 (by decide +kernel) ?_
  refine lv_icmp_gt (tgt := 16) hx hb dX5_hasRoom_9 (by decide) (fun c1 => ?_) (fun c1 => ?_)
  · have hE := if_t c1 hE
    refine lv_iconst (v := 0) hx hb dX5_hasRoom_16 (by decide +kernel) ?_
    obtain rfl := Option.some.inj hE
    exact rt_n hx hb hr (by decide +kernel) hP hS rfl hlocks dX5_hasRoom_17
  · have hE := if_f c1 hE
    refine lv_iconst (v := 1) hx hb dX5_hasRoom_12 (by decide +kernel) ?_
    refine lv_goto (tgt := 17) hx hb dX5_hasRoom_13 (by decide) ?_
    obtain rfl := Option.some.inj hE
    exact rt_n hx hb hr (by decide +kernel) hP hS rfl hlocks dX5_hasRoom_17
set_option maxRecDepth 20000 in
theorem hX5_append_X5_hasRoom_23 : GoodIn wsX5_append (wsV RX5 23 RX5 yX5_hasRoom wsX5_hasRoom) := goodIn_r _ [3, 4, 5, 6, 7, 2, 8, 9] rfl (by decide +kernel)
set_option maxHeartbeats 4000000 in
set_option maxRecDepth 100000 in
theorem c_X5_append (l : Launch) (D : va_G) (cA : Nat → ClassId) (h : Nat) (a : Nat) (sz : Nat) (x1 : Int32) (y : tY) (u : Int32 × tY) (hE : f_X5_append x1 y = some u) : Met l yX5_append wsX5_append ({ frames := 1, cells := 0, slots := 0, locals := 21 }) (va_Pc [.ref h, .int x1] (PRE D cA (wY h a cA y) sz (fun _ => True))) (cQi D (wY h a cA u.2) (va_A (wY h a cA y) sz) u.1) 0 0 (va_A (wY h a cA y) sz) := by
  refine Met.ofW (cc := cX5_append) (maxL := 2) (ret := (some .int)) (by decide) rfl ?_
  intro PP EE S0 MM args below meth CC S1 B hml hv
  obtain ⟨rfl, hsz, hP, hK, hD0, hX⟩ := hv
  have hx := B.exec
  have hb := B.bytes
  have hr := B.returns
  have hts := atoms_spec (ws := wsX5_append) B.pre
  have hown : S0.vm.findClass RX5 = some MM.cls := findClass_of_methodNamed B.named
  have hlocks := B.notSynchronized
  subst hsz
  have hD := hD0.self (sz := S0.heap.size)
  generalize hAe : va_A (wY h a cA y) S0.heap.size = A at hD ⊢
  have hA : ∀ q : Nat, S0.heap.size ≤ q → A q := fun q h => by rw [← hAe]; exact Or.inr h
  have hS : va_S A S0.heap S0.heap [] := va_S.rf
  have k0 := hts (.fieldLink RX5 11 "WordForge$Memory" "cells" "[I") (List.mem_of_getElem? (i := 1) rfl)
  have inX5 : ∀ w ∈ wsX50, w ∈ wsX5_append := fun _ h => List.mem_cons_of_mem _ (List.mem_append_right _ h)
  have k2 := hts (.fieldLink RX5 19 "WordForge$Memory" "here" "I") (List.mem_of_getElem? (i := 2) rfl)
  have hl := lv_entry ([.ref h, .int x1]) (n := 2) (Nat.le_of_ble_eq_true rfl)
  rw [lg_entry_eq]
  generalize (lg_sl ([.ref h, .int x1]) ++ List.replicate (2 - (lg_sl ([.ref h, .int x1])).length) Slot.unset).toArray = ls at hl ⊢
  have hl : lv_has ls 2 [(0, .ref h), (1, .int x1)] := hl
  unfold f_X5_append at hE
  suffices main : ∀ (H : Heap) (locs : List Loc) (ls : Array Slot), va_P D vwCl (wY h a cA y) H → va_D A (wY h a cA y) → va_S A S0.heap H locs → lv_has ls 2 [(0, .ref h), (1, .int x1)] → W PP l EE (headSpec wsX5_append ({ frames := 1, cells := 0, slots := 0, locals := 21 })).room S0 MM (#[.ref h, .int x1] : Array Value) below meth CC H locs 0 0 (MQ below (cQi D (wY h a cA u.2) A u.1) (#[.ref h, .int x1] : Array Value) S0 0 0 A) (F0 MM 0 ls []) from main _ _ _ hP hD hS hl
  intro H locs ls hP hD hS hl
  refine lv_aload_n hx hb dX5_append_0 rfl (lv_at hl 0 rfl) ?_
  refine lv_iconst (v := 1) hx hb dX5_append_1 (by decide +kernel) ?_
  obtain ⟨u1, h2, hE⟩ := bd_some hE
  refine cw_i (As := [.int 1]) (rest := []) (r := u1) (wc := (wY h a cA y)) ⟨hx, hb, hml, hown, hts⟩ (c_X5_hasRoom l D cA h a H.size 1 y u1 h2) (cwV 1 hts hX5_append_X5_hasRoom_23 rfl rfl rfl (by decide +kernel) ⟨Nat.le_of_ble_eq_true rfl, Nat.le_of_ble_eq_true rfl⟩) rfl hl.1 rfl (Nat.le_of_ble_eq_true rfl) dX5_append_2 ⟨Nat.zero_le _, Nat.zero_le _⟩ hK hP hD hS hA (va_recv hK hP (ci := 4) (q0 := 0) rfl rfl) [h, a] rfl rfl (fun _ _ _ _ h => h) (fun _ _ _ => trivial) (fun H locs hP hD hS => ?_)
  have hP : va_P D vwCl (wY h a cA y) H := hP
  have hD : va_D A (wY h a cA y) := hD
  refine lv_if_ne (tgt := 11) hx hb dX5_append_5 (by decide) (fun c3 => ?_) (fun c3 => ?_)
  · have hE := if_f c3 hE
    refine lv_aload_n hx hb dX5_append_11 rfl (lv_at hl 0 rfl) ?_
    refine va_get (D := D) (ci := 4) (v := .ref a) (C := RX5) (T := TX5) (N := 2) hx hb hts inX5 hown hK hP 0 rfl rfl 0 (by decide) k0 (fun _ h9 => h9) rfl dX5_append_12 ?_
    refine lv_aload_n hx hb dX5_append_15 rfl (lv_at hl 0 rfl) ?_
    refine va_get (D := D) (ci := 4) (v := .int y.1) (C := RX5) (T := TX5) (N := 2) hx hb hts inX5 hown hK hP 0 rfl rfl 1 (by decide) k2 (fun _ h9 => h9) rfl dX5_append_16 ?_
    refine lv_iload_n hx hb dX5_append_19 rfl (lv_at hl 1 rfl) ?_
    have ⟨c4, hE⟩ := ck_some hE
    refine va_iast hx hb hK hP hD hS 1 0 rfl rfl c4 dX5_append_20 (fun H locs hP hD hS => ?_)
    have hP : va_P D vwCl (wY h a cA ((y.1, upd y.2 y.1.toNatClampNeg x1))) H := hP
    have hD : va_D A (wY h a cA ((y.1, upd y.2 y.1.toNatClampNeg x1))) := hD
    refine lv_aload_n hx hb dX5_append_21 rfl (lv_at hl 0 rfl) ?_
    refine lv_dup hx hb dX5_append_22 rfl ?_
    refine va_get (D := D) (ci := 4) (v := .int y.1) (C := RX5) (T := TX5) (N := 2) hx hb hts inX5 hown hK hP 0 rfl rfl 1 (by decide) k2 (fun _ h9 => h9) rfl dX5_append_23 ?_
    refine lv_iconst (v := 1) hx hb dX5_append_26 (by decide +kernel) ?_
    refine lv_iadd hx hb dX5_append_27 ?_
    refine va_put (D := D) (ci := 4) (v := .int (y.1 + 1)) (ty := .int) (C := RX5) (T := TX5) (N := 2) hx hb hts inX5 tyX5 tyX5_ok nmX5 hown hK hP hD hS 0 rfl rfl 1 (by decide) k2 (fun _ h9 => h9) rfl (by decide +kernel) rfl rfl (Nat.le_of_ble_eq_true rfl) dX5_append_28 (fun H locs hP hD hS => ?_)
    have hP : va_P D vwCl (wY h a cA ((y.1 + 1, upd y.2 y.1.toNatClampNeg x1))) H := hP
    have hD : va_D A (wY h a cA ((y.1 + 1, upd y.2 y.1.toNatClampNeg x1))) := hD
    refine lv_iconst (v := 0) hx hb dX5_append_31 (by decide +kernel) ?_
    obtain rfl := Option.some.inj hE
    exact rt_i hx hb hr hP hS rfl hlocks dX5_append_32
  · have hE := if_t c3 hE
    refine lv_bipush (v := (-8)) hx hb dX5_append_8 (by decide +kernel) ?_
    obtain rfl := Option.some.inj hE
    exact rt_i hx hb hr hP hS rfl hlocks dX5_append_10
set_option maxHeartbeats 4000000 in
set_option maxRecDepth 100000 in
theorem c_X5_appendBoth (l : Launch) (D : va_G) (cA : Nat → ClassId) (h : Nat) (a : Nat) (sz : Nat) (x1 : Int32) (x2 : Int32) (y : tY) (u : Int32 × tY) (hE : f_X5_appendBoth x1 x2 y = some u) : Met l yX5_appendBoth wsX5_appendBoth ({ frames := 0, cells := 0, slots := 0, locals := 0 }) (va_Pc [.ref h, .int x1, .int x2] (PRE D cA (wY h a cA y) sz (fun _ => True))) (cQi D (wY h a cA u.2) (va_A (wY h a cA y) sz) u.1) 0 0 (va_A (wY h a cA y) sz) := by
  refine Met.ofW (cc := cX5_appendBoth) (maxL := 3) (ret := (some .int)) (by decide) rfl ?_
  intro PP EE S0 MM args below meth CC S1 B hml hv
  obtain ⟨rfl, hsz, hP, hK, hD0, hX⟩ := hv
  have hx := B.exec
  have hb := B.bytes
  have hr := B.returns
  have hts := atoms_spec (ws := wsX5_appendBoth) B.pre
  have hown : S0.vm.findClass RX5 = some MM.cls := findClass_of_methodNamed B.named
  have hlocks := B.notSynchronized
  subst hsz
  have hD := hD0.self (sz := S0.heap.size)
  generalize hAe : va_A (wY h a cA y) S0.heap.size = A at hD ⊢
  have hA : ∀ q : Nat, S0.heap.size ≤ q → A q := fun q h => by rw [← hAe]; exact Or.inr h
  have hS : va_S A S0.heap S0.heap [] := va_S.rf
  have k0 := hts (.fieldLink RX5 19 "WordForge$Memory" "here" "I") (List.mem_of_getElem? (i := 1) rfl)
  have inX5 : ∀ w ∈ wsX50, w ∈ wsX5_appendBoth := fun _ h => List.mem_cons_of_mem _ (List.mem_append_right _ h)
  have k2 := hts (.fieldLink RX5 11 "WordForge$Memory" "cells" "[I") (List.mem_of_getElem? (i := 2) rfl)
  have hl := lv_entry ([.ref h, .int x1, .int x2]) (n := 3) (Nat.le_of_ble_eq_true rfl)
  rw [lg_entry_eq]
  generalize (lg_sl ([.ref h, .int x1, .int x2]) ++ List.replicate (3 - (lg_sl ([.ref h, .int x1, .int x2])).length) Slot.unset).toArray = ls at hl ⊢
  have hl : lv_has ls 3 [(0, .ref h), (1, .int x1), (2, .int x2)] := hl
  unfold f_X5_appendBoth at hE
  suffices main : ∀ (H : Heap) (locs : List Loc) (ls : Array Slot), va_P D vwCl (wY h a cA y) H → va_D A (wY h a cA y) → va_S A S0.heap H locs → lv_has ls 3 [(0, .ref h), (1, .int x1), (2, .int x2)] → W PP l EE (headSpec wsX5_appendBoth ({ frames := 0, cells := 0, slots := 0, locals := 0 })).room S0 MM (#[.ref h, .int x1, .int x2] : Array Value) below meth CC H locs 0 0 (MQ below (cQi D (wY h a cA u.2) A u.1) (#[.ref h, .int x1, .int x2] : Array Value) S0 0 0 A) (F0 MM 0 ls []) from main _ _ _ hP hD hS hl
  intro H locs ls hP hD hS hl
  refine lv_aload_n hx hb dX5_appendBoth_0 rfl (lv_at hl 0 rfl) ?_
  refine va_get (D := D) (ci := 4) (v := .int y.1) (C := RX5) (T := TX5) (N := 2) hx hb hts inX5 hown hK hP 0 rfl rfl 1 (by decide) k0 (fun _ h9 => h9) rfl dX5_appendBoth_1 ?_
  refine lv_iconst (v := 2) hx hb dX5_appendBoth_4 (by decide +kernel) ?_
  refine lv_iadd hx hb dX5_appendBoth_5 ?_
  refine lv_sipush (v := 400) hx hb dX5_appendBoth_6 (by decide +kernel) ?_
  refine lv_icmp_le (tgt := 15) hx hb dX5_appendBoth_9 (by decide) (fun c1 => ?_) (fun c1 => ?_)
  · have hE := if_t c1 hE
    refine lv_aload_n hx hb dX5_appendBoth_15 rfl (lv_at hl 0 rfl) ?_
    refine va_get (D := D) (ci := 4) (v := .ref a) (C := RX5) (T := TX5) (N := 2) hx hb hts inX5 hown hK hP 0 rfl rfl 0 (by decide) k2 (fun _ h9 => h9) rfl dX5_appendBoth_16 ?_
    refine lv_aload_n hx hb dX5_appendBoth_19 rfl (lv_at hl 0 rfl) ?_
    refine va_get (D := D) (ci := 4) (v := .int y.1) (C := RX5) (T := TX5) (N := 2) hx hb hts inX5 hown hK hP 0 rfl rfl 1 (by decide) k0 (fun _ h9 => h9) rfl dX5_appendBoth_20 ?_
    refine lv_iload_n hx hb dX5_appendBoth_23 rfl (lv_at hl 1 rfl) ?_
    have ⟨c2, hE⟩ := ck_some hE
    refine va_iast hx hb hK hP hD hS 1 0 rfl rfl c2 dX5_appendBoth_24 (fun H locs hP hD hS => ?_)
    have hP : va_P D vwCl (wY h a cA ((y.1, upd y.2 y.1.toNatClampNeg x1))) H := hP
    have hD : va_D A (wY h a cA ((y.1, upd y.2 y.1.toNatClampNeg x1))) := hD
    refine lv_aload_n hx hb dX5_appendBoth_25 rfl (lv_at hl 0 rfl) ?_
    refine va_get (D := D) (ci := 4) (v := .ref a) (C := RX5) (T := TX5) (N := 2) hx hb hts inX5 hown hK hP 0 rfl rfl 0 (by decide) k2 (fun _ h9 => h9) rfl dX5_appendBoth_26 ?_
    refine lv_aload_n hx hb dX5_appendBoth_29 rfl (lv_at hl 0 rfl) ?_
    refine va_get (D := D) (ci := 4) (v := .int y.1) (C := RX5) (T := TX5) (N := 2) hx hb hts inX5 hown hK hP 0 rfl rfl 1 (by decide) k0 (fun _ h9 => h9) rfl dX5_appendBoth_30 ?_
    refine lv_iconst (v := 1) hx hb dX5_appendBoth_33 (by decide +kernel) ?_
    refine lv_iadd hx hb dX5_appendBoth_34 ?_
    refine lv_iload_n hx hb dX5_appendBoth_35 rfl (lv_at hl 2 rfl) ?_
    have ⟨c3, hE⟩ := ck_some hE
    refine va_iast hx hb hK hP hD hS 1 0 rfl rfl c3 dX5_appendBoth_36 (fun H locs hP hD hS => ?_)
    have hP : va_P D vwCl (wY h a cA ((y.1, upd (upd y.2 y.1.toNatClampNeg x1) ((y.1 + 1).toNatClampNeg) x2))) H := hP
    have hD : va_D A (wY h a cA ((y.1, upd (upd y.2 y.1.toNatClampNeg x1) ((y.1 + 1).toNatClampNeg) x2))) := hD
    refine lv_aload_n hx hb dX5_appendBoth_37 rfl (lv_at hl 0 rfl) ?_
    refine lv_dup hx hb dX5_appendBoth_38 rfl ?_
    refine va_get (D := D) (ci := 4) (v := .int y.1) (C := RX5) (T := TX5) (N := 2) hx hb hts inX5 hown hK hP 0 rfl rfl 1 (by decide) k0 (fun _ h9 => h9) rfl dX5_appendBoth_39 ?_
    refine lv_iconst (v := 2) hx hb dX5_appendBoth_42 (by decide +kernel) ?_
    refine lv_iadd hx hb dX5_appendBoth_43 ?_
    refine va_put (D := D) (ci := 4) (v := .int (y.1 + 2)) (ty := .int) (C := RX5) (T := TX5) (N := 2) hx hb hts inX5 tyX5 tyX5_ok nmX5 hown hK hP hD hS 0 rfl rfl 1 (by decide) k0 (fun _ h9 => h9) rfl (by decide +kernel) rfl rfl (Nat.le_of_ble_eq_true rfl) dX5_appendBoth_44 (fun H locs hP hD hS => ?_)
    have hP : va_P D vwCl (wY h a cA ((y.1 + 2, upd (upd y.2 y.1.toNatClampNeg x1) ((y.1 + 1).toNatClampNeg) x2))) H := hP
    have hD : va_D A (wY h a cA ((y.1 + 2, upd (upd y.2 y.1.toNatClampNeg x1) ((y.1 + 1).toNatClampNeg) x2))) := hD
    refine lv_iconst (v := 0) hx hb dX5_appendBoth_47 (by decide +kernel) ?_
    obtain rfl := Option.some.inj hE
    exact rt_i hx hb hr hP hS rfl hlocks dX5_appendBoth_48
  · have hE := if_f c1 hE
    refine lv_bipush (v := (-8)) hx hb dX5_appendBoth_12 (by decide +kernel) ?_
    obtain rfl := Option.some.inj hE
    exact rt_i hx hb hr hP hS rfl hlocks dX5_appendBoth_14
set_option maxHeartbeats 4000000 in
set_option maxRecDepth 100000 in
theorem c_X5_allot (l : Launch) (D : va_G) (cA : Nat → ClassId) (h : Nat) (a : Nat) (sz : Nat) (x1 : Int32) (y : tY) (u : Int32 × tY) (hE : f_X5_allot x1 y = some u) : Met l yX5_allot wsX5_allot ({ frames := 0, cells := 0, slots := 0, locals := 0 }) (va_Pc [.ref h, .int x1] (PRE D cA (wY h a cA y) sz (fun _ => True))) (cQi D (wY h a cA u.2) (va_A (wY h a cA y) sz) u.1) 0 0 (va_A (wY h a cA y) sz) := by
  refine Met.ofW (cc := cX5_allot) (maxL := 3) (ret := (some .int)) (by decide) rfl ?_
  intro PP EE S0 MM args below meth CC S1 B hml hv
  obtain ⟨rfl, hsz, hP, hK, hD0, hX⟩ := hv
  have hx := B.exec
  have hb := B.bytes
  have hr := B.returns
  have hts := atoms_spec (ws := wsX5_allot) B.pre
  have hown : S0.vm.findClass RX5 = some MM.cls := findClass_of_methodNamed B.named
  have hlocks := B.notSynchronized
  subst hsz
  have hD := hD0.self (sz := S0.heap.size)
  generalize hAe : va_A (wY h a cA y) S0.heap.size = A at hD ⊢
  have hA : ∀ q : Nat, S0.heap.size ≤ q → A q := fun q h => by rw [← hAe]; exact Or.inr h
  have hS : va_S A S0.heap S0.heap [] := va_S.rf
  have k0 := hts (.fieldLink RX5 19 "WordForge$Memory" "here" "I") (List.mem_of_getElem? (i := 1) rfl)
  have inX5 : ∀ w ∈ wsX50, w ∈ wsX5_allot := fun _ h => List.mem_cons_of_mem _ (List.mem_append_right _ h)
  have hl := lv_entry ([.ref h, .int x1]) (n := 3) (Nat.le_of_ble_eq_true rfl)
  rw [lg_entry_eq]
  generalize (lg_sl ([.ref h, .int x1]) ++ List.replicate (3 - (lg_sl ([.ref h, .int x1])).length) Slot.unset).toArray = ls at hl ⊢
  have hl : lv_has ls 3 [(0, .ref h), (1, .int x1)] := hl
  unfold f_X5_allot at hE
  suffices main : ∀ (H : Heap) (locs : List Loc) (ls : Array Slot), va_P D vwCl (wY h a cA y) H → va_D A (wY h a cA y) → va_S A S0.heap H locs → lv_has ls 3 [(0, .ref h), (1, .int x1)] → W PP l EE (headSpec wsX5_allot ({ frames := 0, cells := 0, slots := 0, locals := 0 })).room S0 MM (#[.ref h, .int x1] : Array Value) below meth CC H locs 0 0 (MQ below (cQi D (wY h a cA u.2) A u.1) (#[.ref h, .int x1] : Array Value) S0 0 0 A) (F0 MM 0 ls []) from main _ _ _ hP hD hS hl
  intro H locs ls hP hD hS hl
  refine lv_aload_n hx hb dX5_allot_0 rfl (lv_at hl 0 rfl) ?_
  refine va_get (D := D) (ci := 4) (v := .int y.1) (C := RX5) (T := TX5) (N := 2) hx hb hts inX5 hown hK hP 0 rfl rfl 1 (by decide) k0 (fun _ h9 => h9) rfl dX5_allot_1 ?_
  refine lv_iload_n hx hb dX5_allot_4 rfl (lv_at hl 1 rfl) ?_
  refine lv_iadd hx hb dX5_allot_5 ?_
  refine lv_istore_n (lv' := [(2, .int (y.1 + x1)), (0, .ref h), (1, .int x1)]) hx hb dX5_allot_6 rfl hl (by decide) rfl (fun ls hl => ?_)
  refine lv_iload_n hx hb dX5_allot_7 rfl (lv_at hl 0 rfl) ?_
  refine lv_if_lt (tgt := 18) hx hb dX5_allot_8 (by decide) (fun c1 => ?_) (fun c1 => ?_)
  · have hE := if_t c1 hE
    refine lv_bipush (v := (-8)) hx hb dX5_allot_18 (by decide +kernel) ?_
    obtain rfl := Option.some.inj hE
    exact rt_i hx hb hr hP hS rfl hlocks dX5_allot_20
  · have hE := if_f c1 hE
    refine lv_iload_n hx hb dX5_allot_11 rfl (lv_at hl 0 rfl) ?_
    refine lv_sipush (v := 400) hx hb dX5_allot_12 (by decide +kernel) ?_
    refine lv_icmp_le (tgt := 21) hx hb dX5_allot_15 (by decide) (fun c2 => ?_) (fun c2 => ?_)
    · have hE := if_t c2 hE
      refine lv_aload_n hx hb dX5_allot_21 rfl (lv_at hl 1 rfl) ?_
      refine lv_iload_n hx hb dX5_allot_22 rfl (lv_at hl 0 rfl) ?_
      refine va_put (D := D) (ci := 4) (v := .int (y.1 + x1)) (ty := .int) (C := RX5) (T := TX5) (N := 2) hx hb hts inX5 tyX5 tyX5_ok nmX5 hown hK hP hD hS 0 rfl rfl 1 (by decide) k0 (fun _ h9 => h9) rfl (by decide +kernel) rfl rfl (Nat.le_of_ble_eq_true rfl) dX5_allot_23 (fun H locs hP hD hS => ?_)
      have hP : va_P D vwCl (wY h a cA ((y.1 + x1, y.2))) H := hP
      have hD : va_D A (wY h a cA ((y.1 + x1, y.2))) := hD
      refine lv_iconst (v := 0) hx hb dX5_allot_26 (by decide +kernel) ?_
      obtain rfl := Option.some.inj hE
      exact rt_i hx hb hr hP hS rfl hlocks dX5_allot_27
    · have hE := if_f c2 hE
      refine lv_bipush (v := (-8)) hx hb dX5_allot_18 (by decide +kernel) ?_
      obtain rfl := Option.some.inj hE
      exact rt_i hx hb hr hP hS rfl hlocks dX5_allot_20
set_option maxHeartbeats 4000000 in
set_option maxRecDepth 100000 in
theorem c_X7_write (l : Launch) (D : va_G) (cA : Nat → ClassId) (h : Nat) (a : Nat) (sz : Nat) (x1 : Int32) (o : tO) (u : tO) (hE : f_X7_write x1 o = some u) : Met l yX7_write wsX7_write ({ frames := 0, cells := 0, slots := 0, locals := 0 }) (va_Pc [.ref h, .int x1] (PRE D cA (wO h a cA o) sz (fun _ => True))) (cQv D (wO h a cA u) (va_A (wO h a cA o) sz)) 0 0 (va_A (wO h a cA o) sz) := by
  refine Met.ofW (cc := cX7_write) (maxL := 2) (ret := none) (by decide) rfl ?_
  intro PP EE S0 MM args below meth CC S1 B hml hv
  obtain ⟨rfl, hsz, hP, hK, hD0, hX⟩ := hv
  have hx := B.exec
  have hb := B.bytes
  have hr := B.returns
  have hts := atoms_spec (ws := wsX7_write) B.pre
  have hown : S0.vm.findClass RX7 = some MM.cls := findClass_of_methodNamed B.named
  have hlocks := B.notSynchronized
  subst hsz
  have hD := hD0.self (sz := S0.heap.size)
  generalize hAe : va_A (wO h a cA o) S0.heap.size = A at hD ⊢
  have hA : ∀ q : Nat, S0.heap.size ≤ q → A q := fun q h => by rw [← hAe]; exact Or.inr h
  have hS : va_S A S0.heap S0.heap [] := va_S.rf
  have k0 := hts (.fieldLink RX7 13 "WordForge$Output" "size" "I") (List.mem_of_getElem? (i := 1) rfl)
  have inX7 : ∀ w ∈ wsX70, w ∈ wsX7_write := fun _ h => List.mem_cons_of_mem _ (List.mem_append_right _ h)
  have k2 := hts (.fieldLink RX7 9 "WordForge$Output" "characters" "[C") (List.mem_of_getElem? (i := 2) rfl)
  have hl := lv_entry ([.ref h, .int x1]) (n := 2) (Nat.le_of_ble_eq_true rfl)
  rw [lg_entry_eq]
  generalize (lg_sl ([.ref h, .int x1]) ++ List.replicate (2 - (lg_sl ([.ref h, .int x1])).length) Slot.unset).toArray = ls at hl ⊢
  have hl : lv_has ls 2 [(0, .ref h), (1, .int x1)] := hl
  unfold f_X7_write at hE
  suffices main : ∀ (H : Heap) (locs : List Loc) (ls : Array Slot), va_P D vwCl (wO h a cA o) H → va_D A (wO h a cA o) → va_S A S0.heap H locs → lv_has ls 2 [(0, .ref h), (1, .int x1)] → W PP l EE (headSpec wsX7_write ({ frames := 0, cells := 0, slots := 0, locals := 0 })).room S0 MM (#[.ref h, .int x1] : Array Value) below meth CC H locs 0 0 (MQ below (cQv D (wO h a cA u) A) (#[.ref h, .int x1] : Array Value) S0 0 0 A) (F0 MM 0 ls []) from main _ _ _ hP hD hS hl
  intro H locs ls hP hD hS hl
  refine lv_aload_n hx hb dX7_write_0 rfl (lv_at hl 0 rfl) ?_
  refine va_get (D := D) (ci := 6) (v := .int o.1) (C := RX7) (T := TX7) (N := 2) hx hb hts inX7 hown hK hP 0 rfl rfl 1 (by decide) k0 (fun _ h9 => h9) rfl dX7_write_1 ?_
  refine lv_sipush (v := 300) hx hb dX7_write_4 (by decide +kernel) ?_
  refine lv_icmp_ge (tgt := 30) hx hb dX7_write_7 (by decide) (fun c1 => ?_) (fun c1 => ?_)
  · have hE := if_t c1 hE
    obtain rfl := Option.some.inj hE
    exact rt_v hx hb hr hP hS hlocks dX7_write_30
  · have hE := if_f c1 hE
    refine lv_aload_n hx hb dX7_write_10 rfl (lv_at hl 0 rfl) ?_
    refine va_get (D := D) (ci := 6) (v := .ref a) (C := RX7) (T := TX7) (N := 2) hx hb hts inX7 hown hK hP 0 rfl rfl 0 (by decide) k2 (fun _ h9 => h9) rfl dX7_write_11 ?_
    refine lv_aload_n hx hb dX7_write_14 rfl (lv_at hl 0 rfl) ?_
    refine va_get (D := D) (ci := 6) (v := .int o.1) (C := RX7) (T := TX7) (N := 2) hx hb hts inX7 hown hK hP 0 rfl rfl 1 (by decide) k0 (fun _ h9 => h9) rfl dX7_write_15 ?_
    refine lv_iload_n hx hb dX7_write_18 rfl (lv_at hl 1 rfl) ?_
    have ⟨c2, hE⟩ := ck_some hE
    refine va_cast hx hb hK hP hD hS 1 2 rfl rfl c2 dX7_write_19 (fun H locs hP hD hS => ?_)
    have hP : va_P D vwCl (wO h a cA ((o.1, upd o.2 o.1.toNatClampNeg (vp_nar .char x1)))) H := hP
    have hD : va_D A (wO h a cA ((o.1, upd o.2 o.1.toNatClampNeg (vp_nar .char x1)))) := hD
    refine lv_aload_n hx hb dX7_write_20 rfl (lv_at hl 0 rfl) ?_
    refine lv_dup hx hb dX7_write_21 rfl ?_
    refine va_get (D := D) (ci := 6) (v := .int o.1) (C := RX7) (T := TX7) (N := 2) hx hb hts inX7 hown hK hP 0 rfl rfl 1 (by decide) k0 (fun _ h9 => h9) rfl dX7_write_22 ?_
    refine lv_iconst (v := 1) hx hb dX7_write_25 (by decide +kernel) ?_
    refine lv_iadd hx hb dX7_write_26 ?_
    refine va_put (D := D) (ci := 6) (v := .int (o.1 + 1)) (ty := .int) (C := RX7) (T := TX7) (N := 2) hx hb hts inX7 tyX7 tyX7_ok nmX7 hown hK hP hD hS 0 rfl rfl 1 (by decide) k0 (fun _ h9 => h9) rfl (by decide +kernel) rfl rfl (Nat.le_of_ble_eq_true rfl) dX7_write_27 (fun H locs hP hD hS => ?_)
    have hP : va_P D vwCl (wO h a cA ((o.1 + 1, upd o.2 o.1.toNatClampNeg (vp_nar .char x1)))) H := hP
    have hD : va_D A (wO h a cA ((o.1 + 1, upd o.2 o.1.toNatClampNeg (vp_nar .char x1)))) := hD
    obtain rfl := Option.some.inj hE
    exact rt_v hx hb hr hP hS hlocks dX7_write_30
set_option maxRecDepth 20000 in
theorem hX7_writeNumber_X7_write_17 : GoodIn wsX7_writeNumber (wsV RX7 17 RX7 yX7_write wsX7_write) := goodIn_r _ [3, 4, 5, 6, 7, 8, 9, 10, 11] rfl (by decide +kernel)
set_option maxHeartbeats 4000000 in
set_option maxRecDepth 100000 in
theorem c_X7_writeNumber (l : Launch) (D : va_G) (cA : Nat → ClassId) (h : Nat) (a : Nat) (sz : Nat) (x1 : Int32) (o : tO) (u : tO) (hE : f_X7_writeNumber x1 o = some u) : Met l yX7_writeNumber wsX7_writeNumber ({ frames := 1, cells := 0, slots := 0, locals := 21 }) (va_Pc [.ref h, .int x1] (PRE D cA (wO h a cA o) sz (fun _ => True))) (cQv D (wO h a cA u) (va_A (wO h a cA o) sz)) 0 0 (va_A (wO h a cA o) sz) := by
  refine Met.ofW (cc := cX7_writeNumber) (maxL := 8) (ret := none) (by decide) rfl ?_
  intro PP EE S0 MM args below meth CC S1 B hml hv
  obtain ⟨rfl, hsz, hP, hK, hD0, hX⟩ := hv
  have hx := B.exec
  have hb := B.bytes
  have hr := B.returns
  have hts := atoms_spec (ws := wsX7_writeNumber) B.pre
  have hown : S0.vm.findClass RX7 = some MM.cls := findClass_of_methodNamed B.named
  have hlocks := B.notSynchronized
  subst hsz
  have hD := hD0.self (sz := S0.heap.size)
  generalize hAe : va_A (wO h a cA o) S0.heap.size = A at hD ⊢
  have hA : ∀ q : Nat, S0.heap.size ≤ q → A q := fun q h => by rw [← hAe]; exact Or.inr h
  have hS : va_S A S0.heap S0.heap [] := va_S.rf
  have k0 := hts (.constantLong RX7 21 (10)) (List.mem_of_getElem? (i := 1) rfl)
  have k1 := hts (.constantLong RX7 23 (48)) (List.mem_of_getElem? (i := 2) rfl)
  have hl := lv_entry ([.ref h, .int x1]) (n := 8) (Nat.le_of_ble_eq_true rfl)
  rw [lg_entry_eq]
  generalize (lg_sl ([.ref h, .int x1]) ++ List.replicate (8 - (lg_sl ([.ref h, .int x1])).length) Slot.unset).toArray = ls at hl ⊢
  have hl : lv_has ls 8 [(0, .ref h), (1, .int x1)] := hl
  have w58 : ∀ (n : Nat), ∀ (y2 : Int64) (y6 : Int64) (o : tO) (H : Heap) (locs : List Loc) (ls : Array Slot), va_P D vwCl (wO h a cA o) H → va_D A (wO h a cA o) → va_S A S0.heap H locs → lv_has ls 8 [(0, .ref h), (2, .long y2), (6, .long y6)] → b_X7_writeNumber_58 n y2 y6 o = some u → W PP l EE (headSpec wsX7_writeNumber ({ frames := 1, cells := 0, slots := 0, locals := 21 })).room S0 MM (#[.ref h, .int x1] : Array Value) below meth CC H locs 0 0 (MQ below (cQv D (wO h a cA u) A) (#[.ref h, .int x1] : Array Value) S0 0 0 A) (F0 MM 58 ls []) := by
    intro  n
    induction n with
    | zero => intros; rename_i hE; exact absurd hE (by simp [b_X7_writeNumber_58])
    | succ n ih58 =>
      intro y2 y6 o
      intro H locs ls hP hD hS hl hE
      unfold b_X7_writeNumber_58 at hE
      refine lv_lload hx hb dX7_writeNumber_58 (lv_at hl 2 rfl) ?_
      refine lv_lconst (v := 0) hx hb dX7_writeNumber_60 (by decide +kernel) ?_
      refine W.lcmp hx hb dX7_writeNumber_61 ?_
      refine lv_if_le (tgt := 94) hx hb dX7_writeNumber_62 (by decide) (fun c6 => ?_) (fun c6 => ?_)
      · have hE := if_t c6 hE
        obtain rfl := Option.some.inj hE
        exact rt_v hx hb hr hP hS hlocks dX7_writeNumber_94
      · have hE := if_f c6 hE
        refine lv_aload_n hx hb dX7_writeNumber_65 rfl (lv_at hl 0 rfl) ?_
        refine lv_ldc2 (v := 48) hx hb hown k1 dX7_writeNumber_66 ?_
        refine lv_lload_n hx hb dX7_writeNumber_69 rfl (lv_at hl 1 rfl) ?_
        refine lv_lload hx hb dX7_writeNumber_70 (lv_at hl 2 rfl) ?_
        have ⟨c7, hE⟩ := ck_some hE
        refine lv_ldiv hx hb dX7_writeNumber_72 c7 ?_
        refine lv_ldc2 (v := 10) hx hb hown k0 dX7_writeNumber_73 ?_
        have ⟨c8, hE⟩ := ck_some hE
        refine lv_lrem hx hb dX7_writeNumber_76 c8 ?_
        refine lv_ladd hx hb dX7_writeNumber_77 ?_
        refine lv_l2i hx hb dX7_writeNumber_78 rfl ?_
        refine lv_i2c hx hb dX7_writeNumber_79 rfl ?_
        obtain ⟨u9, h10, hE⟩ := bd_some hE
        refine cw_v (As := [.int ((((48 + ((y2 / y6) - (y2 / y6) / 10 * 10)).toInt32).toUInt32 % 65536).toInt32)]) (rest := []) (wc := (wO h a cA o)) ⟨hx, hb, hml, hown, hts⟩ (c_X7_write l D cA h a H.size ((((48 + ((y2 / y6) - (y2 / y6) / 10 * 10)).toInt32).toUInt32 % 65536).toInt32) o u9 h10) (cwV 1 hts hX7_writeNumber_X7_write_17 rfl rfl rfl (by decide +kernel) ⟨Nat.le_of_ble_eq_true rfl, Nat.le_of_ble_eq_true rfl⟩) rfl hl.1 rfl (Nat.le_of_ble_eq_true rfl) dX7_writeNumber_80 ⟨Nat.zero_le _, Nat.zero_le _⟩ hK hP hD hS hA (va_recv hK hP (ci := 6) (q0 := 0) rfl rfl) [h, a] rfl rfl (fun _ _ _ _ h => h) (fun _ _ _ => trivial) (fun H locs hP hD hS => ?_)
        have hP : va_P D vwCl (wO h a cA u9) H := hP
        have hD : va_D A (wO h a cA u9) := hD
        refine lv_lload hx hb dX7_writeNumber_83 (lv_at hl 2 rfl) ?_
        refine lv_ldc2 (v := 10) hx hb hown k0 dX7_writeNumber_85 ?_
        have ⟨c11, hE⟩ := ck_some hE
        refine lv_ldiv hx hb dX7_writeNumber_88 c11 ?_
        refine lv_lstore (lv' := [(6, .long (y6 / 10)), (0, .ref h), (2, .long y2)]) hx hb dX7_writeNumber_89 hl (by decide) rfl (fun ls hl => ?_)
        refine lv_goto (tgt := 58) hx hb dX7_writeNumber_91 (by decide) ?_
        exact ih58 y2 (y6 / 10) u9 H locs ls hP hD hS (lv_sub hl [1, 2, 0] rfl) hE
  have w54 : ∀ (y2 : Int64) (y4 : Int64) (o : tO) (H : Heap) (locs : List Loc) (ls : Array Slot), va_P D vwCl (wO h a cA o) H → va_D A (wO h a cA o) → va_S A S0.heap H locs → lv_has ls 8 [(0, .ref h), (2, .long y2), (4, .long y4)] → b_X7_writeNumber_54  y2 y4 o = some u → W PP l EE (headSpec wsX7_writeNumber ({ frames := 1, cells := 0, slots := 0, locals := 21 })).room S0 MM (#[.ref h, .int x1] : Array Value) below meth CC H locs 0 0 (MQ below (cQv D (wO h a cA u) A) (#[.ref h, .int x1] : Array Value) S0 0 0 A) (F0 MM 54 ls []) := by
    intro y2 y4 o
    intro H locs ls hP hD hS hl hE
    unfold b_X7_writeNumber_54 at hE
    refine lv_lload hx hb dX7_writeNumber_54 (lv_at hl 2 rfl) ?_
    refine lv_lstore (lv' := [(6, .long y4), (0, .ref h), (2, .long y2), (4, .long y4)]) hx hb dX7_writeNumber_56 hl (by decide) rfl (fun ls hl => ?_)
    exact w58 FU y2 y4 o H locs ls hP hD hS (lv_sub hl [1, 2, 0] rfl) hE
  have w22 : ∀ (n : Nat), ∀ (y2 : Int64) (y4 : Int64) (y6 : Int32) (o : tO) (H : Heap) (locs : List Loc) (ls : Array Slot), va_P D vwCl (wO h a cA o) H → va_D A (wO h a cA o) → va_S A S0.heap H locs → lv_has ls 8 [(0, .ref h), (2, .long y2), (4, .long y4), (6, .int y6)] → b_X7_writeNumber_22 n y2 y4 y6 o = some u → W PP l EE (headSpec wsX7_writeNumber ({ frames := 1, cells := 0, slots := 0, locals := 21 })).room S0 MM (#[.ref h, .int x1] : Array Value) below meth CC H locs 0 0 (MQ below (cQv D (wO h a cA u) A) (#[.ref h, .int x1] : Array Value) S0 0 0 A) (F0 MM 22 ls []) := by
    intro  n
    induction n with
    | zero => intros; rename_i hE; exact absurd hE (by simp [b_X7_writeNumber_22])
    | succ n ih22 =>
      intro y2 y4 y6 o
      intro H locs ls hP hD hS hl hE
      unfold b_X7_writeNumber_22 at hE
      refine lv_iload hx hb dX7_writeNumber_22 (lv_at hl 3 rfl) ?_
      refine lv_bipush (v := 10) hx hb dX7_writeNumber_24 (by decide +kernel) ?_
      refine lv_icmp_ge (tgt := 54) hx hb dX7_writeNumber_26 (by decide) (fun c4 => ?_) (fun c4 => ?_)
      · have hE := if_t c4 hE
        exact w54  y2 y4 o H locs ls hP hD hS (lv_sub hl [0, 1, 2] rfl) hE
      · have hE := if_f c4 hE
        refine lv_lload hx hb dX7_writeNumber_29 (lv_at hl 2 rfl) ?_
        refine lv_ldc2 (v := 10) hx hb hown k0 dX7_writeNumber_31 ?_
        refine lv_lmul hx hb dX7_writeNumber_34 ?_
        refine lv_lload_n hx hb dX7_writeNumber_35 rfl (lv_at hl 1 rfl) ?_
        refine W.lcmp hx hb dX7_writeNumber_36 ?_
        refine lv_if_gt (tgt := 54) hx hb dX7_writeNumber_37 (by decide) (fun c5 => ?_) (fun c5 => ?_)
        · have hE := if_t c5 hE
          exact w54  y2 y4 o H locs ls hP hD hS (lv_sub hl [0, 1, 2] rfl) hE
        · have hE := if_f c5 hE
          refine lv_lload hx hb dX7_writeNumber_40 (lv_at hl 2 rfl) ?_
          refine lv_ldc2 (v := 10) hx hb hown k0 dX7_writeNumber_42 ?_
          refine lv_lmul hx hb dX7_writeNumber_45 ?_
          refine lv_lstore (lv' := [(4, .long (y4 * 10)), (0, .ref h), (2, .long y2), (6, .int y6)]) hx hb dX7_writeNumber_46 hl (by decide) rfl (fun ls hl => ?_)
          refine lv_iinc (v := y6 + 1) (lv' := [(6, .int (y6 + 1)), (4, .long (y4 * 10)), (0, .ref h), (2, .long y2)]) hx hb dX7_writeNumber_48 hl (k := 3) rfl rfl (by decide) rfl (fun ls hl => ?_)
          refine lv_goto (tgt := 22) hx hb dX7_writeNumber_51 (by decide) ?_
          exact ih22 y2 (y4 * 10) (y6 + 1) o H locs ls hP hD hS (lv_sub hl [2, 3, 1, 0] rfl) hE
  have w16 : ∀ (y2 : Int64) (o : tO) (H : Heap) (locs : List Loc) (ls : Array Slot), va_P D vwCl (wO h a cA o) H → va_D A (wO h a cA o) → va_S A S0.heap H locs → lv_has ls 8 [(0, .ref h), (2, .long y2)] → b_X7_writeNumber_16  y2 o = some u → W PP l EE (headSpec wsX7_writeNumber ({ frames := 1, cells := 0, slots := 0, locals := 21 })).room S0 MM (#[.ref h, .int x1] : Array Value) below meth CC H locs 0 0 (MQ below (cQv D (wO h a cA u) A) (#[.ref h, .int x1] : Array Value) S0 0 0 A) (F0 MM 16 ls []) := by
    intro y2 o
    intro H locs ls hP hD hS hl hE
    unfold b_X7_writeNumber_16 at hE
    refine lv_lconst (v := 1) hx hb dX7_writeNumber_16 (by decide +kernel) ?_
    refine lv_lstore (lv' := [(4, .long 1), (0, .ref h), (2, .long y2)]) hx hb dX7_writeNumber_17 hl (by decide) rfl (fun ls hl => ?_)
    refine lv_iconst (v := 1) hx hb dX7_writeNumber_19 (by decide +kernel) ?_
    refine lv_istore (lv' := [(6, .int 1), (4, .long 1), (0, .ref h), (2, .long y2)]) hx hb dX7_writeNumber_20 hl (by decide) rfl (fun ls hl => ?_)
    exact w22 FU y2 1 1 o H locs ls hP hD hS (lv_sub hl [2, 3, 1, 0] rfl) hE
  unfold f_X7_writeNumber at hE
  suffices main : ∀ (H : Heap) (locs : List Loc) (ls : Array Slot), va_P D vwCl (wO h a cA o) H → va_D A (wO h a cA o) → va_S A S0.heap H locs → lv_has ls 8 [(0, .ref h), (1, .int x1)] → W PP l EE (headSpec wsX7_writeNumber ({ frames := 1, cells := 0, slots := 0, locals := 21 })).room S0 MM (#[.ref h, .int x1] : Array Value) below meth CC H locs 0 0 (MQ below (cQv D (wO h a cA u) A) (#[.ref h, .int x1] : Array Value) S0 0 0 A) (F0 MM 0 ls []) from main _ _ _ hP hD hS hl
  intro H locs ls hP hD hS hl
  refine lv_iload_n hx hb dX7_writeNumber_0 rfl (lv_at hl 1 rfl) ?_
  refine lv_i2l hx hb dX7_writeNumber_1 rfl ?_
  refine lv_lstore_n (lv' := [(2, .long x1.toInt64), (0, .ref h), (1, .int x1)]) hx hb dX7_writeNumber_2 rfl hl (by decide) rfl (fun ls hl => ?_)
  refine lv_iload_n hx hb dX7_writeNumber_3 rfl (lv_at hl 2 rfl) ?_
  refine lv_if_ge (tgt := 16) hx hb dX7_writeNumber_4 (by decide) (fun c1 => ?_) (fun c1 => ?_)
  · have hE := if_t c1 hE
    exact w16  x1.toInt64 o H locs ls hP hD hS (lv_sub hl [1, 0] rfl) hE
  · have hE := if_f c1 hE
    refine lv_aload_n hx hb dX7_writeNumber_7 rfl (lv_at hl 1 rfl) ?_
    refine lv_bipush (v := 45) hx hb dX7_writeNumber_8 (by decide +kernel) ?_
    obtain ⟨u2, h3, hE⟩ := bd_some hE
    refine cw_v (As := [.int 45]) (rest := []) (wc := (wO h a cA o)) ⟨hx, hb, hml, hown, hts⟩ (c_X7_write l D cA h a H.size 45 o u2 h3) (cwV 1 hts hX7_writeNumber_X7_write_17 rfl rfl rfl (by decide +kernel) ⟨Nat.le_of_ble_eq_true rfl, Nat.le_of_ble_eq_true rfl⟩) rfl hl.1 rfl (Nat.le_of_ble_eq_true rfl) dX7_writeNumber_10 ⟨Nat.zero_le _, Nat.zero_le _⟩ hK hP hD hS hA (va_recv hK hP (ci := 6) (q0 := 0) rfl rfl) [h, a] rfl rfl (fun _ _ _ _ h => h) (fun _ _ _ => trivial) (fun H locs hP hD hS => ?_)
    have hP : va_P D vwCl (wO h a cA u2) H := hP
    have hD : va_D A (wO h a cA u2) := hD
    refine lv_lload_n hx hb dX7_writeNumber_13 rfl (lv_at hl 0 rfl) ?_
    refine lv_lneg hx hb dX7_writeNumber_14 ?_
    refine lv_lstore_n (lv' := [(2, .long (-x1.toInt64)), (0, .ref h), (1, .int x1)]) hx hb dX7_writeNumber_15 rfl hl (by decide) rfl (fun ls hl => ?_)
    exact w16  (-x1.toInt64) u2 H locs ls hP hD hS (lv_sub hl [1, 0] rfl) hE
set_option maxHeartbeats 4000000 in
set_option maxRecDepth 100000 in
theorem c_X6_isFull (l : Launch) (D : va_G) (cA : Nat → ClassId) (h : Nat) (a1 : Nat) (a2 : Nat) (sz : Nat) (q : tP) (u : Int32) (hE : f_X6_isFull q = some u) : Met l yX6_isFull wsX6_isFull ({ frames := 0, cells := 0, slots := 0, locals := 0 }) (va_Pc [.ref h] (PRE D cA (wQ h a1 a2 cA q) sz (fun _ => True))) (cQi D (wQ h a1 a2 cA q) (va_A (wQ h a1 a2 cA q) sz) u) 0 0 (va_A (wQ h a1 a2 cA q) sz) := by
  refine Met.ofW (cc := cX6_isFull) (maxL := 1) (ret := (some .boolean)) (by decide) rfl ?_
  intro PP EE S0 MM args below meth CC S1 B hml hv
  obtain ⟨rfl, hsz, hP, hK, hD0, hX⟩ := hv
  have hx := B.exec
  have hb := B.bytes
  have hr := B.returns
  have hts := atoms_spec (ws := wsX6_isFull) B.pre
  have hown : S0.vm.findClass RX6 = some MM.cls := findClass_of_methodNamed B.named
  have hlocks := B.notSynchronized
  subst hsz
  have hD := hD0.self (sz := S0.heap.size)
  generalize hAe : va_A (wQ h a1 a2 cA q) S0.heap.size = A at hD ⊢
  have hA : ∀ q : Nat, S0.heap.size ≤ q → A q := fun q h => by rw [← hAe]; exact Or.inr h
  have hS : va_S A S0.heap S0.heap [] := va_S.rf
  have k0 := hts (.fieldLink RX6 18 "WordForge$OpenThings" "size" "I") (List.mem_of_getElem? (i := 1) rfl)
  have inX6 : ∀ w ∈ wsX60, w ∈ wsX6_isFull := fun _ h => List.mem_cons_of_mem _ (List.mem_append_right _ h)
  have hl := lv_entry ([.ref h]) (n := 1) (Nat.le_of_ble_eq_true rfl)
  rw [lg_entry_eq]
  generalize (lg_sl ([.ref h]) ++ List.replicate (1 - (lg_sl ([.ref h])).length) Slot.unset).toArray = ls at hl ⊢
  have hl : lv_has ls 1 [(0, .ref h)] := hl
  unfold f_X6_isFull at hE
  suffices main : ∀ (H : Heap) (locs : List Loc) (ls : Array Slot), va_P D vwCl (wQ h a1 a2 cA q) H → va_D A (wQ h a1 a2 cA q) → va_S A S0.heap H locs → lv_has ls 1 [(0, .ref h)] → W PP l EE (headSpec wsX6_isFull ({ frames := 0, cells := 0, slots := 0, locals := 0 })).room S0 MM (#[.ref h] : Array Value) below meth CC H locs 0 0 (MQ below (cQi D (wQ h a1 a2 cA q) A u) (#[.ref h] : Array Value) S0 0 0 A) (F0 MM 0 ls []) from main _ _ _ hP hD hS hl
  intro H locs ls hP hD hS hl
  refine lv_aload_n hx hb dX6_isFull_0 rfl (lv_at hl 0 rfl) ?_
  refine va_get (D := D) (ci := 5) (v := .int q.1) (C := RX6) (T := TX6) (N := 3) hx hb hts inX6 hown hK hP 0 rfl rfl 2 (by decide) k0 (fun _ h9 => h9) rfl dX6_isFull_1 ?_
  refine lv_bipush (v := 12) hx hb dX6_isFull_4 (by decide +kernel) ?_
  refine lv_icmp_ne (tgt := 13) hx hb dX6_isFull_6 (by decide) (fun c1 => ?_) (fun c1 => ?_)
  · have hE := if_f c1 hE
    refine lv_iconst (v := 0) hx hb dX6_isFull_13 (by decide +kernel) ?_
    obtain rfl := Option.some.inj hE
    exact rt_n hx hb hr (by decide +kernel) hP hS rfl hlocks dX6_isFull_14
  · have hE := if_t c1 hE
    refine lv_iconst (v := 1) hx hb dX6_isFull_9 (by decide +kernel) ?_
    refine lv_goto (tgt := 14) hx hb dX6_isFull_10 (by decide) ?_
    obtain rfl := Option.some.inj hE
    exact rt_n hx hb hr (by decide +kernel) hP hS rfl hlocks dX6_isFull_14
set_option maxHeartbeats 4000000 in
set_option maxRecDepth 100000 in
theorem c_X6_latestSort (l : Launch) (D : va_G) (cA : Nat → ClassId) (h : Nat) (a1 : Nat) (a2 : Nat) (sz : Nat) (q : tP) (u : Int32) (hE : f_X6_latestSort q = some u) : Met l yX6_latestSort wsX6_latestSort ({ frames := 0, cells := 0, slots := 0, locals := 0 }) (va_Pc [.ref h] (PRE D cA (wQ h a1 a2 cA q) sz (fun _ => True))) (cQi D (wQ h a1 a2 cA q) (va_A (wQ h a1 a2 cA q) sz) u) 0 0 (va_A (wQ h a1 a2 cA q) sz) := by
  refine Met.ofW (cc := cX6_latestSort) (maxL := 1) (ret := (some .int)) (by decide) rfl ?_
  intro PP EE S0 MM args below meth CC S1 B hml hv
  obtain ⟨rfl, hsz, hP, hK, hD0, hX⟩ := hv
  have hx := B.exec
  have hb := B.bytes
  have hr := B.returns
  have hts := atoms_spec (ws := wsX6_latestSort) B.pre
  have hown : S0.vm.findClass RX6 = some MM.cls := findClass_of_methodNamed B.named
  have hlocks := B.notSynchronized
  subst hsz
  have hD := hD0.self (sz := S0.heap.size)
  generalize hAe : va_A (wQ h a1 a2 cA q) S0.heap.size = A at hD ⊢
  have hA : ∀ q : Nat, S0.heap.size ≤ q → A q := fun q h => by rw [← hAe]; exact Or.inr h
  have hS : va_S A S0.heap S0.heap [] := va_S.rf
  have k0 := hts (.fieldLink RX6 18 "WordForge$OpenThings" "size" "I") (List.mem_of_getElem? (i := 1) rfl)
  have inX6 : ∀ w ∈ wsX60, w ∈ wsX6_latestSort := fun _ h => List.mem_cons_of_mem _ (List.mem_append_right _ h)
  have k2 := hts (.fieldLink RX6 11 "WordForge$OpenThings" "sorts" "[I") (List.mem_of_getElem? (i := 2) rfl)
  have hl := lv_entry ([.ref h]) (n := 1) (Nat.le_of_ble_eq_true rfl)
  rw [lg_entry_eq]
  generalize (lg_sl ([.ref h]) ++ List.replicate (1 - (lg_sl ([.ref h])).length) Slot.unset).toArray = ls at hl ⊢
  have hl : lv_has ls 1 [(0, .ref h)] := hl
  unfold f_X6_latestSort at hE
  suffices main : ∀ (H : Heap) (locs : List Loc) (ls : Array Slot), va_P D vwCl (wQ h a1 a2 cA q) H → va_D A (wQ h a1 a2 cA q) → va_S A S0.heap H locs → lv_has ls 1 [(0, .ref h)] → W PP l EE (headSpec wsX6_latestSort ({ frames := 0, cells := 0, slots := 0, locals := 0 })).room S0 MM (#[.ref h] : Array Value) below meth CC H locs 0 0 (MQ below (cQi D (wQ h a1 a2 cA q) A u) (#[.ref h] : Array Value) S0 0 0 A) (F0 MM 0 ls []) from main _ _ _ hP hD hS hl
  intro H locs ls hP hD hS hl
  refine lv_aload_n hx hb dX6_latestSort_0 rfl (lv_at hl 0 rfl) ?_
  refine va_get (D := D) (ci := 5) (v := .int q.1) (C := RX6) (T := TX6) (N := 3) hx hb hts inX6 hown hK hP 0 rfl rfl 2 (by decide) k0 (fun _ h9 => h9) rfl dX6_latestSort_1 ?_
  refine lv_if_le (tgt := 21) hx hb dX6_latestSort_4 (by decide) (fun c1 => ?_) (fun c1 => ?_)
  · have hE := if_t c1 hE
    refine lv_iconst (v := 0) hx hb dX6_latestSort_21 (by decide +kernel) ?_
    obtain rfl := Option.some.inj hE
    exact rt_i hx hb hr hP hS rfl hlocks dX6_latestSort_22
  · have hE := if_f c1 hE
    refine lv_aload_n hx hb dX6_latestSort_7 rfl (lv_at hl 0 rfl) ?_
    refine va_get (D := D) (ci := 5) (v := .ref a1) (C := RX6) (T := TX6) (N := 3) hx hb hts inX6 hown hK hP 0 rfl rfl 0 (by decide) k2 (fun _ h9 => h9) rfl dX6_latestSort_8 ?_
    refine lv_aload_n hx hb dX6_latestSort_11 rfl (lv_at hl 0 rfl) ?_
    refine va_get (D := D) (ci := 5) (v := .int q.1) (C := RX6) (T := TX6) (N := 3) hx hb hts inX6 hown hK hP 0 rfl rfl 2 (by decide) k0 (fun _ h9 => h9) rfl dX6_latestSort_12 ?_
    refine lv_iconst (v := 1) hx hb dX6_latestSort_15 (by decide +kernel) ?_
    refine lv_isub hx hb dX6_latestSort_16 ?_
    have ⟨c2, hE⟩ := ck_some hE
    refine va_iald hx hb hK hP 1 0 rfl rfl c2 dX6_latestSort_17 ?_
    refine lv_goto (tgt := 22) hx hb dX6_latestSort_18 (by decide) ?_
    obtain rfl := Option.some.inj hE
    exact rt_i hx hb hr hP hS rfl hlocks dX6_latestSort_22
set_option maxHeartbeats 4000000 in
set_option maxRecDepth 100000 in
theorem c_X6_add (l : Launch) (D : va_G) (cA : Nat → ClassId) (h : Nat) (a1 : Nat) (a2 : Nat) (sz : Nat) (x1 : Int32) (x2 : Int32) (q : tP) (u : tP) (hE : f_X6_add x1 x2 q = some u) : Met l yX6_add wsX6_add ({ frames := 0, cells := 0, slots := 0, locals := 0 }) (va_Pc [.ref h, .int x1, .int x2] (PRE D cA (wQ h a1 a2 cA q) sz (fun _ => True))) (cQv D (wQ h a1 a2 cA u) (va_A (wQ h a1 a2 cA q) sz)) 0 0 (va_A (wQ h a1 a2 cA q) sz) := by
  refine Met.ofW (cc := cX6_add) (maxL := 3) (ret := none) (by decide) rfl ?_
  intro PP EE S0 MM args below meth CC S1 B hml hv
  obtain ⟨rfl, hsz, hP, hK, hD0, hX⟩ := hv
  have hx := B.exec
  have hb := B.bytes
  have hr := B.returns
  have hts := atoms_spec (ws := wsX6_add) B.pre
  have hown : S0.vm.findClass RX6 = some MM.cls := findClass_of_methodNamed B.named
  have hlocks := B.notSynchronized
  subst hsz
  have hD := hD0.self (sz := S0.heap.size)
  generalize hAe : va_A (wQ h a1 a2 cA q) S0.heap.size = A at hD ⊢
  have hA : ∀ q : Nat, S0.heap.size ≤ q → A q := fun q h => by rw [← hAe]; exact Or.inr h
  have hS : va_S A S0.heap S0.heap [] := va_S.rf
  have k0 := hts (.fieldLink RX6 18 "WordForge$OpenThings" "size" "I") (List.mem_of_getElem? (i := 1) rfl)
  have inX6 : ∀ w ∈ wsX60, w ∈ wsX6_add := fun _ h => List.mem_cons_of_mem _ (List.mem_append_right _ h)
  have k2 := hts (.fieldLink RX6 11 "WordForge$OpenThings" "sorts" "[I") (List.mem_of_getElem? (i := 2) rfl)
  have k3 := hts (.fieldLink RX6 15 "WordForge$OpenThings" "places" "[I") (List.mem_of_getElem? (i := 3) rfl)
  have hl := lv_entry ([.ref h, .int x1, .int x2]) (n := 3) (Nat.le_of_ble_eq_true rfl)
  rw [lg_entry_eq]
  generalize (lg_sl ([.ref h, .int x1, .int x2]) ++ List.replicate (3 - (lg_sl ([.ref h, .int x1, .int x2])).length) Slot.unset).toArray = ls at hl ⊢
  have hl : lv_has ls 3 [(0, .ref h), (1, .int x1), (2, .int x2)] := hl
  unfold f_X6_add at hE
  suffices main : ∀ (H : Heap) (locs : List Loc) (ls : Array Slot), va_P D vwCl (wQ h a1 a2 cA q) H → va_D A (wQ h a1 a2 cA q) → va_S A S0.heap H locs → lv_has ls 3 [(0, .ref h), (1, .int x1), (2, .int x2)] → W PP l EE (headSpec wsX6_add ({ frames := 0, cells := 0, slots := 0, locals := 0 })).room S0 MM (#[.ref h, .int x1, .int x2] : Array Value) below meth CC H locs 0 0 (MQ below (cQv D (wQ h a1 a2 cA u) A) (#[.ref h, .int x1, .int x2] : Array Value) S0 0 0 A) (F0 MM 0 ls []) from main _ _ _ hP hD hS hl
  intro H locs ls hP hD hS hl
  refine lv_aload_n hx hb dX6_add_0 rfl (lv_at hl 0 rfl) ?_
  refine va_get (D := D) (ci := 5) (v := .int q.1) (C := RX6) (T := TX6) (N := 3) hx hb hts inX6 hown hK hP 0 rfl rfl 2 (by decide) k0 (fun _ h9 => h9) rfl dX6_add_1 ?_
  refine lv_bipush (v := 12) hx hb dX6_add_4 (by decide +kernel) ?_
  refine lv_icmp_ge (tgt := 39) hx hb dX6_add_6 (by decide) (fun c1 => ?_) (fun c1 => ?_)
  · have hE := if_t c1 hE
    obtain rfl := Option.some.inj hE
    exact rt_v hx hb hr hP hS hlocks dX6_add_39
  · have hE := if_f c1 hE
    refine lv_aload_n hx hb dX6_add_9 rfl (lv_at hl 0 rfl) ?_
    refine va_get (D := D) (ci := 5) (v := .ref a1) (C := RX6) (T := TX6) (N := 3) hx hb hts inX6 hown hK hP 0 rfl rfl 0 (by decide) k2 (fun _ h9 => h9) rfl dX6_add_10 ?_
    refine lv_aload_n hx hb dX6_add_13 rfl (lv_at hl 0 rfl) ?_
    refine va_get (D := D) (ci := 5) (v := .int q.1) (C := RX6) (T := TX6) (N := 3) hx hb hts inX6 hown hK hP 0 rfl rfl 2 (by decide) k0 (fun _ h9 => h9) rfl dX6_add_14 ?_
    refine lv_iload_n hx hb dX6_add_17 rfl (lv_at hl 1 rfl) ?_
    have ⟨c2, hE⟩ := ck_some hE
    refine va_iast hx hb hK hP hD hS 1 0 rfl rfl c2 dX6_add_18 (fun H locs hP hD hS => ?_)
    have hP : va_P D vwCl (wQ h a1 a2 cA ((q.1, upd q.2.1 q.1.toNatClampNeg x1, q.2.2))) H := hP
    have hD : va_D A (wQ h a1 a2 cA ((q.1, upd q.2.1 q.1.toNatClampNeg x1, q.2.2))) := hD
    refine lv_aload_n hx hb dX6_add_19 rfl (lv_at hl 0 rfl) ?_
    refine va_get (D := D) (ci := 5) (v := .ref a2) (C := RX6) (T := TX6) (N := 3) hx hb hts inX6 hown hK hP 0 rfl rfl 1 (by decide) k3 (fun _ h9 => h9) rfl dX6_add_20 ?_
    refine lv_aload_n hx hb dX6_add_23 rfl (lv_at hl 0 rfl) ?_
    refine va_get (D := D) (ci := 5) (v := .int q.1) (C := RX6) (T := TX6) (N := 3) hx hb hts inX6 hown hK hP 0 rfl rfl 2 (by decide) k0 (fun _ h9 => h9) rfl dX6_add_24 ?_
    refine lv_iload_n hx hb dX6_add_27 rfl (lv_at hl 2 rfl) ?_
    have ⟨c3, hE⟩ := ck_some hE
    refine va_iast hx hb hK hP hD hS 2 0 rfl rfl c3 dX6_add_28 (fun H locs hP hD hS => ?_)
    have hP : va_P D vwCl (wQ h a1 a2 cA ((q.1, upd q.2.1 q.1.toNatClampNeg x1, upd q.2.2 q.1.toNatClampNeg x2))) H := hP
    have hD : va_D A (wQ h a1 a2 cA ((q.1, upd q.2.1 q.1.toNatClampNeg x1, upd q.2.2 q.1.toNatClampNeg x2))) := hD
    refine lv_aload_n hx hb dX6_add_29 rfl (lv_at hl 0 rfl) ?_
    refine lv_dup hx hb dX6_add_30 rfl ?_
    refine va_get (D := D) (ci := 5) (v := .int q.1) (C := RX6) (T := TX6) (N := 3) hx hb hts inX6 hown hK hP 0 rfl rfl 2 (by decide) k0 (fun _ h9 => h9) rfl dX6_add_31 ?_
    refine lv_iconst (v := 1) hx hb dX6_add_34 (by decide +kernel) ?_
    refine lv_iadd hx hb dX6_add_35 ?_
    refine va_put (D := D) (ci := 5) (v := .int (q.1 + 1)) (ty := .int) (C := RX6) (T := TX6) (N := 3) hx hb hts inX6 tyX6 tyX6_ok nmX6 hown hK hP hD hS 0 rfl rfl 2 (by decide) k0 (fun _ h9 => h9) rfl (by decide +kernel) rfl rfl (Nat.le_of_ble_eq_true rfl) dX6_add_36 (fun H locs hP hD hS => ?_)
    have hP : va_P D vwCl (wQ h a1 a2 cA ((q.1 + 1, upd q.2.1 q.1.toNatClampNeg x1, upd q.2.2 q.1.toNatClampNeg x2))) H := hP
    have hD : va_D A (wQ h a1 a2 cA ((q.1 + 1, upd q.2.1 q.1.toNatClampNeg x1, upd q.2.2 q.1.toNatClampNeg x2))) := hD
    obtain rfl := Option.some.inj hE
    exact rt_v hx hb hr hP hS hlocks dX6_add_39
set_option maxHeartbeats 4000000 in
set_option maxRecDepth 100000 in
theorem c_X6_close (l : Launch) (D : va_G) (cA : Nat → ClassId) (h : Nat) (a1 : Nat) (a2 : Nat) (sz : Nat) (q : tP) (u : Int32 × tP) (hE : f_X6_close q = some u) : Met l yX6_close wsX6_close ({ frames := 0, cells := 0, slots := 0, locals := 0 }) (va_Pc [.ref h] (PRE D cA (wQ h a1 a2 cA q) sz (fun _ => True))) (cQi D (wQ h a1 a2 cA u.2) (va_A (wQ h a1 a2 cA q) sz) u.1) 0 0 (va_A (wQ h a1 a2 cA q) sz) := by
  refine Met.ofW (cc := cX6_close) (maxL := 1) (ret := (some .int)) (by decide) rfl ?_
  intro PP EE S0 MM args below meth CC S1 B hml hv
  obtain ⟨rfl, hsz, hP, hK, hD0, hX⟩ := hv
  have hx := B.exec
  have hb := B.bytes
  have hr := B.returns
  have hts := atoms_spec (ws := wsX6_close) B.pre
  have hown : S0.vm.findClass RX6 = some MM.cls := findClass_of_methodNamed B.named
  have hlocks := B.notSynchronized
  subst hsz
  have hD := hD0.self (sz := S0.heap.size)
  generalize hAe : va_A (wQ h a1 a2 cA q) S0.heap.size = A at hD ⊢
  have hA : ∀ q : Nat, S0.heap.size ≤ q → A q := fun q h => by rw [← hAe]; exact Or.inr h
  have hS : va_S A S0.heap S0.heap [] := va_S.rf
  have k0 := hts (.fieldLink RX6 18 "WordForge$OpenThings" "size" "I") (List.mem_of_getElem? (i := 1) rfl)
  have inX6 : ∀ w ∈ wsX60, w ∈ wsX6_close := fun _ h => List.mem_cons_of_mem _ (List.mem_append_right _ h)
  have k2 := hts (.fieldLink RX6 15 "WordForge$OpenThings" "places" "[I") (List.mem_of_getElem? (i := 2) rfl)
  have hl := lv_entry ([.ref h]) (n := 1) (Nat.le_of_ble_eq_true rfl)
  rw [lg_entry_eq]
  generalize (lg_sl ([.ref h]) ++ List.replicate (1 - (lg_sl ([.ref h])).length) Slot.unset).toArray = ls at hl ⊢
  have hl : lv_has ls 1 [(0, .ref h)] := hl
  unfold f_X6_close at hE
  suffices main : ∀ (H : Heap) (locs : List Loc) (ls : Array Slot), va_P D vwCl (wQ h a1 a2 cA q) H → va_D A (wQ h a1 a2 cA q) → va_S A S0.heap H locs → lv_has ls 1 [(0, .ref h)] → W PP l EE (headSpec wsX6_close ({ frames := 0, cells := 0, slots := 0, locals := 0 })).room S0 MM (#[.ref h] : Array Value) below meth CC H locs 0 0 (MQ below (cQi D (wQ h a1 a2 cA u.2) A u.1) (#[.ref h] : Array Value) S0 0 0 A) (F0 MM 0 ls []) from main _ _ _ hP hD hS hl
  intro H locs ls hP hD hS hl
  refine lv_aload_n hx hb dX6_close_0 rfl (lv_at hl 0 rfl) ?_
  refine va_get (D := D) (ci := 5) (v := .int q.1) (C := RX6) (T := TX6) (N := 3) hx hb hts inX6 hown hK hP 0 rfl rfl 2 (by decide) k0 (fun _ h9 => h9) rfl dX6_close_1 ?_
  refine lv_if_ne (tgt := 9) hx hb dX6_close_4 (by decide) (fun c1 => ?_) (fun c1 => ?_)
  · have hE := if_f c1 hE
    refine lv_aload_n hx hb dX6_close_9 rfl (lv_at hl 0 rfl) ?_
    refine lv_dup hx hb dX6_close_10 rfl ?_
    refine va_get (D := D) (ci := 5) (v := .int q.1) (C := RX6) (T := TX6) (N := 3) hx hb hts inX6 hown hK hP 0 rfl rfl 2 (by decide) k0 (fun _ h9 => h9) rfl dX6_close_11 ?_
    refine lv_iconst (v := 1) hx hb dX6_close_14 (by decide +kernel) ?_
    refine lv_isub hx hb dX6_close_15 ?_
    refine va_put (D := D) (ci := 5) (v := .int (q.1 - 1)) (ty := .int) (C := RX6) (T := TX6) (N := 3) hx hb hts inX6 tyX6 tyX6_ok nmX6 hown hK hP hD hS 0 rfl rfl 2 (by decide) k0 (fun _ h9 => h9) rfl (by decide +kernel) rfl rfl (Nat.le_of_ble_eq_true rfl) dX6_close_16 (fun H locs hP hD hS => ?_)
    have hP : va_P D vwCl (wQ h a1 a2 cA ((q.1 - 1, q.2.1, q.2.2))) H := hP
    have hD : va_D A (wQ h a1 a2 cA ((q.1 - 1, q.2.1, q.2.2))) := hD
    refine lv_aload_n hx hb dX6_close_19 rfl (lv_at hl 0 rfl) ?_
    refine va_get (D := D) (ci := 5) (v := .ref a2) (C := RX6) (T := TX6) (N := 3) hx hb hts inX6 hown hK hP 0 rfl rfl 1 (by decide) k2 (fun _ h9 => h9) rfl dX6_close_20 ?_
    refine lv_aload_n hx hb dX6_close_23 rfl (lv_at hl 0 rfl) ?_
    refine va_get (D := D) (ci := 5) (v := .int (q.1 - 1)) (C := RX6) (T := TX6) (N := 3) hx hb hts inX6 hown hK hP 0 rfl rfl 2 (by decide) k0 (fun _ h9 => h9) rfl dX6_close_24 ?_
    have ⟨c2, hE⟩ := ck_some hE
    refine va_iald hx hb hK hP 2 0 rfl rfl c2 dX6_close_27 ?_
    obtain rfl := Option.some.inj hE
    exact rt_i hx hb hr hP hS rfl hlocks dX6_close_28
  · have hE := if_t c1 hE
    refine lv_iconst (v := (-1)) hx hb dX6_close_7 (by decide +kernel) ?_
    obtain rfl := Option.some.inj hE
    exact rt_i hx hb hr hP hS rfl hlocks dX6_close_8
set_option maxHeartbeats 4000000 in
set_option maxRecDepth 100000 in
theorem c_X1_isFull (l : Launch) (D : va_G) (cA : Nat → ClassId) (h : Nat) (a1 : Nat) (a2 : Nat) (a3 : Nat) (a4 : Nat) (sz : Nat) (c : tC) (u : Int32) (hE : f_X1_isFull c = some u) : Met l yX1_isFull wsX1_isFull ({ frames := 0, cells := 0, slots := 0, locals := 0 }) (va_Pc [.ref h] (PRE D cA (wC h a1 a2 a3 a4 cA c) sz (fun _ => True))) (cQi D (wC h a1 a2 a3 a4 cA c) (va_A (wC h a1 a2 a3 a4 cA c) sz) u) 0 0 (va_A (wC h a1 a2 a3 a4 cA c) sz) := by
  refine Met.ofW (cc := cX1_isFull) (maxL := 1) (ret := (some .boolean)) (by decide) rfl ?_
  intro PP EE S0 MM args below meth CC S1 B hml hv
  obtain ⟨rfl, hsz, hP, hK, hD0, hX⟩ := hv
  have hx := B.exec
  have hb := B.bytes
  have hr := B.returns
  have hts := atoms_spec (ws := wsX1_isFull) B.pre
  have hown : S0.vm.findClass RX1 = some MM.cls := findClass_of_methodNamed B.named
  have hlocks := B.notSynchronized
  subst hsz
  have hD := hD0.self (sz := S0.heap.size)
  generalize hAe : va_A (wC h a1 a2 a3 a4 cA c) S0.heap.size = A at hD ⊢
  have hA : ∀ q : Nat, S0.heap.size ≤ q → A q := fun q h => by rw [← hAe]; exact Or.inr h
  have hS : va_S A S0.heap S0.heap [] := va_S.rf
  have k0 := hts (.fieldLink RX1 25 "WordForge$Calls" "size" "I") (List.mem_of_getElem? (i := 1) rfl)
  have inX1 : ∀ w ∈ wsX10, w ∈ wsX1_isFull := fun _ h => List.mem_cons_of_mem _ (List.mem_append_right _ h)
  have hl := lv_entry ([.ref h]) (n := 1) (Nat.le_of_ble_eq_true rfl)
  rw [lg_entry_eq]
  generalize (lg_sl ([.ref h]) ++ List.replicate (1 - (lg_sl ([.ref h])).length) Slot.unset).toArray = ls at hl ⊢
  have hl : lv_has ls 1 [(0, .ref h)] := hl
  unfold f_X1_isFull at hE
  suffices main : ∀ (H : Heap) (locs : List Loc) (ls : Array Slot), va_P D vwCl (wC h a1 a2 a3 a4 cA c) H → va_D A (wC h a1 a2 a3 a4 cA c) → va_S A S0.heap H locs → lv_has ls 1 [(0, .ref h)] → W PP l EE (headSpec wsX1_isFull ({ frames := 0, cells := 0, slots := 0, locals := 0 })).room S0 MM (#[.ref h] : Array Value) below meth CC H locs 0 0 (MQ below (cQi D (wC h a1 a2 a3 a4 cA c) A u) (#[.ref h] : Array Value) S0 0 0 A) (F0 MM 0 ls []) from main _ _ _ hP hD hS hl
  intro H locs ls hP hD hS hl
  refine lv_aload_n hx hb dX1_isFull_0 rfl (lv_at hl 0 rfl) ?_
  refine va_get (D := D) (ci := 0) (v := .int c.1) (C := RX1) (T := TX1) (N := 5) hx hb hts inX1 hown hK hP 0 rfl rfl 4 (by decide) k0 (fun _ h9 => h9) rfl dX1_isFull_1 ?_
  refine lv_bipush (v := 30) hx hb dX1_isFull_4 (by decide +kernel) ?_
  refine lv_icmp_ne (tgt := 13) hx hb dX1_isFull_6 (by decide) (fun c1 => ?_) (fun c1 => ?_)
  · have hE := if_f c1 hE
    refine lv_iconst (v := 0) hx hb dX1_isFull_13 (by decide +kernel) ?_
    obtain rfl := Option.some.inj hE
    exact rt_n hx hb hr (by decide +kernel) hP hS rfl hlocks dX1_isFull_14
  · have hE := if_t c1 hE
    refine lv_iconst (v := 1) hx hb dX1_isFull_9 (by decide +kernel) ?_
    refine lv_goto (tgt := 14) hx hb dX1_isFull_10 (by decide) ?_
    obtain rfl := Option.some.inj hE
    exact rt_n hx hb hr (by decide +kernel) hP hS rfl hlocks dX1_isFull_14
set_option maxHeartbeats 4000000 in
set_option maxRecDepth 100000 in
theorem c_X1_latestIsCatch (l : Launch) (D : va_G) (cA : Nat → ClassId) (h : Nat) (a1 : Nat) (a2 : Nat) (a3 : Nat) (a4 : Nat) (sz : Nat) (c : tC) (u : Int32) (hE : f_X1_latestIsCatch c = some u) : Met l yX1_latestIsCatch wsX1_latestIsCatch ({ frames := 0, cells := 0, slots := 0, locals := 0 }) (va_Pc [.ref h] (PRE D cA (wC h a1 a2 a3 a4 cA c) sz (fun _ => True))) (cQi D (wC h a1 a2 a3 a4 cA c) (va_A (wC h a1 a2 a3 a4 cA c) sz) u) 0 0 (va_A (wC h a1 a2 a3 a4 cA c) sz) := by
  refine Met.ofW (cc := cX1_latestIsCatch) (maxL := 1) (ret := (some .boolean)) (by decide) rfl ?_
  intro PP EE S0 MM args below meth CC S1 B hml hv
  obtain ⟨rfl, hsz, hP, hK, hD0, hX⟩ := hv
  have hx := B.exec
  have hb := B.bytes
  have hr := B.returns
  have hts := atoms_spec (ws := wsX1_latestIsCatch) B.pre
  have hown : S0.vm.findClass RX1 = some MM.cls := findClass_of_methodNamed B.named
  have hlocks := B.notSynchronized
  subst hsz
  have hD := hD0.self (sz := S0.heap.size)
  generalize hAe : va_A (wC h a1 a2 a3 a4 cA c) S0.heap.size = A at hD ⊢
  have hA : ∀ q : Nat, S0.heap.size ≤ q → A q := fun q h => by rw [← hAe]; exact Or.inr h
  have hS : va_S A S0.heap S0.heap [] := va_S.rf
  have k0 := hts (.fieldLink RX1 25 "WordForge$Calls" "size" "I") (List.mem_of_getElem? (i := 1) rfl)
  have inX1 : ∀ w ∈ wsX10, w ∈ wsX1_latestIsCatch := fun _ h => List.mem_cons_of_mem _ (List.mem_append_right _ h)
  have k2 := hts (.fieldLink RX1 15 "WordForge$Calls" "isCatch" "[Z") (List.mem_of_getElem? (i := 2) rfl)
  have hl := lv_entry ([.ref h]) (n := 1) (Nat.le_of_ble_eq_true rfl)
  rw [lg_entry_eq]
  generalize (lg_sl ([.ref h]) ++ List.replicate (1 - (lg_sl ([.ref h])).length) Slot.unset).toArray = ls at hl ⊢
  have hl : lv_has ls 1 [(0, .ref h)] := hl
  unfold f_X1_latestIsCatch at hE
  suffices main : ∀ (H : Heap) (locs : List Loc) (ls : Array Slot), va_P D vwCl (wC h a1 a2 a3 a4 cA c) H → va_D A (wC h a1 a2 a3 a4 cA c) → va_S A S0.heap H locs → lv_has ls 1 [(0, .ref h)] → W PP l EE (headSpec wsX1_latestIsCatch ({ frames := 0, cells := 0, slots := 0, locals := 0 })).room S0 MM (#[.ref h] : Array Value) below meth CC H locs 0 0 (MQ below (cQi D (wC h a1 a2 a3 a4 cA c) A u) (#[.ref h] : Array Value) S0 0 0 A) (F0 MM 0 ls []) from main _ _ _ hP hD hS hl
  intro H locs ls hP hD hS hl
  refine lv_aload_n hx hb dX1_latestIsCatch_0 rfl (lv_at hl 0 rfl) ?_
  refine va_get (D := D) (ci := 0) (v := .int c.1) (C := RX1) (T := TX1) (N := 5) hx hb hts inX1 hown hK hP 0 rfl rfl 4 (by decide) k0 (fun _ h9 => h9) rfl dX1_latestIsCatch_1 ?_
  refine lv_if_le (tgt := 25) hx hb dX1_latestIsCatch_4 (by decide) (fun c1 => ?_) (fun c1 => ?_)
  · have hE := if_t c1 hE
    refine lv_iconst (v := 0) hx hb dX1_latestIsCatch_25 (by decide +kernel) ?_
    obtain rfl := Option.some.inj hE
    exact rt_n hx hb hr (by decide +kernel) hP hS rfl hlocks dX1_latestIsCatch_26
  · have hE := if_f c1 hE
    refine lv_aload_n hx hb dX1_latestIsCatch_7 rfl (lv_at hl 0 rfl) ?_
    refine va_get (D := D) (ci := 0) (v := .ref a2) (C := RX1) (T := TX1) (N := 5) hx hb hts inX1 hown hK hP 0 rfl rfl 1 (by decide) k2 (fun _ h9 => h9) rfl dX1_latestIsCatch_8 ?_
    refine lv_aload_n hx hb dX1_latestIsCatch_11 rfl (lv_at hl 0 rfl) ?_
    refine va_get (D := D) (ci := 0) (v := .int c.1) (C := RX1) (T := TX1) (N := 5) hx hb hts inX1 hown hK hP 0 rfl rfl 4 (by decide) k0 (fun _ h9 => h9) rfl dX1_latestIsCatch_12 ?_
    refine lv_iconst (v := 1) hx hb dX1_latestIsCatch_15 (by decide +kernel) ?_
    refine lv_isub hx hb dX1_latestIsCatch_16 ?_
    have ⟨c2, hE⟩ := ck_some hE
    refine va_zald hx hb hK hP 2 1 rfl rfl c2 dX1_latestIsCatch_17 ?_
    refine lv_if_eq (tgt := 25) hx hb dX1_latestIsCatch_18 (by decide) (fun c3 => ?_) (fun c3 => ?_)
    · have hE := if_t c3 hE
      refine lv_iconst (v := 0) hx hb dX1_latestIsCatch_25 (by decide +kernel) ?_
      obtain rfl := Option.some.inj hE
      exact rt_n hx hb hr (by decide +kernel) hP hS rfl hlocks dX1_latestIsCatch_26
    · have hE := if_f c3 hE
      refine lv_iconst (v := 1) hx hb dX1_latestIsCatch_21 (by decide +kernel) ?_
      refine lv_goto (tgt := 26) hx hb dX1_latestIsCatch_22 (by decide) ?_
      obtain rfl := Option.some.inj hE
      exact rt_n hx hb hr (by decide +kernel) hP hS rfl hlocks dX1_latestIsCatch_26
set_option maxHeartbeats 4000000 in
set_option maxRecDepth 100000 in
theorem c_X1_latestIsCall (l : Launch) (D : va_G) (cA : Nat → ClassId) (h : Nat) (a1 : Nat) (a2 : Nat) (a3 : Nat) (a4 : Nat) (sz : Nat) (c : tC) (u : Int32) (hE : f_X1_latestIsCall c = some u) : Met l yX1_latestIsCall wsX1_latestIsCall ({ frames := 0, cells := 0, slots := 0, locals := 0 }) (va_Pc [.ref h] (PRE D cA (wC h a1 a2 a3 a4 cA c) sz (fun _ => True))) (cQi D (wC h a1 a2 a3 a4 cA c) (va_A (wC h a1 a2 a3 a4 cA c) sz) u) 0 0 (va_A (wC h a1 a2 a3 a4 cA c) sz) := by
  refine Met.ofW (cc := cX1_latestIsCall) (maxL := 1) (ret := (some .boolean)) (by decide) rfl ?_
  intro PP EE S0 MM args below meth CC S1 B hml hv
  obtain ⟨rfl, hsz, hP, hK, hD0, hX⟩ := hv
  have hx := B.exec
  have hb := B.bytes
  have hr := B.returns
  have hts := atoms_spec (ws := wsX1_latestIsCall) B.pre
  have hown : S0.vm.findClass RX1 = some MM.cls := findClass_of_methodNamed B.named
  have hlocks := B.notSynchronized
  subst hsz
  have hD := hD0.self (sz := S0.heap.size)
  generalize hAe : va_A (wC h a1 a2 a3 a4 cA c) S0.heap.size = A at hD ⊢
  have hA : ∀ q : Nat, S0.heap.size ≤ q → A q := fun q h => by rw [← hAe]; exact Or.inr h
  have hS : va_S A S0.heap S0.heap [] := va_S.rf
  have k0 := hts (.fieldLink RX1 25 "WordForge$Calls" "size" "I") (List.mem_of_getElem? (i := 1) rfl)
  have inX1 : ∀ w ∈ wsX10, w ∈ wsX1_latestIsCall := fun _ h => List.mem_cons_of_mem _ (List.mem_append_right _ h)
  have k2 := hts (.fieldLink RX1 15 "WordForge$Calls" "isCatch" "[Z") (List.mem_of_getElem? (i := 2) rfl)
  have hl := lv_entry ([.ref h]) (n := 1) (Nat.le_of_ble_eq_true rfl)
  rw [lg_entry_eq]
  generalize (lg_sl ([.ref h]) ++ List.replicate (1 - (lg_sl ([.ref h])).length) Slot.unset).toArray = ls at hl ⊢
  have hl : lv_has ls 1 [(0, .ref h)] := hl
  unfold f_X1_latestIsCall at hE
  suffices main : ∀ (H : Heap) (locs : List Loc) (ls : Array Slot), va_P D vwCl (wC h a1 a2 a3 a4 cA c) H → va_D A (wC h a1 a2 a3 a4 cA c) → va_S A S0.heap H locs → lv_has ls 1 [(0, .ref h)] → W PP l EE (headSpec wsX1_latestIsCall ({ frames := 0, cells := 0, slots := 0, locals := 0 })).room S0 MM (#[.ref h] : Array Value) below meth CC H locs 0 0 (MQ below (cQi D (wC h a1 a2 a3 a4 cA c) A u) (#[.ref h] : Array Value) S0 0 0 A) (F0 MM 0 ls []) from main _ _ _ hP hD hS hl
  intro H locs ls hP hD hS hl
  refine lv_aload_n hx hb dX1_latestIsCall_0 rfl (lv_at hl 0 rfl) ?_
  refine va_get (D := D) (ci := 0) (v := .int c.1) (C := RX1) (T := TX1) (N := 5) hx hb hts inX1 hown hK hP 0 rfl rfl 4 (by decide) k0 (fun _ h9 => h9) rfl dX1_latestIsCall_1 ?_
  refine lv_if_le (tgt := 25) hx hb dX1_latestIsCall_4 (by decide) (fun c1 => ?_) (fun c1 => ?_)
  · have hE := if_t c1 hE
    refine lv_iconst (v := 0) hx hb dX1_latestIsCall_25 (by decide +kernel) ?_
    obtain rfl := Option.some.inj hE
    exact rt_n hx hb hr (by decide +kernel) hP hS rfl hlocks dX1_latestIsCall_26
  · have hE := if_f c1 hE
    refine lv_aload_n hx hb dX1_latestIsCall_7 rfl (lv_at hl 0 rfl) ?_
    refine va_get (D := D) (ci := 0) (v := .ref a2) (C := RX1) (T := TX1) (N := 5) hx hb hts inX1 hown hK hP 0 rfl rfl 1 (by decide) k2 (fun _ h9 => h9) rfl dX1_latestIsCall_8 ?_
    refine lv_aload_n hx hb dX1_latestIsCall_11 rfl (lv_at hl 0 rfl) ?_
    refine va_get (D := D) (ci := 0) (v := .int c.1) (C := RX1) (T := TX1) (N := 5) hx hb hts inX1 hown hK hP 0 rfl rfl 4 (by decide) k0 (fun _ h9 => h9) rfl dX1_latestIsCall_12 ?_
    refine lv_iconst (v := 1) hx hb dX1_latestIsCall_15 (by decide +kernel) ?_
    refine lv_isub hx hb dX1_latestIsCall_16 ?_
    have ⟨c2, hE⟩ := ck_some hE
    refine va_zald hx hb hK hP 2 1 rfl rfl c2 dX1_latestIsCall_17 ?_
    refine lv_if_ne (tgt := 25) hx hb dX1_latestIsCall_18 (by decide) (fun c3 => ?_) (fun c3 => ?_)
    · have hE := if_f c3 hE
      refine lv_iconst (v := 0) hx hb dX1_latestIsCall_25 (by decide +kernel) ?_
      obtain rfl := Option.some.inj hE
      exact rt_n hx hb hr (by decide +kernel) hP hS rfl hlocks dX1_latestIsCall_26
    · have hE := if_t c3 hE
      refine lv_iconst (v := 1) hx hb dX1_latestIsCall_21 (by decide +kernel) ?_
      refine lv_goto (tgt := 26) hx hb dX1_latestIsCall_22 (by decide) ?_
      obtain rfl := Option.some.inj hE
      exact rt_n hx hb hr (by decide +kernel) hP hS rfl hlocks dX1_latestIsCall_26
set_option maxRecDepth 20000 in
theorem hX1_add_X1_isFull_29 : GoodIn wsX1_add (wsV RX1 29 RX1 yX1_isFull wsX1_isFull) := goodIn_r _ [4, 5, 6, 7, 8, 2, 9, 10, 11, 12, 13] rfl (by decide +kernel)
set_option maxHeartbeats 4000000 in
set_option maxRecDepth 100000 in
theorem c_X1_add (l : Launch) (D : va_G) (cA : Nat → ClassId) (h : Nat) (a1 : Nat) (a2 : Nat) (a3 : Nat) (a4 : Nat) (sz : Nat) (x1 : Int32) (c : tC) (u : Int32 × tC) (hE : f_X1_add x1 c = some u) : Met l yX1_add wsX1_add ({ frames := 1, cells := 0, slots := 0, locals := 20 }) (va_Pc [.ref h, .int x1] (PRE D cA (wC h a1 a2 a3 a4 cA c) sz (fun _ => True))) (cQi D (wC h a1 a2 a3 a4 cA u.2) (va_A (wC h a1 a2 a3 a4 cA c) sz) u.1) 0 0 (va_A (wC h a1 a2 a3 a4 cA c) sz) := by
  refine Met.ofW (cc := cX1_add) (maxL := 2) (ret := (some .int)) (by decide) rfl ?_
  intro PP EE S0 MM args below meth CC S1 B hml hv
  obtain ⟨rfl, hsz, hP, hK, hD0, hX⟩ := hv
  have hx := B.exec
  have hb := B.bytes
  have hr := B.returns
  have hts := atoms_spec (ws := wsX1_add) B.pre
  have hown : S0.vm.findClass RX1 = some MM.cls := findClass_of_methodNamed B.named
  have hlocks := B.notSynchronized
  subst hsz
  have hD := hD0.self (sz := S0.heap.size)
  generalize hAe : va_A (wC h a1 a2 a3 a4 cA c) S0.heap.size = A at hD ⊢
  have hA : ∀ q : Nat, S0.heap.size ≤ q → A q := fun q h => by rw [← hAe]; exact Or.inr h
  have hS : va_S A S0.heap S0.heap [] := va_S.rf
  have k0 := hts (.fieldLink RX1 11 "WordForge$Calls" "places" "[I") (List.mem_of_getElem? (i := 1) rfl)
  have inX1 : ∀ w ∈ wsX10, w ∈ wsX1_add := fun _ h => List.mem_cons_of_mem _ (List.mem_append_right _ h)
  have k2 := hts (.fieldLink RX1 25 "WordForge$Calls" "size" "I") (List.mem_of_getElem? (i := 2) rfl)
  have k3 := hts (.fieldLink RX1 15 "WordForge$Calls" "isCatch" "[Z") (List.mem_of_getElem? (i := 3) rfl)
  have hl := lv_entry ([.ref h, .int x1]) (n := 2) (Nat.le_of_ble_eq_true rfl)
  rw [lg_entry_eq]
  generalize (lg_sl ([.ref h, .int x1]) ++ List.replicate (2 - (lg_sl ([.ref h, .int x1])).length) Slot.unset).toArray = ls at hl ⊢
  have hl : lv_has ls 2 [(0, .ref h), (1, .int x1)] := hl
  unfold f_X1_add at hE
  suffices main : ∀ (H : Heap) (locs : List Loc) (ls : Array Slot), va_P D vwCl (wC h a1 a2 a3 a4 cA c) H → va_D A (wC h a1 a2 a3 a4 cA c) → va_S A S0.heap H locs → lv_has ls 2 [(0, .ref h), (1, .int x1)] → W PP l EE (headSpec wsX1_add ({ frames := 1, cells := 0, slots := 0, locals := 20 })).room S0 MM (#[.ref h, .int x1] : Array Value) below meth CC H locs 0 0 (MQ below (cQi D (wC h a1 a2 a3 a4 cA u.2) A u.1) (#[.ref h, .int x1] : Array Value) S0 0 0 A) (F0 MM 0 ls []) from main _ _ _ hP hD hS hl
  intro H locs ls hP hD hS hl
  refine lv_aload_n hx hb dX1_add_0 rfl (lv_at hl 0 rfl) ?_
  obtain ⟨u1, h2, hE⟩ := bd_some hE
  refine cw_i (As := []) (rest := []) (r := u1) (wc := (wC h a1 a2 a3 a4 cA c)) ⟨hx, hb, hml, hown, hts⟩ (c_X1_isFull l D cA h a1 a2 a3 a4 H.size c u1 h2) (cwV 0 hts hX1_add_X1_isFull_29 rfl rfl rfl (by decide +kernel) ⟨Nat.le_of_ble_eq_true rfl, Nat.le_of_ble_eq_true rfl⟩) rfl hl.1 rfl (Nat.le_of_ble_eq_true rfl) dX1_add_1 ⟨Nat.zero_le _, Nat.zero_le _⟩ hK hP hD hS hA (va_recv hK hP (ci := 0) (q0 := 0) rfl rfl) [h, a1, a2, a3, a4] rfl rfl (fun _ _ _ _ h => h) (fun _ _ _ => trivial) (fun H locs hP hD hS => ?_)
  have hP : va_P D vwCl (wC h a1 a2 a3 a4 cA c) H := hP
  have hD : va_D A (wC h a1 a2 a3 a4 cA c) := hD
  refine lv_if_eq (tgt := 10) hx hb dX1_add_4 (by decide) (fun c3 => ?_) (fun c3 => ?_)
  · have hE := if_t c3 hE
    refine lv_aload_n hx hb dX1_add_10 rfl (lv_at hl 0 rfl) ?_
    refine va_get (D := D) (ci := 0) (v := .ref a1) (C := RX1) (T := TX1) (N := 5) hx hb hts inX1 hown hK hP 0 rfl rfl 0 (by decide) k0 (fun _ h9 => h9) rfl dX1_add_11 ?_
    refine lv_aload_n hx hb dX1_add_14 rfl (lv_at hl 0 rfl) ?_
    refine va_get (D := D) (ci := 0) (v := .int c.1) (C := RX1) (T := TX1) (N := 5) hx hb hts inX1 hown hK hP 0 rfl rfl 4 (by decide) k2 (fun _ h9 => h9) rfl dX1_add_15 ?_
    refine lv_iload_n hx hb dX1_add_18 rfl (lv_at hl 1 rfl) ?_
    have ⟨c4, hE⟩ := ck_some hE
    refine va_iast hx hb hK hP hD hS 1 0 rfl rfl c4 dX1_add_19 (fun H locs hP hD hS => ?_)
    have hP : va_P D vwCl (wC h a1 a2 a3 a4 cA ((c.1, upd c.2.1 c.1.toNatClampNeg x1, c.2.2.1, c.2.2.2.1, c.2.2.2.2))) H := hP
    have hD : va_D A (wC h a1 a2 a3 a4 cA ((c.1, upd c.2.1 c.1.toNatClampNeg x1, c.2.2.1, c.2.2.2.1, c.2.2.2.2))) := hD
    refine lv_aload_n hx hb dX1_add_20 rfl (lv_at hl 0 rfl) ?_
    refine va_get (D := D) (ci := 0) (v := .ref a2) (C := RX1) (T := TX1) (N := 5) hx hb hts inX1 hown hK hP 0 rfl rfl 1 (by decide) k3 (fun _ h9 => h9) rfl dX1_add_21 ?_
    refine lv_aload_n hx hb dX1_add_24 rfl (lv_at hl 0 rfl) ?_
    refine va_get (D := D) (ci := 0) (v := .int c.1) (C := RX1) (T := TX1) (N := 5) hx hb hts inX1 hown hK hP 0 rfl rfl 4 (by decide) k2 (fun _ h9 => h9) rfl dX1_add_25 ?_
    refine lv_iconst (v := 0) hx hb dX1_add_28 (by decide +kernel) ?_
    have ⟨c5, hE⟩ := ck_some hE
    refine va_zast hx hb hK hP hD hS 2 1 rfl rfl c5 dX1_add_29 (fun H locs hP hD hS => ?_)
    have hP : va_P D vwCl (wC h a1 a2 a3 a4 cA ((c.1, upd c.2.1 c.1.toNatClampNeg x1, upd c.2.2.1 c.1.toNatClampNeg (vp_nar .boolean 0), c.2.2.2.1, c.2.2.2.2))) H := hP
    have hD : va_D A (wC h a1 a2 a3 a4 cA ((c.1, upd c.2.1 c.1.toNatClampNeg x1, upd c.2.2.1 c.1.toNatClampNeg (vp_nar .boolean 0), c.2.2.2.1, c.2.2.2.2))) := hD
    refine lv_aload_n hx hb dX1_add_30 rfl (lv_at hl 0 rfl) ?_
    refine lv_dup hx hb dX1_add_31 rfl ?_
    refine va_get (D := D) (ci := 0) (v := .int c.1) (C := RX1) (T := TX1) (N := 5) hx hb hts inX1 hown hK hP 0 rfl rfl 4 (by decide) k2 (fun _ h9 => h9) rfl dX1_add_32 ?_
    refine lv_iconst (v := 1) hx hb dX1_add_35 (by decide +kernel) ?_
    refine lv_iadd hx hb dX1_add_36 ?_
    refine va_put (D := D) (ci := 0) (v := .int (c.1 + 1)) (ty := .int) (C := RX1) (T := TX1) (N := 5) hx hb hts inX1 tyX1 tyX1_ok nmX1 hown hK hP hD hS 0 rfl rfl 4 (by decide) k2 (fun _ h9 => h9) rfl (by decide +kernel) rfl rfl (Nat.le_of_ble_eq_true rfl) dX1_add_37 (fun H locs hP hD hS => ?_)
    have hP : va_P D vwCl (wC h a1 a2 a3 a4 cA ((c.1 + 1, upd c.2.1 c.1.toNatClampNeg x1, upd c.2.2.1 c.1.toNatClampNeg (vp_nar .boolean 0), c.2.2.2.1, c.2.2.2.2))) H := hP
    have hD : va_D A (wC h a1 a2 a3 a4 cA ((c.1 + 1, upd c.2.1 c.1.toNatClampNeg x1, upd c.2.2.1 c.1.toNatClampNeg (vp_nar .boolean 0), c.2.2.2.1, c.2.2.2.2))) := hD
    refine lv_iconst (v := 0) hx hb dX1_add_40 (by decide +kernel) ?_
    obtain rfl := Option.some.inj hE
    exact rt_i hx hb hr hP hS rfl hlocks dX1_add_41
  · have hE := if_f c3 hE
    refine lv_bipush (v := (-5)) hx hb dX1_add_7 (by decide +kernel) ?_
    obtain rfl := Option.some.inj hE
    exact rt_i hx hb hr hP hS rfl hlocks dX1_add_9
set_option maxRecDepth 20000 in
theorem hX1_addCatch_X1_isFull_29 : GoodIn wsX1_addCatch (wsV RX1 29 RX1 yX1_isFull wsX1_isFull) := goodIn_r _ [5, 6, 7, 8, 9, 2, 10, 11, 12, 13, 14] rfl (by decide +kernel)
set_option maxHeartbeats 4000000 in
set_option maxRecDepth 100000 in
theorem c_X1_addCatch (l : Launch) (D : va_G) (cA : Nat → ClassId) (h : Nat) (a1 : Nat) (a2 : Nat) (a3 : Nat) (a4 : Nat) (sz : Nat) (x1 : Int32) (x2 : Int32) (c : tC) (u : tC) (hE : f_X1_addCatch x1 x2 c = some u) : Met l yX1_addCatch wsX1_addCatch ({ frames := 1, cells := 0, slots := 0, locals := 20 }) (va_Pc [.ref h, .int x1, .int x2] (PRE D cA (wC h a1 a2 a3 a4 cA c) sz (fun _ => True))) (cQv D (wC h a1 a2 a3 a4 cA u) (va_A (wC h a1 a2 a3 a4 cA c) sz)) 0 0 (va_A (wC h a1 a2 a3 a4 cA c) sz) := by
  refine Met.ofW (cc := cX1_addCatch) (maxL := 3) (ret := none) (by decide) rfl ?_
  intro PP EE S0 MM args below meth CC S1 B hml hv
  obtain ⟨rfl, hsz, hP, hK, hD0, hX⟩ := hv
  have hx := B.exec
  have hb := B.bytes
  have hr := B.returns
  have hts := atoms_spec (ws := wsX1_addCatch) B.pre
  have hown : S0.vm.findClass RX1 = some MM.cls := findClass_of_methodNamed B.named
  have hlocks := B.notSynchronized
  subst hsz
  have hD := hD0.self (sz := S0.heap.size)
  generalize hAe : va_A (wC h a1 a2 a3 a4 cA c) S0.heap.size = A at hD ⊢
  have hA : ∀ q : Nat, S0.heap.size ≤ q → A q := fun q h => by rw [← hAe]; exact Or.inr h
  have hS : va_S A S0.heap S0.heap [] := va_S.rf
  have k0 := hts (.fieldLink RX1 15 "WordForge$Calls" "isCatch" "[Z") (List.mem_of_getElem? (i := 1) rfl)
  have inX1 : ∀ w ∈ wsX10, w ∈ wsX1_addCatch := fun _ h => List.mem_cons_of_mem _ (List.mem_append_right _ h)
  have k2 := hts (.fieldLink RX1 25 "WordForge$Calls" "size" "I") (List.mem_of_getElem? (i := 2) rfl)
  have k3 := hts (.fieldLink RX1 19 "WordForge$Calls" "notedStack" "[I") (List.mem_of_getElem? (i := 3) rfl)
  have k4 := hts (.fieldLink RX1 22 "WordForge$Calls" "notedStore" "[I") (List.mem_of_getElem? (i := 4) rfl)
  have hl := lv_entry ([.ref h, .int x1, .int x2]) (n := 3) (Nat.le_of_ble_eq_true rfl)
  rw [lg_entry_eq]
  generalize (lg_sl ([.ref h, .int x1, .int x2]) ++ List.replicate (3 - (lg_sl ([.ref h, .int x1, .int x2])).length) Slot.unset).toArray = ls at hl ⊢
  have hl : lv_has ls 3 [(0, .ref h), (1, .int x1), (2, .int x2)] := hl
  unfold f_X1_addCatch at hE
  suffices main : ∀ (H : Heap) (locs : List Loc) (ls : Array Slot), va_P D vwCl (wC h a1 a2 a3 a4 cA c) H → va_D A (wC h a1 a2 a3 a4 cA c) → va_S A S0.heap H locs → lv_has ls 3 [(0, .ref h), (1, .int x1), (2, .int x2)] → W PP l EE (headSpec wsX1_addCatch ({ frames := 1, cells := 0, slots := 0, locals := 20 })).room S0 MM (#[.ref h, .int x1, .int x2] : Array Value) below meth CC H locs 0 0 (MQ below (cQv D (wC h a1 a2 a3 a4 cA u) A) (#[.ref h, .int x1, .int x2] : Array Value) S0 0 0 A) (F0 MM 0 ls []) from main _ _ _ hP hD hS hl
  intro H locs ls hP hD hS hl
  refine lv_aload_n hx hb dX1_addCatch_0 rfl (lv_at hl 0 rfl) ?_
  obtain ⟨u1, h2, hE⟩ := bd_some hE
  refine cw_i (As := []) (rest := []) (r := u1) (wc := (wC h a1 a2 a3 a4 cA c)) ⟨hx, hb, hml, hown, hts⟩ (c_X1_isFull l D cA h a1 a2 a3 a4 H.size c u1 h2) (cwV 0 hts hX1_addCatch_X1_isFull_29 rfl rfl rfl (by decide +kernel) ⟨Nat.le_of_ble_eq_true rfl, Nat.le_of_ble_eq_true rfl⟩) rfl hl.1 rfl (Nat.le_of_ble_eq_true rfl) dX1_addCatch_1 ⟨Nat.zero_le _, Nat.zero_le _⟩ hK hP hD hS hA (va_recv hK hP (ci := 0) (q0 := 0) rfl rfl) [h, a1, a2, a3, a4] rfl rfl (fun _ _ _ _ h => h) (fun _ _ _ => trivial) (fun H locs hP hD hS => ?_)
  have hP : va_P D vwCl (wC h a1 a2 a3 a4 cA c) H := hP
  have hD : va_D A (wC h a1 a2 a3 a4 cA c) := hD
  refine lv_if_eq (tgt := 8) hx hb dX1_addCatch_4 (by decide) (fun c3 => ?_) (fun c3 => ?_)
  · have hE := if_t c3 hE
    refine lv_aload_n hx hb dX1_addCatch_8 rfl (lv_at hl 0 rfl) ?_
    refine va_get (D := D) (ci := 0) (v := .ref a2) (C := RX1) (T := TX1) (N := 5) hx hb hts inX1 hown hK hP 0 rfl rfl 1 (by decide) k0 (fun _ h9 => h9) rfl dX1_addCatch_9 ?_
    refine lv_aload_n hx hb dX1_addCatch_12 rfl (lv_at hl 0 rfl) ?_
    refine va_get (D := D) (ci := 0) (v := .int c.1) (C := RX1) (T := TX1) (N := 5) hx hb hts inX1 hown hK hP 0 rfl rfl 4 (by decide) k2 (fun _ h9 => h9) rfl dX1_addCatch_13 ?_
    refine lv_iconst (v := 1) hx hb dX1_addCatch_16 (by decide +kernel) ?_
    have ⟨c4, hE⟩ := ck_some hE
    refine va_zast hx hb hK hP hD hS 2 1 rfl rfl c4 dX1_addCatch_17 (fun H locs hP hD hS => ?_)
    have hP : va_P D vwCl (wC h a1 a2 a3 a4 cA ((c.1, c.2.1, upd c.2.2.1 c.1.toNatClampNeg (vp_nar .boolean 1), c.2.2.2.1, c.2.2.2.2))) H := hP
    have hD : va_D A (wC h a1 a2 a3 a4 cA ((c.1, c.2.1, upd c.2.2.1 c.1.toNatClampNeg (vp_nar .boolean 1), c.2.2.2.1, c.2.2.2.2))) := hD
    refine lv_aload_n hx hb dX1_addCatch_18 rfl (lv_at hl 0 rfl) ?_
    refine va_get (D := D) (ci := 0) (v := .ref a3) (C := RX1) (T := TX1) (N := 5) hx hb hts inX1 hown hK hP 0 rfl rfl 2 (by decide) k3 (fun _ h9 => h9) rfl dX1_addCatch_19 ?_
    refine lv_aload_n hx hb dX1_addCatch_22 rfl (lv_at hl 0 rfl) ?_
    refine va_get (D := D) (ci := 0) (v := .int c.1) (C := RX1) (T := TX1) (N := 5) hx hb hts inX1 hown hK hP 0 rfl rfl 4 (by decide) k2 (fun _ h9 => h9) rfl dX1_addCatch_23 ?_
    refine lv_iload_n hx hb dX1_addCatch_26 rfl (lv_at hl 1 rfl) ?_
    have ⟨c5, hE⟩ := ck_some hE
    refine va_iast hx hb hK hP hD hS 3 0 rfl rfl c5 dX1_addCatch_27 (fun H locs hP hD hS => ?_)
    have hP : va_P D vwCl (wC h a1 a2 a3 a4 cA ((c.1, c.2.1, upd c.2.2.1 c.1.toNatClampNeg (vp_nar .boolean 1), upd c.2.2.2.1 c.1.toNatClampNeg x1, c.2.2.2.2))) H := hP
    have hD : va_D A (wC h a1 a2 a3 a4 cA ((c.1, c.2.1, upd c.2.2.1 c.1.toNatClampNeg (vp_nar .boolean 1), upd c.2.2.2.1 c.1.toNatClampNeg x1, c.2.2.2.2))) := hD
    refine lv_aload_n hx hb dX1_addCatch_28 rfl (lv_at hl 0 rfl) ?_
    refine va_get (D := D) (ci := 0) (v := .ref a4) (C := RX1) (T := TX1) (N := 5) hx hb hts inX1 hown hK hP 0 rfl rfl 3 (by decide) k4 (fun _ h9 => h9) rfl dX1_addCatch_29 ?_
    refine lv_aload_n hx hb dX1_addCatch_32 rfl (lv_at hl 0 rfl) ?_
    refine va_get (D := D) (ci := 0) (v := .int c.1) (C := RX1) (T := TX1) (N := 5) hx hb hts inX1 hown hK hP 0 rfl rfl 4 (by decide) k2 (fun _ h9 => h9) rfl dX1_addCatch_33 ?_
    refine lv_iload_n hx hb dX1_addCatch_36 rfl (lv_at hl 2 rfl) ?_
    have ⟨c6, hE⟩ := ck_some hE
    refine va_iast hx hb hK hP hD hS 4 0 rfl rfl c6 dX1_addCatch_37 (fun H locs hP hD hS => ?_)
    have hP : va_P D vwCl (wC h a1 a2 a3 a4 cA ((c.1, c.2.1, upd c.2.2.1 c.1.toNatClampNeg (vp_nar .boolean 1), upd c.2.2.2.1 c.1.toNatClampNeg x1, upd c.2.2.2.2 c.1.toNatClampNeg x2))) H := hP
    have hD : va_D A (wC h a1 a2 a3 a4 cA ((c.1, c.2.1, upd c.2.2.1 c.1.toNatClampNeg (vp_nar .boolean 1), upd c.2.2.2.1 c.1.toNatClampNeg x1, upd c.2.2.2.2 c.1.toNatClampNeg x2))) := hD
    refine lv_aload_n hx hb dX1_addCatch_38 rfl (lv_at hl 0 rfl) ?_
    refine lv_dup hx hb dX1_addCatch_39 rfl ?_
    refine va_get (D := D) (ci := 0) (v := .int c.1) (C := RX1) (T := TX1) (N := 5) hx hb hts inX1 hown hK hP 0 rfl rfl 4 (by decide) k2 (fun _ h9 => h9) rfl dX1_addCatch_40 ?_
    refine lv_iconst (v := 1) hx hb dX1_addCatch_43 (by decide +kernel) ?_
    refine lv_iadd hx hb dX1_addCatch_44 ?_
    refine va_put (D := D) (ci := 0) (v := .int (c.1 + 1)) (ty := .int) (C := RX1) (T := TX1) (N := 5) hx hb hts inX1 tyX1 tyX1_ok nmX1 hown hK hP hD hS 0 rfl rfl 4 (by decide) k2 (fun _ h9 => h9) rfl (by decide +kernel) rfl rfl (Nat.le_of_ble_eq_true rfl) dX1_addCatch_45 (fun H locs hP hD hS => ?_)
    have hP : va_P D vwCl (wC h a1 a2 a3 a4 cA ((c.1 + 1, c.2.1, upd c.2.2.1 c.1.toNatClampNeg (vp_nar .boolean 1), upd c.2.2.2.1 c.1.toNatClampNeg x1, upd c.2.2.2.2 c.1.toNatClampNeg x2))) H := hP
    have hD : va_D A (wC h a1 a2 a3 a4 cA ((c.1 + 1, c.2.1, upd c.2.2.1 c.1.toNatClampNeg (vp_nar .boolean 1), upd c.2.2.2.1 c.1.toNatClampNeg x1, upd c.2.2.2.2 c.1.toNatClampNeg x2))) := hD
    obtain rfl := Option.some.inj hE
    exact rt_v hx hb hr hP hS hlocks dX1_addCatch_48
  · have hE := if_f c3 hE
    obtain rfl := Option.some.inj hE
    exact rt_v hx hb hr hP hS hlocks dX1_addCatch_7
set_option maxHeartbeats 4000000 in
set_option maxRecDepth 100000 in
theorem c_X1_place (l : Launch) (D : va_G) (cA : Nat → ClassId) (h : Nat) (a1 : Nat) (a2 : Nat) (a3 : Nat) (a4 : Nat) (sz : Nat) (c : tC) (u : Int32) (hE : f_X1_place c = some u) : Met l yX1_place wsX1_place ({ frames := 0, cells := 0, slots := 0, locals := 0 }) (va_Pc [.ref h] (PRE D cA (wC h a1 a2 a3 a4 cA c) sz (fun _ => True))) (cQi D (wC h a1 a2 a3 a4 cA c) (va_A (wC h a1 a2 a3 a4 cA c) sz) u) 0 0 (va_A (wC h a1 a2 a3 a4 cA c) sz) := by
  refine Met.ofW (cc := cX1_place) (maxL := 1) (ret := (some .int)) (by decide) rfl ?_
  intro PP EE S0 MM args below meth CC S1 B hml hv
  obtain ⟨rfl, hsz, hP, hK, hD0, hX⟩ := hv
  have hx := B.exec
  have hb := B.bytes
  have hr := B.returns
  have hts := atoms_spec (ws := wsX1_place) B.pre
  have hown : S0.vm.findClass RX1 = some MM.cls := findClass_of_methodNamed B.named
  have hlocks := B.notSynchronized
  subst hsz
  have hD := hD0.self (sz := S0.heap.size)
  generalize hAe : va_A (wC h a1 a2 a3 a4 cA c) S0.heap.size = A at hD ⊢
  have hA : ∀ q : Nat, S0.heap.size ≤ q → A q := fun q h => by rw [← hAe]; exact Or.inr h
  have hS : va_S A S0.heap S0.heap [] := va_S.rf
  have k0 := hts (.fieldLink RX1 25 "WordForge$Calls" "size" "I") (List.mem_of_getElem? (i := 1) rfl)
  have inX1 : ∀ w ∈ wsX10, w ∈ wsX1_place := fun _ h => List.mem_cons_of_mem _ (List.mem_append_right _ h)
  have k2 := hts (.fieldLink RX1 11 "WordForge$Calls" "places" "[I") (List.mem_of_getElem? (i := 2) rfl)
  have hl := lv_entry ([.ref h]) (n := 1) (Nat.le_of_ble_eq_true rfl)
  rw [lg_entry_eq]
  generalize (lg_sl ([.ref h]) ++ List.replicate (1 - (lg_sl ([.ref h])).length) Slot.unset).toArray = ls at hl ⊢
  have hl : lv_has ls 1 [(0, .ref h)] := hl
  unfold f_X1_place at hE
  suffices main : ∀ (H : Heap) (locs : List Loc) (ls : Array Slot), va_P D vwCl (wC h a1 a2 a3 a4 cA c) H → va_D A (wC h a1 a2 a3 a4 cA c) → va_S A S0.heap H locs → lv_has ls 1 [(0, .ref h)] → W PP l EE (headSpec wsX1_place ({ frames := 0, cells := 0, slots := 0, locals := 0 })).room S0 MM (#[.ref h] : Array Value) below meth CC H locs 0 0 (MQ below (cQi D (wC h a1 a2 a3 a4 cA c) A u) (#[.ref h] : Array Value) S0 0 0 A) (F0 MM 0 ls []) from main _ _ _ hP hD hS hl
  intro H locs ls hP hD hS hl
  refine lv_aload_n hx hb dX1_place_0 rfl (lv_at hl 0 rfl) ?_
  refine va_get (D := D) (ci := 0) (v := .int c.1) (C := RX1) (T := TX1) (N := 5) hx hb hts inX1 hown hK hP 0 rfl rfl 4 (by decide) k0 (fun _ h9 => h9) rfl dX1_place_1 ?_
  refine lv_if_le (tgt := 21) hx hb dX1_place_4 (by decide) (fun c1 => ?_) (fun c1 => ?_)
  · have hE := if_t c1 hE
    refine lv_iconst (v := (-1)) hx hb dX1_place_21 (by decide +kernel) ?_
    obtain rfl := Option.some.inj hE
    exact rt_i hx hb hr hP hS rfl hlocks dX1_place_22
  · have hE := if_f c1 hE
    refine lv_aload_n hx hb dX1_place_7 rfl (lv_at hl 0 rfl) ?_
    refine va_get (D := D) (ci := 0) (v := .ref a1) (C := RX1) (T := TX1) (N := 5) hx hb hts inX1 hown hK hP 0 rfl rfl 0 (by decide) k2 (fun _ h9 => h9) rfl dX1_place_8 ?_
    refine lv_aload_n hx hb dX1_place_11 rfl (lv_at hl 0 rfl) ?_
    refine va_get (D := D) (ci := 0) (v := .int c.1) (C := RX1) (T := TX1) (N := 5) hx hb hts inX1 hown hK hP 0 rfl rfl 4 (by decide) k0 (fun _ h9 => h9) rfl dX1_place_12 ?_
    refine lv_iconst (v := 1) hx hb dX1_place_15 (by decide +kernel) ?_
    refine lv_isub hx hb dX1_place_16 ?_
    have ⟨c2, hE⟩ := ck_some hE
    refine va_iald hx hb hK hP 1 0 rfl rfl c2 dX1_place_17 ?_
    refine lv_goto (tgt := 22) hx hb dX1_place_18 (by decide) ?_
    obtain rfl := Option.some.inj hE
    exact rt_i hx hb hr hP hS rfl hlocks dX1_place_22
set_option maxHeartbeats 4000000 in
set_option maxRecDepth 100000 in
theorem c_X1_goOnAt (l : Launch) (D : va_G) (cA : Nat → ClassId) (h : Nat) (a1 : Nat) (a2 : Nat) (a3 : Nat) (a4 : Nat) (sz : Nat) (x1 : Int32) (c : tC) (u : tC) (hE : f_X1_goOnAt x1 c = some u) : Met l yX1_goOnAt wsX1_goOnAt ({ frames := 0, cells := 0, slots := 0, locals := 0 }) (va_Pc [.ref h, .int x1] (PRE D cA (wC h a1 a2 a3 a4 cA c) sz (fun _ => True))) (cQv D (wC h a1 a2 a3 a4 cA u) (va_A (wC h a1 a2 a3 a4 cA c) sz)) 0 0 (va_A (wC h a1 a2 a3 a4 cA c) sz) := by
  refine Met.ofW (cc := cX1_goOnAt) (maxL := 2) (ret := none) (by decide) rfl ?_
  intro PP EE S0 MM args below meth CC S1 B hml hv
  obtain ⟨rfl, hsz, hP, hK, hD0, hX⟩ := hv
  have hx := B.exec
  have hb := B.bytes
  have hr := B.returns
  have hts := atoms_spec (ws := wsX1_goOnAt) B.pre
  have hown : S0.vm.findClass RX1 = some MM.cls := findClass_of_methodNamed B.named
  have hlocks := B.notSynchronized
  subst hsz
  have hD := hD0.self (sz := S0.heap.size)
  generalize hAe : va_A (wC h a1 a2 a3 a4 cA c) S0.heap.size = A at hD ⊢
  have hA : ∀ q : Nat, S0.heap.size ≤ q → A q := fun q h => by rw [← hAe]; exact Or.inr h
  have hS : va_S A S0.heap S0.heap [] := va_S.rf
  have k0 := hts (.fieldLink RX1 25 "WordForge$Calls" "size" "I") (List.mem_of_getElem? (i := 1) rfl)
  have inX1 : ∀ w ∈ wsX10, w ∈ wsX1_goOnAt := fun _ h => List.mem_cons_of_mem _ (List.mem_append_right _ h)
  have k2 := hts (.fieldLink RX1 11 "WordForge$Calls" "places" "[I") (List.mem_of_getElem? (i := 2) rfl)
  have hl := lv_entry ([.ref h, .int x1]) (n := 2) (Nat.le_of_ble_eq_true rfl)
  rw [lg_entry_eq]
  generalize (lg_sl ([.ref h, .int x1]) ++ List.replicate (2 - (lg_sl ([.ref h, .int x1])).length) Slot.unset).toArray = ls at hl ⊢
  have hl : lv_has ls 2 [(0, .ref h), (1, .int x1)] := hl
  unfold f_X1_goOnAt at hE
  suffices main : ∀ (H : Heap) (locs : List Loc) (ls : Array Slot), va_P D vwCl (wC h a1 a2 a3 a4 cA c) H → va_D A (wC h a1 a2 a3 a4 cA c) → va_S A S0.heap H locs → lv_has ls 2 [(0, .ref h), (1, .int x1)] → W PP l EE (headSpec wsX1_goOnAt ({ frames := 0, cells := 0, slots := 0, locals := 0 })).room S0 MM (#[.ref h, .int x1] : Array Value) below meth CC H locs 0 0 (MQ below (cQv D (wC h a1 a2 a3 a4 cA u) A) (#[.ref h, .int x1] : Array Value) S0 0 0 A) (F0 MM 0 ls []) from main _ _ _ hP hD hS hl
  intro H locs ls hP hD hS hl
  refine lv_aload_n hx hb dX1_goOnAt_0 rfl (lv_at hl 0 rfl) ?_
  refine va_get (D := D) (ci := 0) (v := .int c.1) (C := RX1) (T := TX1) (N := 5) hx hb hts inX1 hown hK hP 0 rfl rfl 4 (by decide) k0 (fun _ h9 => h9) rfl dX1_goOnAt_1 ?_
  refine lv_if_le (tgt := 19) hx hb dX1_goOnAt_4 (by decide) (fun c1 => ?_) (fun c1 => ?_)
  · have hE := if_t c1 hE
    obtain rfl := Option.some.inj hE
    exact rt_v hx hb hr hP hS hlocks dX1_goOnAt_19
  · have hE := if_f c1 hE
    refine lv_aload_n hx hb dX1_goOnAt_7 rfl (lv_at hl 0 rfl) ?_
    refine va_get (D := D) (ci := 0) (v := .ref a1) (C := RX1) (T := TX1) (N := 5) hx hb hts inX1 hown hK hP 0 rfl rfl 0 (by decide) k2 (fun _ h9 => h9) rfl dX1_goOnAt_8 ?_
    refine lv_aload_n hx hb dX1_goOnAt_11 rfl (lv_at hl 0 rfl) ?_
    refine va_get (D := D) (ci := 0) (v := .int c.1) (C := RX1) (T := TX1) (N := 5) hx hb hts inX1 hown hK hP 0 rfl rfl 4 (by decide) k0 (fun _ h9 => h9) rfl dX1_goOnAt_12 ?_
    refine lv_iconst (v := 1) hx hb dX1_goOnAt_15 (by decide +kernel) ?_
    refine lv_isub hx hb dX1_goOnAt_16 ?_
    refine lv_iload_n hx hb dX1_goOnAt_17 rfl (lv_at hl 1 rfl) ?_
    have ⟨c2, hE⟩ := ck_some hE
    refine va_iast hx hb hK hP hD hS 1 0 rfl rfl c2 dX1_goOnAt_18 (fun H locs hP hD hS => ?_)
    have hP : va_P D vwCl (wC h a1 a2 a3 a4 cA ((c.1, upd c.2.1 ((c.1 - 1).toNatClampNeg) x1, c.2.2.1, c.2.2.2.1, c.2.2.2.2))) H := hP
    have hD : va_D A (wC h a1 a2 a3 a4 cA ((c.1, upd c.2.1 ((c.1 - 1).toNatClampNeg) x1, c.2.2.1, c.2.2.2.1, c.2.2.2.2))) := hD
    obtain rfl := Option.some.inj hE
    exact rt_v hx hb hr hP hS hlocks dX1_goOnAt_19
set_option maxHeartbeats 4000000 in
set_option maxRecDepth 100000 in
theorem c_X1_comeBack (l : Launch) (D : va_G) (cA : Nat → ClassId) (h : Nat) (a1 : Nat) (a2 : Nat) (a3 : Nat) (a4 : Nat) (sz : Nat) (c : tC) (u : tC) (hE : f_X1_comeBack c = some u) : Met l yX1_comeBack wsX1_comeBack ({ frames := 0, cells := 0, slots := 0, locals := 0 }) (va_Pc [.ref h] (PRE D cA (wC h a1 a2 a3 a4 cA c) sz (fun _ => True))) (cQv D (wC h a1 a2 a3 a4 cA u) (va_A (wC h a1 a2 a3 a4 cA c) sz)) 0 0 (va_A (wC h a1 a2 a3 a4 cA c) sz) := by
  refine Met.ofW (cc := cX1_comeBack) (maxL := 1) (ret := none) (by decide) rfl ?_
  intro PP EE S0 MM args below meth CC S1 B hml hv
  obtain ⟨rfl, hsz, hP, hK, hD0, hX⟩ := hv
  have hx := B.exec
  have hb := B.bytes
  have hr := B.returns
  have hts := atoms_spec (ws := wsX1_comeBack) B.pre
  have hown : S0.vm.findClass RX1 = some MM.cls := findClass_of_methodNamed B.named
  have hlocks := B.notSynchronized
  subst hsz
  have hD := hD0.self (sz := S0.heap.size)
  generalize hAe : va_A (wC h a1 a2 a3 a4 cA c) S0.heap.size = A at hD ⊢
  have hA : ∀ q : Nat, S0.heap.size ≤ q → A q := fun q h => by rw [← hAe]; exact Or.inr h
  have hS : va_S A S0.heap S0.heap [] := va_S.rf
  have k0 := hts (.fieldLink RX1 25 "WordForge$Calls" "size" "I") (List.mem_of_getElem? (i := 1) rfl)
  have inX1 : ∀ w ∈ wsX10, w ∈ wsX1_comeBack := fun _ h => List.mem_cons_of_mem _ (List.mem_append_right _ h)
  have hl := lv_entry ([.ref h]) (n := 1) (Nat.le_of_ble_eq_true rfl)
  rw [lg_entry_eq]
  generalize (lg_sl ([.ref h]) ++ List.replicate (1 - (lg_sl ([.ref h])).length) Slot.unset).toArray = ls at hl ⊢
  have hl : lv_has ls 1 [(0, .ref h)] := hl
  unfold f_X1_comeBack at hE
  suffices main : ∀ (H : Heap) (locs : List Loc) (ls : Array Slot), va_P D vwCl (wC h a1 a2 a3 a4 cA c) H → va_D A (wC h a1 a2 a3 a4 cA c) → va_S A S0.heap H locs → lv_has ls 1 [(0, .ref h)] → W PP l EE (headSpec wsX1_comeBack ({ frames := 0, cells := 0, slots := 0, locals := 0 })).room S0 MM (#[.ref h] : Array Value) below meth CC H locs 0 0 (MQ below (cQv D (wC h a1 a2 a3 a4 cA u) A) (#[.ref h] : Array Value) S0 0 0 A) (F0 MM 0 ls []) from main _ _ _ hP hD hS hl
  intro H locs ls hP hD hS hl
  refine lv_aload_n hx hb dX1_comeBack_0 rfl (lv_at hl 0 rfl) ?_
  refine va_get (D := D) (ci := 0) (v := .int c.1) (C := RX1) (T := TX1) (N := 5) hx hb hts inX1 hown hK hP 0 rfl rfl 4 (by decide) k0 (fun _ h9 => h9) rfl dX1_comeBack_1 ?_
  refine lv_if_le (tgt := 17) hx hb dX1_comeBack_4 (by decide) (fun c1 => ?_) (fun c1 => ?_)
  · have hE := if_t c1 hE
    obtain rfl := Option.some.inj hE
    exact rt_v hx hb hr hP hS hlocks dX1_comeBack_17
  · have hE := if_f c1 hE
    refine lv_aload_n hx hb dX1_comeBack_7 rfl (lv_at hl 0 rfl) ?_
    refine lv_dup hx hb dX1_comeBack_8 rfl ?_
    refine va_get (D := D) (ci := 0) (v := .int c.1) (C := RX1) (T := TX1) (N := 5) hx hb hts inX1 hown hK hP 0 rfl rfl 4 (by decide) k0 (fun _ h9 => h9) rfl dX1_comeBack_9 ?_
    refine lv_iconst (v := 1) hx hb dX1_comeBack_12 (by decide +kernel) ?_
    refine lv_isub hx hb dX1_comeBack_13 ?_
    refine va_put (D := D) (ci := 0) (v := .int (c.1 - 1)) (ty := .int) (C := RX1) (T := TX1) (N := 5) hx hb hts inX1 tyX1 tyX1_ok nmX1 hown hK hP hD hS 0 rfl rfl 4 (by decide) k0 (fun _ h9 => h9) rfl (by decide +kernel) rfl rfl (Nat.le_of_ble_eq_true rfl) dX1_comeBack_14 (fun H locs hP hD hS => ?_)
    have hP : va_P D vwCl (wC h a1 a2 a3 a4 cA ((c.1 - 1, c.2.1, c.2.2.1, c.2.2.2.1, c.2.2.2.2))) H := hP
    have hD : va_D A (wC h a1 a2 a3 a4 cA ((c.1 - 1, c.2.1, c.2.2.1, c.2.2.2.1, c.2.2.2.2))) := hD
    obtain rfl := Option.some.inj hE
    exact rt_v hx hb hr hP hS hlocks dX1_comeBack_17
set_option maxHeartbeats 4000000 in
set_option maxRecDepth 100000 in
theorem c_X1_latestCatch (l : Launch) (D : va_G) (cA : Nat → ClassId) (h : Nat) (a1 : Nat) (a2 : Nat) (a3 : Nat) (a4 : Nat) (sz : Nat) (c : tC) (u : Int32) (hE : f_X1_latestCatch c = some u) : Met l yX1_latestCatch wsX1_latestCatch ({ frames := 0, cells := 0, slots := 0, locals := 0 }) (va_Pc [.ref h] (PRE D cA (wC h a1 a2 a3 a4 cA c) sz (fun _ => True))) (cQi D (wC h a1 a2 a3 a4 cA c) (va_A (wC h a1 a2 a3 a4 cA c) sz) u) 0 0 (va_A (wC h a1 a2 a3 a4 cA c) sz) := by
  refine Met.ofW (cc := cX1_latestCatch) (maxL := 2) (ret := (some .int)) (by decide) rfl ?_
  intro PP EE S0 MM args below meth CC S1 B hml hv
  obtain ⟨rfl, hsz, hP, hK, hD0, hX⟩ := hv
  have hx := B.exec
  have hb := B.bytes
  have hr := B.returns
  have hts := atoms_spec (ws := wsX1_latestCatch) B.pre
  have hown : S0.vm.findClass RX1 = some MM.cls := findClass_of_methodNamed B.named
  have hlocks := B.notSynchronized
  subst hsz
  have hD := hD0.self (sz := S0.heap.size)
  generalize hAe : va_A (wC h a1 a2 a3 a4 cA c) S0.heap.size = A at hD ⊢
  have hA : ∀ q : Nat, S0.heap.size ≤ q → A q := fun q h => by rw [← hAe]; exact Or.inr h
  have hS : va_S A S0.heap S0.heap [] := va_S.rf
  have k0 := hts (.fieldLink RX1 25 "WordForge$Calls" "size" "I") (List.mem_of_getElem? (i := 1) rfl)
  have inX1 : ∀ w ∈ wsX10, w ∈ wsX1_latestCatch := fun _ h => List.mem_cons_of_mem _ (List.mem_append_right _ h)
  have k2 := hts (.fieldLink RX1 15 "WordForge$Calls" "isCatch" "[Z") (List.mem_of_getElem? (i := 2) rfl)
  have hl := lv_entry ([.ref h]) (n := 2) (Nat.le_of_ble_eq_true rfl)
  rw [lg_entry_eq]
  generalize (lg_sl ([.ref h]) ++ List.replicate (2 - (lg_sl ([.ref h])).length) Slot.unset).toArray = ls at hl ⊢
  have hl : lv_has ls 2 [(0, .ref h)] := hl
  have w7 : ∀ (n : Nat), ∀ (y1 : Int32) (c : tC) (H : Heap) (locs : List Loc) (ls : Array Slot), va_P D vwCl (wC h a1 a2 a3 a4 cA c) H → va_D A (wC h a1 a2 a3 a4 cA c) → va_S A S0.heap H locs → lv_has ls 2 [(0, .ref h), (1, .int y1)] → b_X1_latestCatch_7 n y1 c = some u → W PP l EE (headSpec wsX1_latestCatch ({ frames := 0, cells := 0, slots := 0, locals := 0 })).room S0 MM (#[.ref h] : Array Value) below meth CC H locs 0 0 (MQ below (cQi D (wC h a1 a2 a3 a4 cA c) A u) (#[.ref h] : Array Value) S0 0 0 A) (F0 MM 7 ls []) := by
    intro  n
    induction n with
    | zero => intros; rename_i hE; exact absurd hE (by simp [b_X1_latestCatch_7])
    | succ n ih7 =>
      intro y1 c
      intro H locs ls hP hD hS hl hE
      unfold b_X1_latestCatch_7 at hE
      refine lv_iload_n hx hb dX1_latestCatch_7 rfl (lv_at hl 1 rfl) ?_
      refine lv_if_lt (tgt := 28) hx hb dX1_latestCatch_8 (by decide) (fun c1 => ?_) (fun c1 => ?_)
      · have hE := if_t c1 hE
        refine lv_iconst (v := (-1)) hx hb dX1_latestCatch_28 (by decide +kernel) ?_
        obtain rfl := Option.some.inj hE
        exact rt_i hx hb hr hP hS rfl hlocks dX1_latestCatch_29
      · have hE := if_f c1 hE
        refine lv_aload_n hx hb dX1_latestCatch_11 rfl (lv_at hl 0 rfl) ?_
        refine va_get (D := D) (ci := 0) (v := .ref a2) (C := RX1) (T := TX1) (N := 5) hx hb hts inX1 hown hK hP 0 rfl rfl 1 (by decide) k2 (fun _ h9 => h9) rfl dX1_latestCatch_12 ?_
        refine lv_iload_n hx hb dX1_latestCatch_15 rfl (lv_at hl 1 rfl) ?_
        have ⟨c2, hE⟩ := ck_some hE
        refine va_zald hx hb hK hP 2 1 rfl rfl c2 dX1_latestCatch_16 ?_
        refine lv_if_eq (tgt := 22) hx hb dX1_latestCatch_17 (by decide) (fun c3 => ?_) (fun c3 => ?_)
        · have hE := if_t c3 hE
          refine lv_iinc (v := y1 + (-1)) (lv' := [(1, .int (y1 + (-1))), (0, .ref h)]) hx hb dX1_latestCatch_22 hl (k := 1) rfl rfl (by decide) rfl (fun ls hl => ?_)
          refine lv_goto (tgt := 7) hx hb dX1_latestCatch_25 (by decide) ?_
          exact ih7 (y1 + (-1)) c H locs ls hP hD hS (lv_sub hl [1, 0] rfl) hE
        · have hE := if_f c3 hE
          refine lv_iload_n hx hb dX1_latestCatch_20 rfl (lv_at hl 1 rfl) ?_
          obtain rfl := Option.some.inj hE
          exact rt_i hx hb hr hP hS rfl hlocks dX1_latestCatch_21
  unfold f_X1_latestCatch at hE
  suffices main : ∀ (H : Heap) (locs : List Loc) (ls : Array Slot), va_P D vwCl (wC h a1 a2 a3 a4 cA c) H → va_D A (wC h a1 a2 a3 a4 cA c) → va_S A S0.heap H locs → lv_has ls 2 [(0, .ref h)] → W PP l EE (headSpec wsX1_latestCatch ({ frames := 0, cells := 0, slots := 0, locals := 0 })).room S0 MM (#[.ref h] : Array Value) below meth CC H locs 0 0 (MQ below (cQi D (wC h a1 a2 a3 a4 cA c) A u) (#[.ref h] : Array Value) S0 0 0 A) (F0 MM 0 ls []) from main _ _ _ hP hD hS hl
  intro H locs ls hP hD hS hl
  refine lv_aload_n hx hb dX1_latestCatch_0 rfl (lv_at hl 0 rfl) ?_
  refine va_get (D := D) (ci := 0) (v := .int c.1) (C := RX1) (T := TX1) (N := 5) hx hb hts inX1 hown hK hP 0 rfl rfl 4 (by decide) k0 (fun _ h9 => h9) rfl dX1_latestCatch_1 ?_
  refine lv_iconst (v := 1) hx hb dX1_latestCatch_4 (by decide +kernel) ?_
  refine lv_isub hx hb dX1_latestCatch_5 ?_
  refine lv_istore_n (lv' := [(1, .int (c.1 - 1)), (0, .ref h)]) hx hb dX1_latestCatch_6 rfl hl (by decide) rfl (fun ls hl => ?_)
  exact w7 FU (c.1 - 1) c H locs ls hP hD hS (lv_sub hl [1, 0] rfl) hE
