set_option maxHeartbeats 4000000 in
set_option maxRecDepth 100000 in
theorem c_X2_isFull (l : Launch) (D : va_G) (cA : Nat → ClassId) (ad adK adV : Nat → Nat) (tA tS : Nat) (h : Nat) (a1 : Nat) (a2 : Nat) (a3 : Nat) (a4 : Nat) (a5 : Nat) (a6 : Nat) (a7 : Nat) (sz : Nat) (d : tD) (u : Int32) (hE : f_X2_isFull d = some u) : Met l yX2_isFull wsX2_isFull ({ frames := 0, cells := 0, slots := 0, locals := 0 }) (va_Pc [.ref h] (PRE D cA (wD h a1 a2 a3 a4 a5 a6 a7 cA d) sz (fun U => SX ad adK adV tA tS (va_A (wD h a1 a2 a3 a4 a5 a6 a7 cA d) sz) U U.heap))) (cQi D (wD h a1 a2 a3 a4 a5 a6 a7 cA d) (va_A (wD h a1 a2 a3 a4 a5 a6 a7 cA d) sz) u) 0 0 (va_A (wD h a1 a2 a3 a4 a5 a6 a7 cA d) sz) := by
  refine Met.ofW (cc := cX2_isFull) (maxL := 1) (ret := (some .boolean)) (by decide) rfl ?_
  intro PP EE S0 MM args below meth CC S1 B hml hv
  obtain ⟨rfl, hsz, hP, hK, hD0, hX⟩ := hv
  have hx := B.exec
  have hb := B.bytes
  have hr := B.returns
  have hts := atoms_spec (ws := wsX2_isFull) B.pre
  have hown : S0.vm.findClass RX2 = some MM.cls := findClass_of_methodNamed B.named
  have hlocks := B.notSynchronized
  subst hsz
  have hD := hD0.self (sz := S0.heap.size)
  have hX : SX ad adK adV tA tS (va_A (wD h a1 a2 a3 a4 a5 a6 a7 cA d) S0.heap.size) S0 S0.heap := hX
  generalize hAe : va_A (wD h a1 a2 a3 a4 a5 a6 a7 cA d) S0.heap.size = A at hD hX ⊢
  have hA : ∀ q : Nat, S0.heap.size ≤ q → A q := fun q h => by rw [← hAe]; exact Or.inr h
  have hS : va_S A S0.heap S0.heap [] := va_S.rf
  have k0 := hts (.fieldLink RX2 37 "WordForge$Dictionary" "size" "I") (List.mem_of_getElem? (i := 1) rfl)
  have inX2 : ∀ w ∈ wsX20, w ∈ wsX2_isFull := fun _ h => List.mem_cons_of_mem _ (List.mem_append_right _ h)
  have hl := lv_entry ([.ref h]) (n := 1) (Nat.le_of_ble_eq_true rfl)
  rw [lg_entry_eq]
  generalize (lg_sl ([.ref h]) ++ List.replicate (1 - (lg_sl ([.ref h])).length) Slot.unset).toArray = ls at hl ⊢
  have hl : lv_has ls 1 [(0, .ref h)] := hl
  unfold f_X2_isFull at hE
  suffices main : ∀ (H : Heap) (locs : List Loc) (ls : Array Slot), va_P D vwCl (wD h a1 a2 a3 a4 a5 a6 a7 cA d) H → va_D A (wD h a1 a2 a3 a4 a5 a6 a7 cA d) → va_S A S0.heap H locs → lv_has ls 1 [(0, .ref h)] → W PP l EE (headSpec wsX2_isFull ({ frames := 0, cells := 0, slots := 0, locals := 0 })).room S0 MM (#[.ref h] : Array Value) below meth CC H locs 0 0 (MQ below (cQi D (wD h a1 a2 a3 a4 a5 a6 a7 cA d) A u) (#[.ref h] : Array Value) S0 0 0 A) (F0 MM 0 ls []) from main _ _ _ hP hD hS hl
  intro H locs ls hP hD hS hl
  refine lv_aload_n hx hb dX2_isFull_0 rfl (lv_at hl 0 rfl) ?_
  refine va_get (D := D) (ci := 1) (v := .int d.1) (C := RX2) (T := TX2) (N := 8) hx hb hts inX2 hown hK hP 0 rfl rfl 7 (by decide) k0 (fun _ h9 => h9) rfl dX2_isFull_1 ?_
  refine lv_bipush (v := 40) hx hb dX2_isFull_4 (by decide +kernel) ?_
  refine lv_icmp_ne (tgt := 13) hx hb dX2_isFull_6 (by decide) (fun c1 => ?_) (fun c1 => ?_)
  · have hE := if_f c1 hE
    refine lv_iconst (v := 0) hx hb dX2_isFull_13 (by decide +kernel) ?_
    obtain rfl := Option.some.inj hE
    exact rt_n hx hb hr (by decide +kernel) hP hS rfl hlocks dX2_isFull_14
  · have hE := if_t c1 hE
    refine lv_iconst (v := 1) hx hb dX2_isFull_9 (by decide +kernel) ?_
    refine lv_goto (tgt := 14) hx hb dX2_isFull_10 (by decide) ?_
    obtain rfl := Option.some.inj hE
    exact rt_n hx hb hr (by decide +kernel) hP hS rfl hlocks dX2_isFull_14
set_option maxHeartbeats 4000000 in
set_option maxRecDepth 100000 in
theorem c_X2_isWord (l : Launch) (D : va_G) (cA : Nat → ClassId) (ad adK adV : Nat → Nat) (tA tS : Nat) (h : Nat) (a1 : Nat) (a2 : Nat) (a3 : Nat) (a4 : Nat) (a5 : Nat) (a6 : Nat) (a7 : Nat) (sz : Nat) (x1 : Int32) (d : tD) (u : Int32) (hE : f_X2_isWord x1 d = some u) : Met l yX2_isWord wsX2_isWord ({ frames := 0, cells := 0, slots := 0, locals := 0 }) (va_Pc [.ref h, .int x1] (PRE D cA (wD h a1 a2 a3 a4 a5 a6 a7 cA d) sz (fun U => SX ad adK adV tA tS (va_A (wD h a1 a2 a3 a4 a5 a6 a7 cA d) sz) U U.heap))) (cQi D (wD h a1 a2 a3 a4 a5 a6 a7 cA d) (va_A (wD h a1 a2 a3 a4 a5 a6 a7 cA d) sz) u) 0 0 (va_A (wD h a1 a2 a3 a4 a5 a6 a7 cA d) sz) := by
  refine Met.ofW (cc := cX2_isWord) (maxL := 2) (ret := (some .boolean)) (by decide) rfl ?_
  intro PP EE S0 MM args below meth CC S1 B hml hv
  obtain ⟨rfl, hsz, hP, hK, hD0, hX⟩ := hv
  have hx := B.exec
  have hb := B.bytes
  have hr := B.returns
  have hts := atoms_spec (ws := wsX2_isWord) B.pre
  have hown : S0.vm.findClass RX2 = some MM.cls := findClass_of_methodNamed B.named
  have hlocks := B.notSynchronized
  subst hsz
  have hD := hD0.self (sz := S0.heap.size)
  have hX : SX ad adK adV tA tS (va_A (wD h a1 a2 a3 a4 a5 a6 a7 cA d) S0.heap.size) S0 S0.heap := hX
  generalize hAe : va_A (wD h a1 a2 a3 a4 a5 a6 a7 cA d) S0.heap.size = A at hD hX ⊢
  have hA : ∀ q : Nat, S0.heap.size ≤ q → A q := fun q h => by rw [← hAe]; exact Or.inr h
  have hS : va_S A S0.heap S0.heap [] := va_S.rf
  have k0 := hX.nest (.fieldLinkNest RX2 41 "WordForge$Word" "ALL" "[LWordForge$Word;" "WordForge") (List.mem_of_getElem? (i := 38) rfl)
  have k1 := hts (.fieldLink RX2 37 "WordForge$Dictionary" "size" "I") (List.mem_of_getElem? (i := 1) rfl)
  have inX2 : ∀ w ∈ wsX20, w ∈ wsX2_isWord := fun _ h => List.mem_cons_of_mem _ (List.mem_append_right _ h)
  have hl := lv_entry ([.ref h, .int x1]) (n := 2) (Nat.le_of_ble_eq_true rfl)
  rw [lg_entry_eq]
  generalize (lg_sl ([.ref h, .int x1]) ++ List.replicate (2 - (lg_sl ([.ref h, .int x1])).length) Slot.unset).toArray = ls at hl ⊢
  have hl : lv_has ls 2 [(0, .ref h), (1, .int x1)] := hl
  unfold f_X2_isWord at hE
  suffices main : ∀ (H : Heap) (locs : List Loc) (ls : Array Slot), va_P D vwCl (wD h a1 a2 a3 a4 a5 a6 a7 cA d) H → va_D A (wD h a1 a2 a3 a4 a5 a6 a7 cA d) → va_S A S0.heap H locs → lv_has ls 2 [(0, .ref h), (1, .int x1)] → W PP l EE (headSpec wsX2_isWord ({ frames := 0, cells := 0, slots := 0, locals := 0 })).room S0 MM (#[.ref h, .int x1] : Array Value) below meth CC H locs 0 0 (MQ below (cQi D (wD h a1 a2 a3 a4 a5 a6 a7 cA d) A u) (#[.ref h, .int x1] : Array Value) S0 0 0 A) (F0 MM 0 ls []) from main _ _ _ hP hD hS hl
  intro H locs ls hP hD hS hl
  refine lv_iload_n hx hb dX2_isWord_0 rfl (lv_at hl 1 rfl) ?_
  refine lv_if_lt (tgt := 21) hx hb dX2_isWord_1 (by decide) (fun c1 => ?_) (fun c1 => ?_)
  · have hE := if_t c1 hE
    refine lv_iconst (v := 0) hx hb dX2_isWord_21 (by decide +kernel) ?_
    obtain rfl := Option.some.inj hE
    exact rt_n hx hb hr (by decide +kernel) hP hS rfl hlocks dX2_isWord_22
  · have hE := if_f c1 hE
    refine lv_iload_n hx hb dX2_isWord_4 rfl (lv_at hl 1 rfl) ?_
    refine va_getsN hx hb hX.2.1 hS hown (k0 _) (fun _ h9 => h9) dX2_isWord_5 ?_
    refine va_tlen hx hb hX.2.2.1 hS (v := 82) (by decide +kernel) dX2_isWord_8 ?_
    refine lv_aload_n hx hb dX2_isWord_9 rfl (lv_at hl 0 rfl) ?_
    refine va_get (D := D) (ci := 1) (v := .int d.1) (C := RX2) (T := TX2) (N := 8) hx hb hts inX2 hown hK hP 0 rfl rfl 7 (by decide) k1 (fun _ h9 => h9) rfl dX2_isWord_10 ?_
    refine lv_iadd hx hb dX2_isWord_13 ?_
    refine lv_icmp_ge (tgt := 21) hx hb dX2_isWord_14 (by decide) (fun c2 => ?_) (fun c2 => ?_)
    · have hE := if_t c2 hE
      refine lv_iconst (v := 0) hx hb dX2_isWord_21 (by decide +kernel) ?_
      obtain rfl := Option.some.inj hE
      exact rt_n hx hb hr (by decide +kernel) hP hS rfl hlocks dX2_isWord_22
    · have hE := if_f c2 hE
      refine lv_iconst (v := 1) hx hb dX2_isWord_17 (by decide +kernel) ?_
      refine lv_goto (tgt := 22) hx hb dX2_isWord_18 (by decide) ?_
      obtain rfl := Option.some.inj hE
      exact rt_n hx hb hr (by decide +kernel) hP hS rfl hlocks dX2_isWord_22
set_option maxHeartbeats 4000000 in
set_option maxRecDepth 100000 in
theorem c_X2_latestNumber (l : Launch) (D : va_G) (cA : Nat → ClassId) (ad adK adV : Nat → Nat) (tA tS : Nat) (h : Nat) (a1 : Nat) (a2 : Nat) (a3 : Nat) (a4 : Nat) (a5 : Nat) (a6 : Nat) (a7 : Nat) (sz : Nat) (d : tD) (u : Int32) (hE : f_X2_latestNumber d = some u) : Met l yX2_latestNumber wsX2_latestNumber ({ frames := 0, cells := 0, slots := 0, locals := 0 }) (va_Pc [.ref h] (PRE D cA (wD h a1 a2 a3 a4 a5 a6 a7 cA d) sz (fun U => SX ad adK adV tA tS (va_A (wD h a1 a2 a3 a4 a5 a6 a7 cA d) sz) U U.heap))) (cQi D (wD h a1 a2 a3 a4 a5 a6 a7 cA d) (va_A (wD h a1 a2 a3 a4 a5 a6 a7 cA d) sz) u) 0 0 (va_A (wD h a1 a2 a3 a4 a5 a6 a7 cA d) sz) := by
  refine Met.ofW (cc := cX2_latestNumber) (maxL := 1) (ret := (some .int)) (by decide) rfl ?_
  intro PP EE S0 MM args below meth CC S1 B hml hv
  obtain ⟨rfl, hsz, hP, hK, hD0, hX⟩ := hv
  have hx := B.exec
  have hb := B.bytes
  have hr := B.returns
  have hts := atoms_spec (ws := wsX2_latestNumber) B.pre
  have hown : S0.vm.findClass RX2 = some MM.cls := findClass_of_methodNamed B.named
  have hlocks := B.notSynchronized
  subst hsz
  have hD := hD0.self (sz := S0.heap.size)
  have hX : SX ad adK adV tA tS (va_A (wD h a1 a2 a3 a4 a5 a6 a7 cA d) S0.heap.size) S0 S0.heap := hX
  generalize hAe : va_A (wD h a1 a2 a3 a4 a5 a6 a7 cA d) S0.heap.size = A at hD hX ⊢
  have hA : ∀ q : Nat, S0.heap.size ≤ q → A q := fun q h => by rw [← hAe]; exact Or.inr h
  have hS : va_S A S0.heap S0.heap [] := va_S.rf
  have k0 := hX.nest (.fieldLinkNest RX2 41 "WordForge$Word" "ALL" "[LWordForge$Word;" "WordForge") (List.mem_of_getElem? (i := 38) rfl)
  have k1 := hts (.fieldLink RX2 37 "WordForge$Dictionary" "size" "I") (List.mem_of_getElem? (i := 1) rfl)
  have inX2 : ∀ w ∈ wsX20, w ∈ wsX2_latestNumber := fun _ h => List.mem_cons_of_mem _ (List.mem_append_right _ h)
  have hl := lv_entry ([.ref h]) (n := 1) (Nat.le_of_ble_eq_true rfl)
  rw [lg_entry_eq]
  generalize (lg_sl ([.ref h]) ++ List.replicate (1 - (lg_sl ([.ref h])).length) Slot.unset).toArray = ls at hl ⊢
  have hl : lv_has ls 1 [(0, .ref h)] := hl
  unfold f_X2_latestNumber at hE
  suffices main : ∀ (H : Heap) (locs : List Loc) (ls : Array Slot), va_P D vwCl (wD h a1 a2 a3 a4 a5 a6 a7 cA d) H → va_D A (wD h a1 a2 a3 a4 a5 a6 a7 cA d) → va_S A S0.heap H locs → lv_has ls 1 [(0, .ref h)] → W PP l EE (headSpec wsX2_latestNumber ({ frames := 0, cells := 0, slots := 0, locals := 0 })).room S0 MM (#[.ref h] : Array Value) below meth CC H locs 0 0 (MQ below (cQi D (wD h a1 a2 a3 a4 a5 a6 a7 cA d) A u) (#[.ref h] : Array Value) S0 0 0 A) (F0 MM 0 ls []) from main _ _ _ hP hD hS hl
  intro H locs ls hP hD hS hl
  refine va_getsN hx hb hX.2.1 hS hown (k0 _) (fun _ h9 => h9) dX2_latestNumber_0 ?_
  refine va_tlen hx hb hX.2.2.1 hS (v := 82) (by decide +kernel) dX2_latestNumber_3 ?_
  refine lv_aload_n hx hb dX2_latestNumber_4 rfl (lv_at hl 0 rfl) ?_
  refine va_get (D := D) (ci := 1) (v := .int d.1) (C := RX2) (T := TX2) (N := 8) hx hb hts inX2 hown hK hP 0 rfl rfl 7 (by decide) k1 (fun _ h9 => h9) rfl dX2_latestNumber_5 ?_
  refine lv_iadd hx hb dX2_latestNumber_8 ?_
  refine lv_iconst (v := 1) hx hb dX2_latestNumber_9 (by decide +kernel) ?_
  refine lv_isub hx hb dX2_latestNumber_10 ?_
  obtain rfl := Option.some.inj hE
  exact rt_i hx hb hr hP hS rfl hlocks dX2_latestNumber_11
set_option maxHeartbeats 4000000 in
set_option maxRecDepth 100000 in
theorem c_X2_isMaking (l : Launch) (D : va_G) (cA : Nat → ClassId) (ad adK adV : Nat → Nat) (tA tS : Nat) (h : Nat) (a1 : Nat) (a2 : Nat) (a3 : Nat) (a4 : Nat) (a5 : Nat) (a6 : Nat) (a7 : Nat) (sz : Nat) (d : tD) (u : Int32) (hE : f_X2_isMaking d = some u) : Met l yX2_isMaking wsX2_isMaking ({ frames := 0, cells := 0, slots := 0, locals := 0 }) (va_Pc [.ref h] (PRE D cA (wD h a1 a2 a3 a4 a5 a6 a7 cA d) sz (fun U => SX ad adK adV tA tS (va_A (wD h a1 a2 a3 a4 a5 a6 a7 cA d) sz) U U.heap))) (cQi D (wD h a1 a2 a3 a4 a5 a6 a7 cA d) (va_A (wD h a1 a2 a3 a4 a5 a6 a7 cA d) sz) u) 0 0 (va_A (wD h a1 a2 a3 a4 a5 a6 a7 cA d) sz) := by
  refine Met.ofW (cc := cX2_isMaking) (maxL := 1) (ret := (some .boolean)) (by decide) rfl ?_
  intro PP EE S0 MM args below meth CC S1 B hml hv
  obtain ⟨rfl, hsz, hP, hK, hD0, hX⟩ := hv
  have hx := B.exec
  have hb := B.bytes
  have hr := B.returns
  have hts := atoms_spec (ws := wsX2_isMaking) B.pre
  have hown : S0.vm.findClass RX2 = some MM.cls := findClass_of_methodNamed B.named
  have hlocks := B.notSynchronized
  subst hsz
  have hD := hD0.self (sz := S0.heap.size)
  have hX : SX ad adK adV tA tS (va_A (wD h a1 a2 a3 a4 a5 a6 a7 cA d) S0.heap.size) S0 S0.heap := hX
  generalize hAe : va_A (wD h a1 a2 a3 a4 a5 a6 a7 cA d) S0.heap.size = A at hD hX ⊢
  have hA : ∀ q : Nat, S0.heap.size ≤ q → A q := fun q h => by rw [← hAe]; exact Or.inr h
  have hS : va_S A S0.heap S0.heap [] := va_S.rf
  have k0 := hts (.fieldLink RX2 37 "WordForge$Dictionary" "size" "I") (List.mem_of_getElem? (i := 1) rfl)
  have inX2 : ∀ w ∈ wsX20, w ∈ wsX2_isMaking := fun _ h => List.mem_cons_of_mem _ (List.mem_append_right _ h)
  have k2 := hts (.fieldLink RX2 34 "WordForge$Dictionary" "finished" "[Z") (List.mem_of_getElem? (i := 2) rfl)
  have hl := lv_entry ([.ref h]) (n := 1) (Nat.le_of_ble_eq_true rfl)
  rw [lg_entry_eq]
  generalize (lg_sl ([.ref h]) ++ List.replicate (1 - (lg_sl ([.ref h])).length) Slot.unset).toArray = ls at hl ⊢
  have hl : lv_has ls 1 [(0, .ref h)] := hl
  unfold f_X2_isMaking at hE
  suffices main : ∀ (H : Heap) (locs : List Loc) (ls : Array Slot), va_P D vwCl (wD h a1 a2 a3 a4 a5 a6 a7 cA d) H → va_D A (wD h a1 a2 a3 a4 a5 a6 a7 cA d) → va_S A S0.heap H locs → lv_has ls 1 [(0, .ref h)] → W PP l EE (headSpec wsX2_isMaking ({ frames := 0, cells := 0, slots := 0, locals := 0 })).room S0 MM (#[.ref h] : Array Value) below meth CC H locs 0 0 (MQ below (cQi D (wD h a1 a2 a3 a4 a5 a6 a7 cA d) A u) (#[.ref h] : Array Value) S0 0 0 A) (F0 MM 0 ls []) from main _ _ _ hP hD hS hl
  intro H locs ls hP hD hS hl
  refine lv_aload_n hx hb dX2_isMaking_0 rfl (lv_at hl 0 rfl) ?_
  refine va_get (D := D) (ci := 1) (v := .int d.1) (C := RX2) (T := TX2) (N := 8) hx hb hts inX2 hown hK hP 0 rfl rfl 7 (by decide) k0 (fun _ h9 => h9) rfl dX2_isMaking_1 ?_
  refine lv_if_le (tgt := 25) hx hb dX2_isMaking_4 (by decide) (fun c1 => ?_) (fun c1 => ?_)
  · have hE := if_t c1 hE
    refine lv_iconst (v := 0) hx hb dX2_isMaking_25 (by decide +kernel) ?_
    obtain rfl := Option.some.inj hE
    exact rt_n hx hb hr (by decide +kernel) hP hS rfl hlocks dX2_isMaking_26
  · have hE := if_f c1 hE
    refine lv_aload_n hx hb dX2_isMaking_7 rfl (lv_at hl 0 rfl) ?_
    refine va_get (D := D) (ci := 1) (v := .ref a7) (C := RX2) (T := TX2) (N := 8) hx hb hts inX2 hown hK hP 0 rfl rfl 6 (by decide) k2 (fun _ h9 => h9) rfl dX2_isMaking_8 ?_
    refine lv_aload_n hx hb dX2_isMaking_11 rfl (lv_at hl 0 rfl) ?_
    refine va_get (D := D) (ci := 1) (v := .int d.1) (C := RX2) (T := TX2) (N := 8) hx hb hts inX2 hown hK hP 0 rfl rfl 7 (by decide) k0 (fun _ h9 => h9) rfl dX2_isMaking_12 ?_
    refine lv_iconst (v := 1) hx hb dX2_isMaking_15 (by decide +kernel) ?_
    refine lv_isub hx hb dX2_isMaking_16 ?_
    have ⟨c2, hE⟩ := ck_some hE
    refine va_zald hx hb hK hP 7 1 rfl rfl c2 dX2_isMaking_17 ?_
    refine lv_if_ne (tgt := 25) hx hb dX2_isMaking_18 (by decide) (fun c3 => ?_) (fun c3 => ?_)
    · have hE := if_f c3 hE
      refine lv_iconst (v := 0) hx hb dX2_isMaking_25 (by decide +kernel) ?_
      obtain rfl := Option.some.inj hE
      exact rt_n hx hb hr (by decide +kernel) hP hS rfl hlocks dX2_isMaking_26
    · have hE := if_t c3 hE
      refine lv_iconst (v := 1) hx hb dX2_isMaking_21 (by decide +kernel) ?_
      refine lv_goto (tgt := 26) hx hb dX2_isMaking_22 (by decide) ?_
      obtain rfl := Option.some.inj hE
      exact rt_n hx hb hr (by decide +kernel) hP hS rfl hlocks dX2_isMaking_26
set_option maxRecDepth 20000 in
theorem hX2_add_X2_isFull_47 : GoodIn wsX2_add (wsV RX2 47 RX2 yX2_isFull wsX2_isFull) := goodIn_r _ [9, 10, 11, 12, 13, 2, 31, 32, 33, 34, 35, 36, 37, 38] rfl (by decide +kernel)
set_option maxRecDepth 20000 in
theorem hX2_add_X9_nameIsTooLong_51 : GoodIn wsX2_add (wsV RX2 51 RX9 yX9_nameIsTooLong wsX9_nameIsTooLong) := goodIn_r _ [14, 15, 16, 17, 18, 19, 26, 27, 28, 29, 30] rfl (by decide +kernel)
set_option maxRecDepth 20000 in
theorem hX2_add_X9_nameAt_57 : GoodIn wsX2_add (wsV RX2 57 RX9 yX9_nameAt wsX9_nameAt) := goodIn_r _ [20, 21, 22, 17, 23, 24, 25, 26, 27, 28, 29, 30] rfl (by decide +kernel)
set_option maxHeartbeats 4000000 in
set_option maxRecDepth 100000 in
theorem c_X2_add (l : Launch) (D : va_G) (cA : Nat → ClassId) (ad adK adV : Nat → Nat) (tA tS : Nat) (h : Nat) (a1 : Nat) (a2 : Nat) (a3 : Nat) (a4 : Nat) (a5 : Nat) (a6 : Nat) (a7 : Nat) (b : Nat) (b1 : Nat) (sz : Nat) (x2 : Int32) (x3 : Int32) (d : tD) (t : tT) (u : tD) (hE : f_X2_add x2 x3 d t = some u) : Met l yX2_add wsX2_add ({ frames := 1, cells := 0, slots := 0, locals := 21 }) (va_Pc [.ref h, .ref b, .int x2, .int x3] (PRE D cA (wDT h a1 a2 a3 a4 a5 a6 a7 b b1 cA d t) sz (fun U => SX ad adK adV tA tS (va_A (wDT h a1 a2 a3 a4 a5 a6 a7 b b1 cA d t) sz) U U.heap))) (cQv D (wDT h a1 a2 a3 a4 a5 a6 a7 b b1 cA u t) (va_A (wDT h a1 a2 a3 a4 a5 a6 a7 b b1 cA d t) sz)) 0 0 (va_A (wDT h a1 a2 a3 a4 a5 a6 a7 b b1 cA d t) sz) := by
  refine Met.ofW (cc := cX2_add) (maxL := 5) (ret := none) (by decide) rfl ?_
  intro PP EE S0 MM args below meth CC S1 B hml hv
  obtain ⟨rfl, hsz, hP, hK, hD0, hX⟩ := hv
  have hx := B.exec
  have hb := B.bytes
  have hr := B.returns
  have hts := atoms_spec (ws := wsX2_add) B.pre
  have hown : S0.vm.findClass RX2 = some MM.cls := findClass_of_methodNamed B.named
  have hlocks := B.notSynchronized
  subst hsz
  have hD := hD0.self (sz := S0.heap.size)
  have hX : SX ad adK adV tA tS (va_A (wDT h a1 a2 a3 a4 a5 a6 a7 b b1 cA d t) S0.heap.size) S0 S0.heap := hX
  generalize hAe : va_A (wDT h a1 a2 a3 a4 a5 a6 a7 b b1 cA d t) S0.heap.size = A at hD hX ⊢
  have hA : ∀ q : Nat, S0.heap.size ≤ q → A q := fun q h => by rw [← hAe]; exact Or.inr h
  have hS : va_S A S0.heap S0.heap [] := va_S.rf
  have k0 := hX.nest (.fieldLinkNest RX2 54 "WordForge$Text" "nameLength" "I" "WordForge") (List.mem_of_getElem? (i := 0) rfl)
  have inX9 : ∀ w ∈ wsX90, w ∈ wsX2_add := fun _ h => List.mem_cons_of_mem _ (List.mem_append_left _ (List.mem_append_right _ h))
  have k2 := hts (.fieldLink RX2 17 "WordForge$Dictionary" "lengths" "[I") (List.mem_of_getElem? (i := 3) rfl)
  have inX2 : ∀ w ∈ wsX20, w ∈ wsX2_add := fun _ h => List.mem_cons_of_mem _ (List.mem_append_right _ h)
  have k4 := hts (.fieldLink RX2 37 "WordForge$Dictionary" "size" "I") (List.mem_of_getElem? (i := 2) rfl)
  have k5 := hts (.fieldLink RX2 21 "WordForge$Dictionary" "places" "[I") (List.mem_of_getElem? (i := 4) rfl)
  have k6 := hts (.fieldLink RX2 24 "WordForge$Dictionary" "sorts" "[I") (List.mem_of_getElem? (i := 5) rfl)
  have k7 := hts (.fieldLink RX2 27 "WordForge$Dictionary" "behaviours" "[I") (List.mem_of_getElem? (i := 6) rfl)
  have k8 := hts (.fieldLink RX2 30 "WordForge$Dictionary" "immediate" "[Z") (List.mem_of_getElem? (i := 7) rfl)
  have k9 := hts (.fieldLink RX2 34 "WordForge$Dictionary" "finished" "[Z") (List.mem_of_getElem? (i := 8) rfl)
  have k10 := hts (.fieldLink RX2 13 "WordForge$Dictionary" "letters" "[C") (List.mem_of_getElem? (i := 1) rfl)
  have hl := lv_entry ([.ref h, .ref b, .int x2, .int x3]) (n := 5) (Nat.le_of_ble_eq_true rfl)
  rw [lg_entry_eq]
  generalize (lg_sl ([.ref h, .ref b, .int x2, .int x3]) ++ List.replicate (5 - (lg_sl ([.ref h, .ref b, .int x2, .int x3])).length) Slot.unset).toArray = ls at hl ⊢
  have hl : lv_has ls 5 [(0, .ref h), (1, .ref b), (2, .int x2), (3, .int x3)] := hl
  have w125 : ∀ (z0 : Int32) (z1 : Int32) (d : tD) (t : tT) (H : Heap) (locs : List Loc) (ls : Array Slot), va_P D vwCl (wDT h a1 a2 a3 a4 a5 a6 a7 b b1 cA d t) H → va_D A (wDT h a1 a2 a3 a4 a5 a6 a7 b b1 cA d t) → va_S A S0.heap H locs → lv_has ls 5 [(0, .ref h)] → b_X2_add_125  z0 z1 d t = some u → W PP l EE (headSpec wsX2_add ({ frames := 1, cells := 0, slots := 0, locals := 21 })).room S0 MM (#[.ref h, .ref b, .int x2, .int x3] : Array Value) below meth CC H locs 0 0 (MQ below (cQv D (wDT h a1 a2 a3 a4 a5 a6 a7 b b1 cA u t) A) (#[.ref h, .ref b, .int x2, .int x3] : Array Value) S0 0 0 A) (F0 MM 125 ls [.int z0, .int z1, .ref a7]) := by
    intro z0 z1 d t
    intro H locs ls hP hD hS hl hE
    unfold b_X2_add_125 at hE
    have ⟨c17, hE⟩ := ck_some hE
    refine va_zast hx hb hK hP hD hS 7 1 rfl rfl c17 dX2_add_125 (fun H locs hP hD hS => ?_)
    have hP : va_P D vwCl (wDT h a1 a2 a3 a4 a5 a6 a7 b b1 cA ((d.1, d.2.1, d.2.2.1, d.2.2.2.1, d.2.2.2.2.1, d.2.2.2.2.2.1, d.2.2.2.2.2.2.1, upd d.2.2.2.2.2.2.2 z1.toNatClampNeg (vp_nar .boolean z0))) t) H := hP
    have hD : va_D A (wDT h a1 a2 a3 a4 a5 a6 a7 b b1 cA ((d.1, d.2.1, d.2.2.1, d.2.2.2.1, d.2.2.2.2.1, d.2.2.2.2.2.1, d.2.2.2.2.2.2.1, upd d.2.2.2.2.2.2.2 z1.toNatClampNeg (vp_nar .boolean z0))) t) := hD
    refine lv_aload_n hx hb dX2_add_126 rfl (lv_at hl 0 rfl) ?_
    refine lv_dup hx hb dX2_add_127 rfl ?_
    refine va_get (D := D) (ci := 1) (v := .int d.1) (C := RX2) (T := TX2) (N := 8) hx hb hts inX2 hown hK hP 0 rfl rfl 7 (by decide) k4 (fun _ h9 => h9) rfl dX2_add_128 ?_
    refine lv_iconst (v := 1) hx hb dX2_add_131 (by decide +kernel) ?_
    refine lv_iadd hx hb dX2_add_132 ?_
    refine va_put (D := D) (ci := 1) (v := .int (d.1 + 1)) (ty := .int) (C := RX2) (T := TX2) (N := 8) hx hb hts inX2 tyX2 tyX2_ok nmX2 hown hK hP hD hS 0 rfl rfl 7 (by decide) k4 (fun _ h9 => h9) rfl (by decide +kernel) rfl rfl (Nat.le_of_ble_eq_true rfl) dX2_add_133 (fun H locs hP hD hS => ?_)
    have hP : va_P D vwCl (wDT h a1 a2 a3 a4 a5 a6 a7 b b1 cA ((d.1 + 1, d.2.1, d.2.2.1, d.2.2.2.1, d.2.2.2.2.1, d.2.2.2.2.2.1, d.2.2.2.2.2.2.1, upd d.2.2.2.2.2.2.2 z1.toNatClampNeg (vp_nar .boolean z0))) t) H := hP
    have hD : va_D A (wDT h a1 a2 a3 a4 a5 a6 a7 b b1 cA ((d.1 + 1, d.2.1, d.2.2.1, d.2.2.2.1, d.2.2.2.2.1, d.2.2.2.2.2.1, d.2.2.2.2.2.2.1, upd d.2.2.2.2.2.2.2 z1.toNatClampNeg (vp_nar .boolean z0))) t) := hD
    obtain rfl := Option.some.inj hE
    exact rt_v hx hb hr hP hS hlocks dX2_add_136
  have w18 : ∀ (n : Nat), ∀ (y2 : Int32) (y3 : Int32) (y4 : Int32) (d : tD) (t : tT) (H : Heap) (locs : List Loc) (ls : Array Slot), va_P D vwCl (wDT h a1 a2 a3 a4 a5 a6 a7 b b1 cA d t) H → va_D A (wDT h a1 a2 a3 a4 a5 a6 a7 b b1 cA d t) → va_S A S0.heap H locs → lv_has ls 5 [(0, .ref h), (1, .ref b), (2, .int y2), (3, .int y3), (4, .int y4)] → b_X2_add_18 n y2 y3 y4 d t = some u → W PP l EE (headSpec wsX2_add ({ frames := 1, cells := 0, slots := 0, locals := 21 })).room S0 MM (#[.ref h, .ref b, .int x2, .int x3] : Array Value) below meth CC H locs 0 0 (MQ below (cQv D (wDT h a1 a2 a3 a4 a5 a6 a7 b b1 cA u t) A) (#[.ref h, .ref b, .int x2, .int x3] : Array Value) S0 0 0 A) (F0 MM 18 ls []) := by
    intro  n
    induction n with
    | zero => intros; rename_i hE; exact absurd hE (by simp [b_X2_add_18])
    | succ n ih18 =>
      intro y2 y3 y4 d t
      intro H locs ls hP hD hS hl hE
      unfold b_X2_add_18 at hE
      refine lv_iload hx hb dX2_add_18 (lv_at hl 4 rfl) ?_
      refine lv_aload_n hx hb dX2_add_20 rfl (lv_at hl 1 rfl) ?_
      refine va_getN (D := D) (ci := 8) (v := .int t.2.2.2.1) (C := RX9) (T := TX9) (N := 5) hx hb hts inX9 hown hK hP 8 rfl rfl 4 (by decide) (k0 _) (fun _ h9 => h9) rfl dX2_add_21 ?_
      refine lv_icmp_ge (tgt := 54) hx hb dX2_add_24 (by decide) (fun c7 => ?_) (fun c7 => ?_)
      · have hE := if_t c7 hE
        refine lv_aload_n hx hb dX2_add_54 rfl (lv_at hl 0 rfl) ?_
        refine va_get (D := D) (ci := 1) (v := .ref a2) (C := RX2) (T := TX2) (N := 8) hx hb hts inX2 hown hK hP 0 rfl rfl 1 (by decide) k2 (fun _ h9 => h9) rfl dX2_add_55 ?_
        refine lv_aload_n hx hb dX2_add_58 rfl (lv_at hl 0 rfl) ?_
        refine va_get (D := D) (ci := 1) (v := .int d.1) (C := RX2) (T := TX2) (N := 8) hx hb hts inX2 hown hK hP 0 rfl rfl 7 (by decide) k4 (fun _ h9 => h9) rfl dX2_add_59 ?_
        refine lv_aload_n hx hb dX2_add_62 rfl (lv_at hl 1 rfl) ?_
        refine va_getN (D := D) (ci := 8) (v := .int t.2.2.2.1) (C := RX9) (T := TX9) (N := 5) hx hb hts inX9 hown hK hP 8 rfl rfl 4 (by decide) (k0 _) (fun _ h9 => h9) rfl dX2_add_63 ?_
        have ⟨c8, hE⟩ := ck_some hE
        refine va_iast hx hb hK hP hD hS 2 0 rfl rfl c8 dX2_add_66 (fun H locs hP hD hS => ?_)
        have hP : va_P D vwCl (wDT h a1 a2 a3 a4 a5 a6 a7 b b1 cA ((d.1, d.2.1, upd d.2.2.1 d.1.toNatClampNeg t.2.2.2.1, d.2.2.2.1, d.2.2.2.2.1, d.2.2.2.2.2.1, d.2.2.2.2.2.2.1, d.2.2.2.2.2.2.2)) t) H := hP
        have hD : va_D A (wDT h a1 a2 a3 a4 a5 a6 a7 b b1 cA ((d.1, d.2.1, upd d.2.2.1 d.1.toNatClampNeg t.2.2.2.1, d.2.2.2.1, d.2.2.2.2.1, d.2.2.2.2.2.1, d.2.2.2.2.2.2.1, d.2.2.2.2.2.2.2)) t) := hD
        refine lv_aload_n hx hb dX2_add_67 rfl (lv_at hl 0 rfl) ?_
        refine va_get (D := D) (ci := 1) (v := .ref a3) (C := RX2) (T := TX2) (N := 8) hx hb hts inX2 hown hK hP 0 rfl rfl 2 (by decide) k5 (fun _ h9 => h9) rfl dX2_add_68 ?_
        refine lv_aload_n hx hb dX2_add_71 rfl (lv_at hl 0 rfl) ?_
        refine va_get (D := D) (ci := 1) (v := .int d.1) (C := RX2) (T := TX2) (N := 8) hx hb hts inX2 hown hK hP 0 rfl rfl 7 (by decide) k4 (fun _ h9 => h9) rfl dX2_add_72 ?_
        refine lv_iload_n hx hb dX2_add_75 rfl (lv_at hl 3 rfl) ?_
        have ⟨c9, hE⟩ := ck_some hE
        refine va_iast hx hb hK hP hD hS 3 0 rfl rfl c9 dX2_add_76 (fun H locs hP hD hS => ?_)
        have hP : va_P D vwCl (wDT h a1 a2 a3 a4 a5 a6 a7 b b1 cA ((d.1, d.2.1, upd d.2.2.1 d.1.toNatClampNeg t.2.2.2.1, upd d.2.2.2.1 d.1.toNatClampNeg y3, d.2.2.2.2.1, d.2.2.2.2.2.1, d.2.2.2.2.2.2.1, d.2.2.2.2.2.2.2)) t) H := hP
        have hD : va_D A (wDT h a1 a2 a3 a4 a5 a6 a7 b b1 cA ((d.1, d.2.1, upd d.2.2.1 d.1.toNatClampNeg t.2.2.2.1, upd d.2.2.2.1 d.1.toNatClampNeg y3, d.2.2.2.2.1, d.2.2.2.2.2.1, d.2.2.2.2.2.2.1, d.2.2.2.2.2.2.2)) t) := hD
        refine lv_aload_n hx hb dX2_add_77 rfl (lv_at hl 0 rfl) ?_
        refine va_get (D := D) (ci := 1) (v := .ref a4) (C := RX2) (T := TX2) (N := 8) hx hb hts inX2 hown hK hP 0 rfl rfl 3 (by decide) k6 (fun _ h9 => h9) rfl dX2_add_78 ?_
        refine lv_aload_n hx hb dX2_add_81 rfl (lv_at hl 0 rfl) ?_
        refine va_get (D := D) (ci := 1) (v := .int d.1) (C := RX2) (T := TX2) (N := 8) hx hb hts inX2 hown hK hP 0 rfl rfl 7 (by decide) k4 (fun _ h9 => h9) rfl dX2_add_82 ?_
        refine lv_iload_n hx hb dX2_add_85 rfl (lv_at hl 2 rfl) ?_
        have ⟨c10, hE⟩ := ck_some hE
        refine va_iast hx hb hK hP hD hS 4 0 rfl rfl c10 dX2_add_86 (fun H locs hP hD hS => ?_)
        have hP : va_P D vwCl (wDT h a1 a2 a3 a4 a5 a6 a7 b b1 cA ((d.1, d.2.1, upd d.2.2.1 d.1.toNatClampNeg t.2.2.2.1, upd d.2.2.2.1 d.1.toNatClampNeg y3, upd d.2.2.2.2.1 d.1.toNatClampNeg y2, d.2.2.2.2.2.1, d.2.2.2.2.2.2.1, d.2.2.2.2.2.2.2)) t) H := hP
        have hD : va_D A (wDT h a1 a2 a3 a4 a5 a6 a7 b b1 cA ((d.1, d.2.1, upd d.2.2.1 d.1.toNatClampNeg t.2.2.2.1, upd d.2.2.2.1 d.1.toNatClampNeg y3, upd d.2.2.2.2.1 d.1.toNatClampNeg y2, d.2.2.2.2.2.1, d.2.2.2.2.2.2.1, d.2.2.2.2.2.2.2)) t) := hD
        refine lv_aload_n hx hb dX2_add_87 rfl (lv_at hl 0 rfl) ?_
        refine va_get (D := D) (ci := 1) (v := .ref a5) (C := RX2) (T := TX2) (N := 8) hx hb hts inX2 hown hK hP 0 rfl rfl 4 (by decide) k7 (fun _ h9 => h9) rfl dX2_add_88 ?_
        refine lv_aload_n hx hb dX2_add_91 rfl (lv_at hl 0 rfl) ?_
        refine va_get (D := D) (ci := 1) (v := .int d.1) (C := RX2) (T := TX2) (N := 8) hx hb hts inX2 hown hK hP 0 rfl rfl 7 (by decide) k4 (fun _ h9 => h9) rfl dX2_add_92 ?_
        refine lv_iconst (v := (-1)) hx hb dX2_add_95 (by decide +kernel) ?_
        have ⟨c11, hE⟩ := ck_some hE
        refine va_iast hx hb hK hP hD hS 5 0 rfl rfl c11 dX2_add_96 (fun H locs hP hD hS => ?_)
        have hP : va_P D vwCl (wDT h a1 a2 a3 a4 a5 a6 a7 b b1 cA ((d.1, d.2.1, upd d.2.2.1 d.1.toNatClampNeg t.2.2.2.1, upd d.2.2.2.1 d.1.toNatClampNeg y3, upd d.2.2.2.2.1 d.1.toNatClampNeg y2, upd d.2.2.2.2.2.1 d.1.toNatClampNeg ((-1)), d.2.2.2.2.2.2.1, d.2.2.2.2.2.2.2)) t) H := hP
        have hD : va_D A (wDT h a1 a2 a3 a4 a5 a6 a7 b b1 cA ((d.1, d.2.1, upd d.2.2.1 d.1.toNatClampNeg t.2.2.2.1, upd d.2.2.2.1 d.1.toNatClampNeg y3, upd d.2.2.2.2.1 d.1.toNatClampNeg y2, upd d.2.2.2.2.2.1 d.1.toNatClampNeg ((-1)), d.2.2.2.2.2.2.1, d.2.2.2.2.2.2.2)) t) := hD
        refine lv_aload_n hx hb dX2_add_97 rfl (lv_at hl 0 rfl) ?_
        refine va_get (D := D) (ci := 1) (v := .ref a6) (C := RX2) (T := TX2) (N := 8) hx hb hts inX2 hown hK hP 0 rfl rfl 5 (by decide) k8 (fun _ h9 => h9) rfl dX2_add_98 ?_
        refine lv_aload_n hx hb dX2_add_101 rfl (lv_at hl 0 rfl) ?_
        refine va_get (D := D) (ci := 1) (v := .int d.1) (C := RX2) (T := TX2) (N := 8) hx hb hts inX2 hown hK hP 0 rfl rfl 7 (by decide) k4 (fun _ h9 => h9) rfl dX2_add_102 ?_
        refine lv_iconst (v := 0) hx hb dX2_add_105 (by decide +kernel) ?_
        have ⟨c12, hE⟩ := ck_some hE
        refine va_zast hx hb hK hP hD hS 6 1 rfl rfl c12 dX2_add_106 (fun H locs hP hD hS => ?_)
        have hP : va_P D vwCl (wDT h a1 a2 a3 a4 a5 a6 a7 b b1 cA ((d.1, d.2.1, upd d.2.2.1 d.1.toNatClampNeg t.2.2.2.1, upd d.2.2.2.1 d.1.toNatClampNeg y3, upd d.2.2.2.2.1 d.1.toNatClampNeg y2, upd d.2.2.2.2.2.1 d.1.toNatClampNeg ((-1)), upd d.2.2.2.2.2.2.1 d.1.toNatClampNeg (vp_nar .boolean 0), d.2.2.2.2.2.2.2)) t) H := hP
        have hD : va_D A (wDT h a1 a2 a3 a4 a5 a6 a7 b b1 cA ((d.1, d.2.1, upd d.2.2.1 d.1.toNatClampNeg t.2.2.2.1, upd d.2.2.2.1 d.1.toNatClampNeg y3, upd d.2.2.2.2.1 d.1.toNatClampNeg y2, upd d.2.2.2.2.2.1 d.1.toNatClampNeg ((-1)), upd d.2.2.2.2.2.2.1 d.1.toNatClampNeg (vp_nar .boolean 0), d.2.2.2.2.2.2.2)) t) := hD
        refine lv_aload_n hx hb dX2_add_107 rfl (lv_at hl 0 rfl) ?_
        refine va_get (D := D) (ci := 1) (v := .ref a7) (C := RX2) (T := TX2) (N := 8) hx hb hts inX2 hown hK hP 0 rfl rfl 6 (by decide) k9 (fun _ h9 => h9) rfl dX2_add_108 ?_
        refine lv_aload_n hx hb dX2_add_111 rfl (lv_at hl 0 rfl) ?_
        refine va_get (D := D) (ci := 1) (v := .int d.1) (C := RX2) (T := TX2) (N := 8) hx hb hts inX2 hown hK hP 0 rfl rfl 7 (by decide) k4 (fun _ h9 => h9) rfl dX2_add_112 ?_
        refine lv_iload_n hx hb dX2_add_115 rfl (lv_at hl 2 rfl) ?_
        refine lv_iconst (v := 1) hx hb dX2_add_116 (by decide +kernel) ?_
        refine lv_icmp_eq (tgt := 124) hx hb dX2_add_117 (by decide) (fun c13 => ?_) (fun c13 => ?_)
        · have hE := if_t c13 hE
          refine lv_iconst (v := 0) hx hb dX2_add_124 (by decide +kernel) ?_
          exact w125  0 d.1 ((d.1, d.2.1, upd d.2.2.1 d.1.toNatClampNeg t.2.2.2.1, upd d.2.2.2.1 d.1.toNatClampNeg y3, upd d.2.2.2.2.1 d.1.toNatClampNeg y2, upd d.2.2.2.2.2.1 d.1.toNatClampNeg ((-1)), upd d.2.2.2.2.2.2.1 d.1.toNatClampNeg (vp_nar .boolean 0), d.2.2.2.2.2.2.2)) t H locs ls hP hD hS (lv_sub hl [0] rfl) hE
        · have hE := if_f c13 hE
          refine lv_iconst (v := 1) hx hb dX2_add_120 (by decide +kernel) ?_
          refine lv_goto (tgt := 125) hx hb dX2_add_121 (by decide) ?_
          exact w125  1 d.1 ((d.1, d.2.1, upd d.2.2.1 d.1.toNatClampNeg t.2.2.2.1, upd d.2.2.2.1 d.1.toNatClampNeg y3, upd d.2.2.2.2.1 d.1.toNatClampNeg y2, upd d.2.2.2.2.2.1 d.1.toNatClampNeg ((-1)), upd d.2.2.2.2.2.2.1 d.1.toNatClampNeg (vp_nar .boolean 0), d.2.2.2.2.2.2.2)) t H locs ls hP hD hS (lv_sub hl [0] rfl) hE
      · have hE := if_f c7 hE
        refine lv_aload_n hx hb dX2_add_27 rfl (lv_at hl 0 rfl) ?_
        refine va_get (D := D) (ci := 1) (v := .ref a1) (C := RX2) (T := TX2) (N := 8) hx hb hts inX2 hown hK hP 0 rfl rfl 0 (by decide) k10 (fun _ h9 => h9) rfl dX2_add_28 ?_
        refine lv_aload_n hx hb dX2_add_31 rfl (lv_at hl 0 rfl) ?_
        refine va_get (D := D) (ci := 1) (v := .int d.1) (C := RX2) (T := TX2) (N := 8) hx hb hts inX2 hown hK hP 0 rfl rfl 7 (by decide) k4 (fun _ h9 => h9) rfl dX2_add_32 ?_
        refine lv_bipush (v := 9) hx hb dX2_add_35 (by decide +kernel) ?_
        refine lv_imul hx hb dX2_add_37 ?_
        refine lv_iload hx hb dX2_add_38 (lv_at hl 4 rfl) ?_
        refine lv_iadd hx hb dX2_add_40 ?_
        refine lv_aload_n hx hb dX2_add_41 rfl (lv_at hl 1 rfl) ?_
        refine lv_iload hx hb dX2_add_42 (lv_at hl 4 rfl) ?_
        obtain ⟨u14, h15, hE⟩ := bd_some hE
        refine cn_i (As := [.int y4]) (rest := [.int ((d.1 * 9) + y4), .ref a1]) (r := u14) (w0 := (wDT h a1 a2 a3 a4 a5 a6 a7 b b1 cA d t)) (N := 10) ⟨hx, hb, hml, hown, hts⟩ (c_X9_nameAt l D cA b b1 H.size y4 t u14 h15) (cwV 1 hts hX2_add_X9_nameAt_57 rfl rfl rfl (by decide +kernel) ⟨Nat.le_of_ble_eq_true rfl, Nat.le_of_ble_eq_true rfl⟩) rfl hl.1 rfl (Nat.le_of_ble_eq_true rfl) dX2_add_44 ⟨Nat.zero_le _, Nat.zero_le _⟩ hK hP hD hS hA (va_recv hK hP (ci := 8) (q0 := 8) rfl rfl) [8, 9] [0, 1, 2, 3, 4, 5, 6, 7] (wDT h a1 a2 a3 a4 a5 a6 a7 b b1 cA d t) rfl (by decide +kernel) rfl (wr := List.filterMap (fun i => (wDT h a1 a2 a3 a4 a5 a6 a7 b b1 cA d t)[i]?) [0, 1, 2, 3, 4, 5, 6, 7]) rfl rfl (by decide +kernel) rfl (by decide +kernel) [h, a1, a2, a3, a4, a5, a6, a7, b, b1] rfl rfl (fun _ _ _ _ h => h) (fun _ _ _ => trivial) (fun H locs hP hD hS => ?_)
        have hP : va_P D vwCl (wDT h a1 a2 a3 a4 a5 a6 a7 b b1 cA d t) H := hP
        have hD : va_D A (wDT h a1 a2 a3 a4 a5 a6 a7 b b1 cA d t) := hD
        have ⟨c16, hE⟩ := ck_some hE
        refine va_cast hx hb hK hP hD hS 1 2 rfl rfl c16 dX2_add_47 (fun H locs hP hD hS => ?_)
        have hP : va_P D vwCl (wDT h a1 a2 a3 a4 a5 a6 a7 b b1 cA ((d.1, upd d.2.1 (((d.1 * 9) + y4).toNatClampNeg) (vp_nar .char u14), d.2.2.1, d.2.2.2.1, d.2.2.2.2.1, d.2.2.2.2.2.1, d.2.2.2.2.2.2.1, d.2.2.2.2.2.2.2)) t) H := hP
        have hD : va_D A (wDT h a1 a2 a3 a4 a5 a6 a7 b b1 cA ((d.1, upd d.2.1 (((d.1 * 9) + y4).toNatClampNeg) (vp_nar .char u14), d.2.2.1, d.2.2.2.1, d.2.2.2.2.1, d.2.2.2.2.2.1, d.2.2.2.2.2.2.1, d.2.2.2.2.2.2.2)) t) := hD
        refine lv_iinc (v := y4 + 1) (lv' := [(4, .int (y4 + 1)), (0, .ref h), (1, .ref b), (2, .int y2), (3, .int y3)]) hx hb dX2_add_48 hl (k := 4) rfl rfl (by decide) rfl (fun ls hl => ?_)
        refine lv_goto (tgt := 18) hx hb dX2_add_51 (by decide) ?_
        exact ih18 y2 y3 (y4 + 1) ((d.1, upd d.2.1 (((d.1 * 9) + y4).toNatClampNeg) (vp_nar .char u14), d.2.2.1, d.2.2.2.1, d.2.2.2.2.1, d.2.2.2.2.2.1, d.2.2.2.2.2.2.1, d.2.2.2.2.2.2.2)) t H locs ls hP hD hS (lv_sub hl [1, 2, 3, 4, 0] rfl) hE
  unfold f_X2_add at hE
  suffices main : ∀ (H : Heap) (locs : List Loc) (ls : Array Slot), va_P D vwCl (wDT h a1 a2 a3 a4 a5 a6 a7 b b1 cA d t) H → va_D A (wDT h a1 a2 a3 a4 a5 a6 a7 b b1 cA d t) → va_S A S0.heap H locs → lv_has ls 5 [(0, .ref h), (1, .ref b), (2, .int x2), (3, .int x3)] → W PP l EE (headSpec wsX2_add ({ frames := 1, cells := 0, slots := 0, locals := 21 })).room S0 MM (#[.ref h, .ref b, .int x2, .int x3] : Array Value) below meth CC H locs 0 0 (MQ below (cQv D (wDT h a1 a2 a3 a4 a5 a6 a7 b b1 cA u t) A) (#[.ref h, .ref b, .int x2, .int x3] : Array Value) S0 0 0 A) (F0 MM 0 ls []) from main _ _ _ hP hD hS hl
  intro H locs ls hP hD hS hl
  refine lv_aload_n hx hb dX2_add_0 rfl (lv_at hl 0 rfl) ?_
  obtain ⟨u1, h2, hE⟩ := bd_some hE
  refine cn_i (As := []) (rest := []) (r := u1) (w0 := (wDT h a1 a2 a3 a4 a5 a6 a7 b b1 cA d t)) (N := 10) ⟨hx, hb, hml, hown, hts⟩ (c_X2_isFull l D cA ad adK adV tA tS h a1 a2 a3 a4 a5 a6 a7 H.size d u1 h2) (cwV 0 hts hX2_add_X2_isFull_47 rfl rfl rfl (by decide +kernel) ⟨Nat.le_of_ble_eq_true rfl, Nat.le_of_ble_eq_true rfl⟩) rfl hl.1 rfl (Nat.le_of_ble_eq_true rfl) dX2_add_1 ⟨Nat.zero_le _, Nat.zero_le _⟩ hK hP hD hS hA (va_recv hK hP (ci := 1) (q0 := 0) rfl rfl) [0, 1, 2, 3, 4, 5, 6, 7] [8, 9] (wDT h a1 a2 a3 a4 a5 a6 a7 b b1 cA d t) rfl (by decide +kernel) rfl (wr := List.filterMap (fun i => (wDT h a1 a2 a3 a4 a5 a6 a7 b b1 cA d t)[i]?) [8, 9]) rfl rfl (by decide +kernel) rfl (by decide +kernel) [h, a1, a2, a3, a4, a5, a6, a7, b, b1] rfl rfl (fun a U g mk h => SX.blind a U g mk h) (fun U hU hW => SX.call hX hS (va_free (wc := (wD h a1 a2 a3 a4 a5 a6 a7 cA d)) hD hS hA [0, 1, 2, 3, 4, 5, 6, 7] rfl) U hU hW) (fun H locs hP hD hS => ?_)
  have hP : va_P D vwCl (wDT h a1 a2 a3 a4 a5 a6 a7 b b1 cA d t) H := hP
  have hD : va_D A (wDT h a1 a2 a3 a4 a5 a6 a7 b b1 cA d t) := hD
  refine lv_if_ne (tgt := 14) hx hb dX2_add_4 (by decide) (fun c3 => ?_) (fun c3 => ?_)
  · have hE := if_f c3 hE
    obtain rfl := Option.some.inj hE
    exact rt_v hx hb hr hP hS hlocks dX2_add_14
  · have hE := if_t c3 hE
    refine lv_aload_n hx hb dX2_add_7 rfl (lv_at hl 1 rfl) ?_
    obtain ⟨u4, h5, hE⟩ := bd_some hE
    refine cn_i (As := []) (rest := []) (r := u4) (w0 := (wDT h a1 a2 a3 a4 a5 a6 a7 b b1 cA d t)) (N := 10) ⟨hx, hb, hml, hown, hts⟩ (c_X9_nameIsTooLong l D cA b b1 H.size t u4 h5) (cwV 0 hts hX2_add_X9_nameIsTooLong_51 rfl rfl rfl (by decide +kernel) ⟨Nat.le_of_ble_eq_true rfl, Nat.le_of_ble_eq_true rfl⟩) rfl hl.1 rfl (Nat.le_of_ble_eq_true rfl) dX2_add_8 ⟨Nat.zero_le _, Nat.zero_le _⟩ hK hP hD hS hA (va_recv hK hP (ci := 8) (q0 := 8) rfl rfl) [8, 9] [0, 1, 2, 3, 4, 5, 6, 7] (wDT h a1 a2 a3 a4 a5 a6 a7 b b1 cA d t) rfl (by decide +kernel) rfl (wr := List.filterMap (fun i => (wDT h a1 a2 a3 a4 a5 a6 a7 b b1 cA d t)[i]?) [0, 1, 2, 3, 4, 5, 6, 7]) rfl rfl (by decide +kernel) rfl (by decide +kernel) [h, a1, a2, a3, a4, a5, a6, a7, b, b1] rfl rfl (fun _ _ _ _ h => h) (fun _ _ _ => trivial) (fun H locs hP hD hS => ?_)
    have hP : va_P D vwCl (wDT h a1 a2 a3 a4 a5 a6 a7 b b1 cA d t) H := hP
    have hD : va_D A (wDT h a1 a2 a3 a4 a5 a6 a7 b b1 cA d t) := hD
    refine lv_if_eq (tgt := 15) hx hb dX2_add_11 (by decide) (fun c6 => ?_) (fun c6 => ?_)
    · have hE := if_t c6 hE
      refine lv_iconst (v := 0) hx hb dX2_add_15 (by decide +kernel) ?_
      refine lv_istore (lv' := [(4, .int 0), (0, .ref h), (1, .ref b), (2, .int x2), (3, .int x3)]) hx hb dX2_add_16 hl (by decide) rfl (fun ls hl => ?_)
      exact w18 FU x2 x3 0 d t H locs ls hP hD hS (lv_sub hl [1, 2, 3, 4, 0] rfl) hE
    · have hE := if_f c6 hE
      obtain rfl := Option.some.inj hE
      exact rt_v hx hb hr hP hS hlocks dX2_add_14
set_option maxHeartbeats 4000000 in
set_option maxRecDepth 100000 in
theorem c_X2_finishLatest (l : Launch) (D : va_G) (cA : Nat → ClassId) (ad adK adV : Nat → Nat) (tA tS : Nat) (h : Nat) (a1 : Nat) (a2 : Nat) (a3 : Nat) (a4 : Nat) (a5 : Nat) (a6 : Nat) (a7 : Nat) (sz : Nat) (d : tD) (u : tD) (hE : f_X2_finishLatest d = some u) : Met l yX2_finishLatest wsX2_finishLatest ({ frames := 0, cells := 0, slots := 0, locals := 0 }) (va_Pc [.ref h] (PRE D cA (wD h a1 a2 a3 a4 a5 a6 a7 cA d) sz (fun U => SX ad adK adV tA tS (va_A (wD h a1 a2 a3 a4 a5 a6 a7 cA d) sz) U U.heap))) (cQv D (wD h a1 a2 a3 a4 a5 a6 a7 cA u) (va_A (wD h a1 a2 a3 a4 a5 a6 a7 cA d) sz)) 0 0 (va_A (wD h a1 a2 a3 a4 a5 a6 a7 cA d) sz) := by
  refine Met.ofW (cc := cX2_finishLatest) (maxL := 1) (ret := none) (by decide) rfl ?_
  intro PP EE S0 MM args below meth CC S1 B hml hv
  obtain ⟨rfl, hsz, hP, hK, hD0, hX⟩ := hv
  have hx := B.exec
  have hb := B.bytes
  have hr := B.returns
  have hts := atoms_spec (ws := wsX2_finishLatest) B.pre
  have hown : S0.vm.findClass RX2 = some MM.cls := findClass_of_methodNamed B.named
  have hlocks := B.notSynchronized
  subst hsz
  have hD := hD0.self (sz := S0.heap.size)
  have hX : SX ad adK adV tA tS (va_A (wD h a1 a2 a3 a4 a5 a6 a7 cA d) S0.heap.size) S0 S0.heap := hX
  generalize hAe : va_A (wD h a1 a2 a3 a4 a5 a6 a7 cA d) S0.heap.size = A at hD hX ⊢
  have hA : ∀ q : Nat, S0.heap.size ≤ q → A q := fun q h => by rw [← hAe]; exact Or.inr h
  have hS : va_S A S0.heap S0.heap [] := va_S.rf
  have k0 := hts (.fieldLink RX2 37 "WordForge$Dictionary" "size" "I") (List.mem_of_getElem? (i := 1) rfl)
  have inX2 : ∀ w ∈ wsX20, w ∈ wsX2_finishLatest := fun _ h => List.mem_cons_of_mem _ (List.mem_append_right _ h)
  have k2 := hts (.fieldLink RX2 34 "WordForge$Dictionary" "finished" "[Z") (List.mem_of_getElem? (i := 2) rfl)
  have hl := lv_entry ([.ref h]) (n := 1) (Nat.le_of_ble_eq_true rfl)
  rw [lg_entry_eq]
  generalize (lg_sl ([.ref h]) ++ List.replicate (1 - (lg_sl ([.ref h])).length) Slot.unset).toArray = ls at hl ⊢
  have hl : lv_has ls 1 [(0, .ref h)] := hl
  unfold f_X2_finishLatest at hE
  suffices main : ∀ (H : Heap) (locs : List Loc) (ls : Array Slot), va_P D vwCl (wD h a1 a2 a3 a4 a5 a6 a7 cA d) H → va_D A (wD h a1 a2 a3 a4 a5 a6 a7 cA d) → va_S A S0.heap H locs → lv_has ls 1 [(0, .ref h)] → W PP l EE (headSpec wsX2_finishLatest ({ frames := 0, cells := 0, slots := 0, locals := 0 })).room S0 MM (#[.ref h] : Array Value) below meth CC H locs 0 0 (MQ below (cQv D (wD h a1 a2 a3 a4 a5 a6 a7 cA u) A) (#[.ref h] : Array Value) S0 0 0 A) (F0 MM 0 ls []) from main _ _ _ hP hD hS hl
  intro H locs ls hP hD hS hl
  refine lv_aload_n hx hb dX2_finishLatest_0 rfl (lv_at hl 0 rfl) ?_
  refine va_get (D := D) (ci := 1) (v := .int d.1) (C := RX2) (T := TX2) (N := 8) hx hb hts inX2 hown hK hP 0 rfl rfl 7 (by decide) k0 (fun _ h9 => h9) rfl dX2_finishLatest_1 ?_
  refine lv_if_le (tgt := 19) hx hb dX2_finishLatest_4 (by decide) (fun c1 => ?_) (fun c1 => ?_)
  · have hE := if_t c1 hE
    obtain rfl := Option.some.inj hE
    exact rt_v hx hb hr hP hS hlocks dX2_finishLatest_19
  · have hE := if_f c1 hE
    refine lv_aload_n hx hb dX2_finishLatest_7 rfl (lv_at hl 0 rfl) ?_
    refine va_get (D := D) (ci := 1) (v := .ref a7) (C := RX2) (T := TX2) (N := 8) hx hb hts inX2 hown hK hP 0 rfl rfl 6 (by decide) k2 (fun _ h9 => h9) rfl dX2_finishLatest_8 ?_
    refine lv_aload_n hx hb dX2_finishLatest_11 rfl (lv_at hl 0 rfl) ?_
    refine va_get (D := D) (ci := 1) (v := .int d.1) (C := RX2) (T := TX2) (N := 8) hx hb hts inX2 hown hK hP 0 rfl rfl 7 (by decide) k0 (fun _ h9 => h9) rfl dX2_finishLatest_12 ?_
    refine lv_iconst (v := 1) hx hb dX2_finishLatest_15 (by decide +kernel) ?_
    refine lv_isub hx hb dX2_finishLatest_16 ?_
    refine lv_iconst (v := 1) hx hb dX2_finishLatest_17 (by decide +kernel) ?_
    have ⟨c2, hE⟩ := ck_some hE
    refine va_zast hx hb hK hP hD hS 7 1 rfl rfl c2 dX2_finishLatest_18 (fun H locs hP hD hS => ?_)
    have hP : va_P D vwCl (wD h a1 a2 a3 a4 a5 a6 a7 cA ((d.1, d.2.1, d.2.2.1, d.2.2.2.1, d.2.2.2.2.1, d.2.2.2.2.2.1, d.2.2.2.2.2.2.1, upd d.2.2.2.2.2.2.2 ((d.1 - 1).toNatClampNeg) (vp_nar .boolean 1)))) H := hP
    have hD : va_D A (wD h a1 a2 a3 a4 a5 a6 a7 cA ((d.1, d.2.1, d.2.2.1, d.2.2.2.1, d.2.2.2.2.1, d.2.2.2.2.2.1, d.2.2.2.2.2.2.1, upd d.2.2.2.2.2.2.2 ((d.1 - 1).toNatClampNeg) (vp_nar .boolean 1)))) := hD
    obtain rfl := Option.some.inj hE
    exact rt_v hx hb hr hP hS hlocks dX2_finishLatest_19
set_option maxHeartbeats 4000000 in
set_option maxRecDepth 100000 in
theorem c_X2_makeLatestImmediate (l : Launch) (D : va_G) (cA : Nat → ClassId) (ad adK adV : Nat → Nat) (tA tS : Nat) (h : Nat) (a1 : Nat) (a2 : Nat) (a3 : Nat) (a4 : Nat) (a5 : Nat) (a6 : Nat) (a7 : Nat) (sz : Nat) (d : tD) (u : Int32 × tD) (hE : f_X2_makeLatestImmediate d = some u) : Met l yX2_makeLatestImmediate wsX2_makeLatestImmediate ({ frames := 0, cells := 0, slots := 0, locals := 0 }) (va_Pc [.ref h] (PRE D cA (wD h a1 a2 a3 a4 a5 a6 a7 cA d) sz (fun U => SX ad adK adV tA tS (va_A (wD h a1 a2 a3 a4 a5 a6 a7 cA d) sz) U U.heap))) (cQi D (wD h a1 a2 a3 a4 a5 a6 a7 cA u.2) (va_A (wD h a1 a2 a3 a4 a5 a6 a7 cA d) sz) u.1) 0 0 (va_A (wD h a1 a2 a3 a4 a5 a6 a7 cA d) sz) := by
  refine Met.ofW (cc := cX2_makeLatestImmediate) (maxL := 1) (ret := (some .int)) (by decide) rfl ?_
  intro PP EE S0 MM args below meth CC S1 B hml hv
  obtain ⟨rfl, hsz, hP, hK, hD0, hX⟩ := hv
  have hx := B.exec
  have hb := B.bytes
  have hr := B.returns
  have hts := atoms_spec (ws := wsX2_makeLatestImmediate) B.pre
  have hown : S0.vm.findClass RX2 = some MM.cls := findClass_of_methodNamed B.named
  have hlocks := B.notSynchronized
  subst hsz
  have hD := hD0.self (sz := S0.heap.size)
  have hX : SX ad adK adV tA tS (va_A (wD h a1 a2 a3 a4 a5 a6 a7 cA d) S0.heap.size) S0 S0.heap := hX
  generalize hAe : va_A (wD h a1 a2 a3 a4 a5 a6 a7 cA d) S0.heap.size = A at hD hX ⊢
  have hA : ∀ q : Nat, S0.heap.size ≤ q → A q := fun q h => by rw [← hAe]; exact Or.inr h
  have hS : va_S A S0.heap S0.heap [] := va_S.rf
  have k0 := hts (.fieldLink RX2 37 "WordForge$Dictionary" "size" "I") (List.mem_of_getElem? (i := 1) rfl)
  have inX2 : ∀ w ∈ wsX20, w ∈ wsX2_makeLatestImmediate := fun _ h => List.mem_cons_of_mem _ (List.mem_append_right _ h)
  have k2 := hts (.fieldLink RX2 30 "WordForge$Dictionary" "immediate" "[Z") (List.mem_of_getElem? (i := 2) rfl)
  have hl := lv_entry ([.ref h]) (n := 1) (Nat.le_of_ble_eq_true rfl)
  rw [lg_entry_eq]
  generalize (lg_sl ([.ref h]) ++ List.replicate (1 - (lg_sl ([.ref h])).length) Slot.unset).toArray = ls at hl ⊢
  have hl : lv_has ls 1 [(0, .ref h)] := hl
  unfold f_X2_makeLatestImmediate at hE
  suffices main : ∀ (H : Heap) (locs : List Loc) (ls : Array Slot), va_P D vwCl (wD h a1 a2 a3 a4 a5 a6 a7 cA d) H → va_D A (wD h a1 a2 a3 a4 a5 a6 a7 cA d) → va_S A S0.heap H locs → lv_has ls 1 [(0, .ref h)] → W PP l EE (headSpec wsX2_makeLatestImmediate ({ frames := 0, cells := 0, slots := 0, locals := 0 })).room S0 MM (#[.ref h] : Array Value) below meth CC H locs 0 0 (MQ below (cQi D (wD h a1 a2 a3 a4 a5 a6 a7 cA u.2) A u.1) (#[.ref h] : Array Value) S0 0 0 A) (F0 MM 0 ls []) from main _ _ _ hP hD hS hl
  intro H locs ls hP hD hS hl
  refine lv_aload_n hx hb dX2_makeLatestImmediate_0 rfl (lv_at hl 0 rfl) ?_
  refine va_get (D := D) (ci := 1) (v := .int d.1) (C := RX2) (T := TX2) (N := 8) hx hb hts inX2 hown hK hP 0 rfl rfl 7 (by decide) k0 (fun _ h9 => h9) rfl dX2_makeLatestImmediate_1 ?_
  refine lv_if_ne (tgt := 10) hx hb dX2_makeLatestImmediate_4 (by decide) (fun c1 => ?_) (fun c1 => ?_)
  · have hE := if_f c1 hE
    refine lv_aload_n hx hb dX2_makeLatestImmediate_10 rfl (lv_at hl 0 rfl) ?_
    refine va_get (D := D) (ci := 1) (v := .ref a6) (C := RX2) (T := TX2) (N := 8) hx hb hts inX2 hown hK hP 0 rfl rfl 5 (by decide) k2 (fun _ h9 => h9) rfl dX2_makeLatestImmediate_11 ?_
    refine lv_aload_n hx hb dX2_makeLatestImmediate_14 rfl (lv_at hl 0 rfl) ?_
    refine va_get (D := D) (ci := 1) (v := .int d.1) (C := RX2) (T := TX2) (N := 8) hx hb hts inX2 hown hK hP 0 rfl rfl 7 (by decide) k0 (fun _ h9 => h9) rfl dX2_makeLatestImmediate_15 ?_
    refine lv_iconst (v := 1) hx hb dX2_makeLatestImmediate_18 (by decide +kernel) ?_
    refine lv_isub hx hb dX2_makeLatestImmediate_19 ?_
    refine lv_iconst (v := 1) hx hb dX2_makeLatestImmediate_20 (by decide +kernel) ?_
    have ⟨c2, hE⟩ := ck_some hE
    refine va_zast hx hb hK hP hD hS 6 1 rfl rfl c2 dX2_makeLatestImmediate_21 (fun H locs hP hD hS => ?_)
    have hP : va_P D vwCl (wD h a1 a2 a3 a4 a5 a6 a7 cA ((d.1, d.2.1, d.2.2.1, d.2.2.2.1, d.2.2.2.2.1, d.2.2.2.2.2.1, upd d.2.2.2.2.2.2.1 ((d.1 - 1).toNatClampNeg) (vp_nar .boolean 1), d.2.2.2.2.2.2.2))) H := hP
    have hD : va_D A (wD h a1 a2 a3 a4 a5 a6 a7 cA ((d.1, d.2.1, d.2.2.1, d.2.2.2.1, d.2.2.2.2.1, d.2.2.2.2.2.1, upd d.2.2.2.2.2.2.1 ((d.1 - 1).toNatClampNeg) (vp_nar .boolean 1), d.2.2.2.2.2.2.2))) := hD
    refine lv_iconst (v := 0) hx hb dX2_makeLatestImmediate_22 (by decide +kernel) ?_
    obtain rfl := Option.some.inj hE
    exact rt_i hx hb hr hP hS rfl hlocks dX2_makeLatestImmediate_23
  · have hE := if_t c1 hE
    refine lv_bipush (v := (-32)) hx hb dX2_makeLatestImmediate_7 (by decide +kernel) ?_
    obtain rfl := Option.some.inj hE
    exact rt_i hx hb hr hP hS rfl hlocks dX2_makeLatestImmediate_9
set_option maxHeartbeats 4000000 in
set_option maxRecDepth 100000 in
theorem c_X2_giveBehaviourToLatest (l : Launch) (D : va_G) (cA : Nat → ClassId) (ad adK adV : Nat → Nat) (tA tS : Nat) (h : Nat) (a1 : Nat) (a2 : Nat) (a3 : Nat) (a4 : Nat) (a5 : Nat) (a6 : Nat) (a7 : Nat) (sz : Nat) (x1 : Int32) (d : tD) (u : Int32 × tD) (hE : f_X2_giveBehaviourToLatest x1 d = some u) : Met l yX2_giveBehaviourToLatest wsX2_giveBehaviourToLatest ({ frames := 0, cells := 0, slots := 0, locals := 0 }) (va_Pc [.ref h, .int x1] (PRE D cA (wD h a1 a2 a3 a4 a5 a6 a7 cA d) sz (fun U => SX ad adK adV tA tS (va_A (wD h a1 a2 a3 a4 a5 a6 a7 cA d) sz) U U.heap))) (cQi D (wD h a1 a2 a3 a4 a5 a6 a7 cA u.2) (va_A (wD h a1 a2 a3 a4 a5 a6 a7 cA d) sz) u.1) 0 0 (va_A (wD h a1 a2 a3 a4 a5 a6 a7 cA d) sz) := by
  refine Met.ofW (cc := cX2_giveBehaviourToLatest) (maxL := 2) (ret := (some .int)) (by decide) rfl ?_
  intro PP EE S0 MM args below meth CC S1 B hml hv
  obtain ⟨rfl, hsz, hP, hK, hD0, hX⟩ := hv
  have hx := B.exec
  have hb := B.bytes
  have hr := B.returns
  have hts := atoms_spec (ws := wsX2_giveBehaviourToLatest) B.pre
  have hown : S0.vm.findClass RX2 = some MM.cls := findClass_of_methodNamed B.named
  have hlocks := B.notSynchronized
  subst hsz
  have hD := hD0.self (sz := S0.heap.size)
  have hX : SX ad adK adV tA tS (va_A (wD h a1 a2 a3 a4 a5 a6 a7 cA d) S0.heap.size) S0 S0.heap := hX
  generalize hAe : va_A (wD h a1 a2 a3 a4 a5 a6 a7 cA d) S0.heap.size = A at hD hX ⊢
  have hA : ∀ q : Nat, S0.heap.size ≤ q → A q := fun q h => by rw [← hAe]; exact Or.inr h
  have hS : va_S A S0.heap S0.heap [] := va_S.rf
  have k0 := hts (.fieldLink RX2 37 "WordForge$Dictionary" "size" "I") (List.mem_of_getElem? (i := 1) rfl)
  have inX2 : ∀ w ∈ wsX20, w ∈ wsX2_giveBehaviourToLatest := fun _ h => List.mem_cons_of_mem _ (List.mem_append_right _ h)
  have k2 := hts (.fieldLink RX2 24 "WordForge$Dictionary" "sorts" "[I") (List.mem_of_getElem? (i := 2) rfl)
  have k3 := hts (.fieldLink RX2 27 "WordForge$Dictionary" "behaviours" "[I") (List.mem_of_getElem? (i := 3) rfl)
  have hl := lv_entry ([.ref h, .int x1]) (n := 2) (Nat.le_of_ble_eq_true rfl)
  rw [lg_entry_eq]
  generalize (lg_sl ([.ref h, .int x1]) ++ List.replicate (2 - (lg_sl ([.ref h, .int x1])).length) Slot.unset).toArray = ls at hl ⊢
  have hl : lv_has ls 2 [(0, .ref h), (1, .int x1)] := hl
  unfold f_X2_giveBehaviourToLatest at hE
  suffices main : ∀ (H : Heap) (locs : List Loc) (ls : Array Slot), va_P D vwCl (wD h a1 a2 a3 a4 a5 a6 a7 cA d) H → va_D A (wD h a1 a2 a3 a4 a5 a6 a7 cA d) → va_S A S0.heap H locs → lv_has ls 2 [(0, .ref h), (1, .int x1)] → W PP l EE (headSpec wsX2_giveBehaviourToLatest ({ frames := 0, cells := 0, slots := 0, locals := 0 })).room S0 MM (#[.ref h, .int x1] : Array Value) below meth CC H locs 0 0 (MQ below (cQi D (wD h a1 a2 a3 a4 a5 a6 a7 cA u.2) A u.1) (#[.ref h, .int x1] : Array Value) S0 0 0 A) (F0 MM 0 ls []) from main _ _ _ hP hD hS hl
  intro H locs ls hP hD hS hl
  refine lv_aload_n hx hb dX2_giveBehaviourToLatest_0 rfl (lv_at hl 0 rfl) ?_
  refine va_get (D := D) (ci := 1) (v := .int d.1) (C := RX2) (T := TX2) (N := 8) hx hb hts inX2 hown hK hP 0 rfl rfl 7 (by decide) k0 (fun _ h9 => h9) rfl dX2_giveBehaviourToLatest_1 ?_
  refine lv_if_eq (tgt := 22) hx hb dX2_giveBehaviourToLatest_4 (by decide) (fun c1 => ?_) (fun c1 => ?_)
  · have hE := if_t c1 hE
    refine lv_bipush (v := (-32)) hx hb dX2_giveBehaviourToLatest_22 (by decide +kernel) ?_
    obtain rfl := Option.some.inj hE
    exact rt_i hx hb hr hP hS rfl hlocks dX2_giveBehaviourToLatest_24
  · have hE := if_f c1 hE
    refine lv_aload_n hx hb dX2_giveBehaviourToLatest_7 rfl (lv_at hl 0 rfl) ?_
    refine va_get (D := D) (ci := 1) (v := .ref a4) (C := RX2) (T := TX2) (N := 8) hx hb hts inX2 hown hK hP 0 rfl rfl 3 (by decide) k2 (fun _ h9 => h9) rfl dX2_giveBehaviourToLatest_8 ?_
    refine lv_aload_n hx hb dX2_giveBehaviourToLatest_11 rfl (lv_at hl 0 rfl) ?_
    refine va_get (D := D) (ci := 1) (v := .int d.1) (C := RX2) (T := TX2) (N := 8) hx hb hts inX2 hown hK hP 0 rfl rfl 7 (by decide) k0 (fun _ h9 => h9) rfl dX2_giveBehaviourToLatest_12 ?_
    refine lv_iconst (v := 1) hx hb dX2_giveBehaviourToLatest_15 (by decide +kernel) ?_
    refine lv_isub hx hb dX2_giveBehaviourToLatest_16 ?_
    have ⟨c2, hE⟩ := ck_some hE
    refine va_iald hx hb hK hP 4 0 rfl rfl c2 dX2_giveBehaviourToLatest_17 ?_
    refine lv_iconst (v := 2) hx hb dX2_giveBehaviourToLatest_18 (by decide +kernel) ?_
    refine lv_icmp_eq (tgt := 25) hx hb dX2_giveBehaviourToLatest_19 (by decide) (fun c3 => ?_) (fun c3 => ?_)
    · have hE := if_t c3 hE
      refine lv_aload_n hx hb dX2_giveBehaviourToLatest_25 rfl (lv_at hl 0 rfl) ?_
      refine va_get (D := D) (ci := 1) (v := .ref a5) (C := RX2) (T := TX2) (N := 8) hx hb hts inX2 hown hK hP 0 rfl rfl 4 (by decide) k3 (fun _ h9 => h9) rfl dX2_giveBehaviourToLatest_26 ?_
      refine lv_aload_n hx hb dX2_giveBehaviourToLatest_29 rfl (lv_at hl 0 rfl) ?_
      refine va_get (D := D) (ci := 1) (v := .int d.1) (C := RX2) (T := TX2) (N := 8) hx hb hts inX2 hown hK hP 0 rfl rfl 7 (by decide) k0 (fun _ h9 => h9) rfl dX2_giveBehaviourToLatest_30 ?_
      refine lv_iconst (v := 1) hx hb dX2_giveBehaviourToLatest_33 (by decide +kernel) ?_
      refine lv_isub hx hb dX2_giveBehaviourToLatest_34 ?_
      refine lv_iload_n hx hb dX2_giveBehaviourToLatest_35 rfl (lv_at hl 1 rfl) ?_
      have ⟨c4, hE⟩ := ck_some hE
      refine va_iast hx hb hK hP hD hS 5 0 rfl rfl c4 dX2_giveBehaviourToLatest_36 (fun H locs hP hD hS => ?_)
      have hP : va_P D vwCl (wD h a1 a2 a3 a4 a5 a6 a7 cA ((d.1, d.2.1, d.2.2.1, d.2.2.2.1, d.2.2.2.2.1, upd d.2.2.2.2.2.1 ((d.1 - 1).toNatClampNeg) x1, d.2.2.2.2.2.2.1, d.2.2.2.2.2.2.2))) H := hP
      have hD : va_D A (wD h a1 a2 a3 a4 a5 a6 a7 cA ((d.1, d.2.1, d.2.2.1, d.2.2.2.1, d.2.2.2.2.1, upd d.2.2.2.2.2.1 ((d.1 - 1).toNatClampNeg) x1, d.2.2.2.2.2.2.1, d.2.2.2.2.2.2.2))) := hD
      refine lv_iconst (v := 0) hx hb dX2_giveBehaviourToLatest_37 (by decide +kernel) ?_
      obtain rfl := Option.some.inj hE
      exact rt_i hx hb hr hP hS rfl hlocks dX2_giveBehaviourToLatest_38
    · have hE := if_f c3 hE
      refine lv_bipush (v := (-32)) hx hb dX2_giveBehaviourToLatest_22 (by decide +kernel) ?_
      obtain rfl := Option.some.inj hE
      exact rt_i hx hb hr hP hS rfl hlocks dX2_giveBehaviourToLatest_24
set_option maxRecDepth 20000 in
theorem hX2_isImmediate_X2_isWord_64 : GoodIn wsX2_isImmediate (wsV RX2 64 RX2 yX2_isWord wsX2_isWord) := goodIn_r _ [2, 3, 4, 5, 6, 7, 8, 9, 10, 11, 12, 13, 14, 15] rfl (by decide +kernel)
set_option maxHeartbeats 4000000 in
set_option maxRecDepth 100000 in
theorem c_X2_isImmediate (l : Launch) (D : va_G) (cA : Nat → ClassId) (ad adK adV : Nat → Nat) (tA tS : Nat) (h : Nat) (a1 : Nat) (a2 : Nat) (a3 : Nat) (a4 : Nat) (a5 : Nat) (a6 : Nat) (a7 : Nat) (sz : Nat) (x1 : Int32) (d : tD) (u : Int32) (hE : f_X2_isImmediate x1 d = some u) : Met l yX2_isImmediate wsX2_isImmediate ({ frames := 1, cells := 0, slots := 0, locals := 21 }) (va_Pc [.ref h, .int x1] (PRE D cA (wD h a1 a2 a3 a4 a5 a6 a7 cA d) sz (fun U => SX ad adK adV tA tS (va_A (wD h a1 a2 a3 a4 a5 a6 a7 cA d) sz) U U.heap))) (cQi D (wD h a1 a2 a3 a4 a5 a6 a7 cA d) (va_A (wD h a1 a2 a3 a4 a5 a6 a7 cA d) sz) u) 0 0 (va_A (wD h a1 a2 a3 a4 a5 a6 a7 cA d) sz) := by
  refine Met.ofW (cc := cX2_isImmediate) (maxL := 2) (ret := (some .boolean)) (by decide) rfl ?_
  intro PP EE S0 MM args below meth CC S1 B hml hv
  obtain ⟨rfl, hsz, hP, hK, hD0, hX⟩ := hv
  have hx := B.exec
  have hb := B.bytes
  have hr := B.returns
  have hts := atoms_spec (ws := wsX2_isImmediate) B.pre
  have hown : S0.vm.findClass RX2 = some MM.cls := findClass_of_methodNamed B.named
  have hlocks := B.notSynchronized
  subst hsz
  have hD := hD0.self (sz := S0.heap.size)
  have hX : SX ad adK adV tA tS (va_A (wD h a1 a2 a3 a4 a5 a6 a7 cA d) S0.heap.size) S0 S0.heap := hX
  generalize hAe : va_A (wD h a1 a2 a3 a4 a5 a6 a7 cA d) S0.heap.size = A at hD hX ⊢
  have hA : ∀ q : Nat, S0.heap.size ≤ q → A q := fun q h => by rw [← hAe]; exact Or.inr h
  have hS : va_S A S0.heap S0.heap [] := va_S.rf
  have k0 := hX.nest (.fieldLinkNest RX2 41 "WordForge$Word" "ALL" "[LWordForge$Word;" "WordForge") (List.mem_of_getElem? (i := 38) rfl)
  have k1 := hts (.fieldLink RX2 30 "WordForge$Dictionary" "immediate" "[Z") (List.mem_of_getElem? (i := 1) rfl)
  have inX2 : ∀ w ∈ wsX20, w ∈ wsX2_isImmediate := fun _ h => List.mem_cons_of_mem _ (List.mem_append_right _ h)
  have k3 := hX.nest (.fieldLinkNest RX2 61 "WordForge$Word" "immediate" "Z" "WordForge") (List.mem_of_getElem? (i := 41) rfl)
  have hl := lv_entry ([.ref h, .int x1]) (n := 2) (Nat.le_of_ble_eq_true rfl)
  rw [lg_entry_eq]
  generalize (lg_sl ([.ref h, .int x1]) ++ List.replicate (2 - (lg_sl ([.ref h, .int x1])).length) Slot.unset).toArray = ls at hl ⊢
  have hl : lv_has ls 2 [(0, .ref h), (1, .int x1)] := hl
  unfold f_X2_isImmediate at hE
  suffices main : ∀ (H : Heap) (locs : List Loc) (ls : Array Slot), va_P D vwCl (wD h a1 a2 a3 a4 a5 a6 a7 cA d) H → va_D A (wD h a1 a2 a3 a4 a5 a6 a7 cA d) → va_S A S0.heap H locs → lv_has ls 2 [(0, .ref h), (1, .int x1)] → W PP l EE (headSpec wsX2_isImmediate ({ frames := 1, cells := 0, slots := 0, locals := 21 })).room S0 MM (#[.ref h, .int x1] : Array Value) below meth CC H locs 0 0 (MQ below (cQi D (wD h a1 a2 a3 a4 a5 a6 a7 cA d) A u) (#[.ref h, .int x1] : Array Value) S0 0 0 A) (F0 MM 0 ls []) from main _ _ _ hP hD hS hl
  intro H locs ls hP hD hS hl
  refine lv_iload_n hx hb dX2_isImmediate_0 rfl (lv_at hl 1 rfl) ?_
  refine va_getsN hx hb hX.2.1 hS hown (k0 _) (fun _ h9 => h9) dX2_isImmediate_1 ?_
  refine va_tlen hx hb hX.2.2.1 hS (v := 82) (by decide +kernel) dX2_isImmediate_4 ?_
  refine lv_icmp_ge (tgt := 29) hx hb dX2_isImmediate_5 (by decide) (fun c1 => ?_) (fun c1 => ?_)
  · have hE := if_t c1 hE
    refine lv_aload_n hx hb dX2_isImmediate_29 rfl (lv_at hl 0 rfl) ?_
    refine lv_iload_n hx hb dX2_isImmediate_30 rfl (lv_at hl 1 rfl) ?_
    obtain ⟨u2, h3, hE⟩ := bd_some hE
    refine cw_i (As := [.int x1]) (rest := []) (r := u2) (wc := (wD h a1 a2 a3 a4 a5 a6 a7 cA d)) ⟨hx, hb, hml, hown, hts⟩ (c_X2_isWord l D cA ad adK adV tA tS h a1 a2 a3 a4 a5 a6 a7 H.size x1 d u2 h3) (cwV 1 hts hX2_isImmediate_X2_isWord_64 rfl rfl rfl (by decide +kernel) ⟨Nat.le_of_ble_eq_true rfl, Nat.le_of_ble_eq_true rfl⟩) rfl hl.1 rfl (Nat.le_of_ble_eq_true rfl) dX2_isImmediate_31 ⟨Nat.zero_le _, Nat.zero_le _⟩ hK hP hD hS hA (va_recv hK hP (ci := 1) (q0 := 0) rfl rfl) [h, a1, a2, a3, a4, a5, a6, a7] rfl rfl (fun a U g mk h => SX.blind a U g mk h) (fun U hU hW => SX.call hX hS (fun q h => h.elim (fun ⟨k, e, h⟩ => hD.2 k (q, e) h) (fun h => hA q (Nat.le_trans hS.1 h))) U hU hW) (fun H locs hP hD hS => ?_)
    have hP : va_P D vwCl (wD h a1 a2 a3 a4 a5 a6 a7 cA d) H := hP
    have hD : va_D A (wD h a1 a2 a3 a4 a5 a6 a7 cA d) := hD
    refine lv_if_eq (tgt := 55) hx hb dX2_isImmediate_34 (by decide) (fun c4 => ?_) (fun c4 => ?_)
    · have hE := if_t c4 hE
      refine lv_iconst (v := 0) hx hb dX2_isImmediate_55 (by decide +kernel) ?_
      obtain rfl := Option.some.inj hE
      exact rt_n hx hb hr (by decide +kernel) hP hS rfl hlocks dX2_isImmediate_56
    · have hE := if_f c4 hE
      refine lv_aload_n hx hb dX2_isImmediate_37 rfl (lv_at hl 0 rfl) ?_
      refine va_get (D := D) (ci := 1) (v := .ref a6) (C := RX2) (T := TX2) (N := 8) hx hb hts inX2 hown hK hP 0 rfl rfl 5 (by decide) k1 (fun _ h9 => h9) rfl dX2_isImmediate_38 ?_
      refine lv_iload_n hx hb dX2_isImmediate_41 rfl (lv_at hl 1 rfl) ?_
      refine va_getsN hx hb hX.2.1 hS hown (k0 _) (fun _ h9 => h9) dX2_isImmediate_42 ?_
      refine va_tlen hx hb hX.2.2.1 hS (v := 82) (by decide +kernel) dX2_isImmediate_45 ?_
      refine lv_isub hx hb dX2_isImmediate_46 ?_
      have ⟨c5, hE⟩ := ck_some hE
      refine va_zald hx hb hK hP 6 1 rfl rfl c5 dX2_isImmediate_47 ?_
      refine lv_if_eq (tgt := 55) hx hb dX2_isImmediate_48 (by decide) (fun c6 => ?_) (fun c6 => ?_)
      · have hE := if_t c6 hE
        refine lv_iconst (v := 0) hx hb dX2_isImmediate_55 (by decide +kernel) ?_
        obtain rfl := Option.some.inj hE
        exact rt_n hx hb hr (by decide +kernel) hP hS rfl hlocks dX2_isImmediate_56
      · have hE := if_f c6 hE
        refine lv_iconst (v := 1) hx hb dX2_isImmediate_51 (by decide +kernel) ?_
        refine lv_goto (tgt := 56) hx hb dX2_isImmediate_52 (by decide) ?_
        obtain rfl := Option.some.inj hE
        exact rt_n hx hb hr (by decide +kernel) hP hS rfl hlocks dX2_isImmediate_56
  · have hE := if_f c1 hE
    refine lv_iload_n hx hb dX2_isImmediate_8 rfl (lv_at hl 1 rfl) ?_
    refine lv_if_lt (tgt := 27) hx hb dX2_isImmediate_9 (by decide) (fun c7 => ?_) (fun c7 => ?_)
    · have hE := if_t c7 hE
      refine lv_iconst (v := 0) hx hb dX2_isImmediate_27 (by decide +kernel) ?_
      obtain rfl := Option.some.inj hE
      exact rt_n hx hb hr (by decide +kernel) hP hS rfl hlocks dX2_isImmediate_28
    · have hE := if_f c7 hE
      refine va_getsN hx hb hX.2.1 hS hown (k0 _) (fun _ h9 => h9) dX2_isImmediate_12 ?_
      refine lv_iload_n hx hb dX2_isImmediate_15 rfl (lv_at hl 1 rfl) ?_
      have ⟨c8, hE⟩ := ck_some hE
      refine vb_tq hx hb hX.2.2.1 hS c8 rfl dX2_isImmediate_16 ?_
      refine vk_getfN (v := .int (wV_immediate.getD x1.toNatClampNeg 0)) hx hb ((hX.2.2.2.2.2.2.1 x1.toNatClampNeg (Nat.not_le.mp (fun q => c8 (Or.inr q)))).2.2.1 ("WordForge$Word", "immediate", "Z", wV_immediate) (List.mem_of_getElem? (i := 4) rfl)) hS hown (k3 _) (fun _ h9 => h9) dX2_isImmediate_17 ?_
      refine lv_if_eq (tgt := 27) hx hb dX2_isImmediate_20 (by decide) (fun c9 => ?_) (fun c9 => ?_)
      · have hE := if_t c9 hE
        refine lv_iconst (v := 0) hx hb dX2_isImmediate_27 (by decide +kernel) ?_
        obtain rfl := Option.some.inj hE
        exact rt_n hx hb hr (by decide +kernel) hP hS rfl hlocks dX2_isImmediate_28
      · have hE := if_f c9 hE
        refine lv_iconst (v := 1) hx hb dX2_isImmediate_23 (by decide +kernel) ?_
        refine lv_goto (tgt := 28) hx hb dX2_isImmediate_24 (by decide) ?_
        obtain rfl := Option.some.inj hE
        exact rt_n hx hb hr (by decide +kernel) hP hS rfl hlocks dX2_isImmediate_28
set_option maxRecDepth 20000 in
theorem hX2_isNamed_X9_nameAt_57 : GoodIn wsX2_isNamed (wsV RX2 57 RX9 yX9_nameAt wsX9_nameAt) := goodIn_r _ [3, 4, 5, 6, 7, 8, 9, 18, 19, 20, 21, 22] rfl (by decide +kernel)
set_option maxHeartbeats 4000000 in
set_option maxRecDepth 100000 in
theorem c_X2_isNamed (l : Launch) (D : va_G) (cA : Nat → ClassId) (ad adK adV : Nat → Nat) (tA tS : Nat) (h : Nat) (a1 : Nat) (a2 : Nat) (a3 : Nat) (a4 : Nat) (a5 : Nat) (a6 : Nat) (a7 : Nat) (b : Nat) (b1 : Nat) (sz : Nat) (x1 : Int32) (d : tD) (t : tT) (u : Int32) (hE : f_X2_isNamed x1 d t = some u) : Met l yX2_isNamed wsX2_isNamed ({ frames := 1, cells := 0, slots := 0, locals := 21 }) (va_Pc [.ref h, .int x1, .ref b] (PRE D cA (wDT h a1 a2 a3 a4 a5 a6 a7 b b1 cA d t) sz (fun U => SX ad adK adV tA tS (va_A (wDT h a1 a2 a3 a4 a5 a6 a7 b b1 cA d t) sz) U U.heap))) (cQi D (wDT h a1 a2 a3 a4 a5 a6 a7 b b1 cA d t) (va_A (wDT h a1 a2 a3 a4 a5 a6 a7 b b1 cA d t) sz) u) 0 0 (va_A (wDT h a1 a2 a3 a4 a5 a6 a7 b b1 cA d t) sz) := by
  refine Met.ofW (cc := cX2_isNamed) (maxL := 4) (ret := (some .boolean)) (by decide) rfl ?_
  intro PP EE S0 MM args below meth CC S1 B hml hv
  obtain ⟨rfl, hsz, hP, hK, hD0, hX⟩ := hv
  have hx := B.exec
  have hb := B.bytes
  have hr := B.returns
  have hts := atoms_spec (ws := wsX2_isNamed) B.pre
  have hown : S0.vm.findClass RX2 = some MM.cls := findClass_of_methodNamed B.named
  have hlocks := B.notSynchronized
  subst hsz
  have hD := hD0.self (sz := S0.heap.size)
  have hX : SX ad adK adV tA tS (va_A (wDT h a1 a2 a3 a4 a5 a6 a7 b b1 cA d t) S0.heap.size) S0 S0.heap := hX
  generalize hAe : va_A (wDT h a1 a2 a3 a4 a5 a6 a7 b b1 cA d t) S0.heap.size = A at hD hX ⊢
  have hA : ∀ q : Nat, S0.heap.size ≤ q → A q := fun q h => by rw [← hAe]; exact Or.inr h
  have hS : va_S A S0.heap S0.heap [] := va_S.rf
  have k0 := hts (.fieldLink RX2 17 "WordForge$Dictionary" "lengths" "[I") (List.mem_of_getElem? (i := 1) rfl)
  have inX2 : ∀ w ∈ wsX20, w ∈ wsX2_isNamed := fun _ h => List.mem_cons_of_mem _ (List.mem_append_left _ (List.mem_append_right _ h))
  have k2 := hX.nest (.fieldLinkNest RX2 54 "WordForge$Text" "nameLength" "I" "WordForge") (List.mem_of_getElem? (i := 0) rfl)
  have inX9 : ∀ w ∈ wsX90, w ∈ wsX2_isNamed := fun _ h => List.mem_cons_of_mem _ (List.mem_append_right _ h)
  have k4 := hts (.fieldLink RX2 13 "WordForge$Dictionary" "letters" "[C") (List.mem_of_getElem? (i := 2) rfl)
  have hl := lv_entry ([.ref h, .int x1, .ref b]) (n := 4) (Nat.le_of_ble_eq_true rfl)
  rw [lg_entry_eq]
  generalize (lg_sl ([.ref h, .int x1, .ref b]) ++ List.replicate (4 - (lg_sl ([.ref h, .int x1, .ref b])).length) Slot.unset).toArray = ls at hl ⊢
  have hl : lv_has ls 4 [(0, .ref h), (1, .int x1), (2, .ref b)] := hl
  have w17 : ∀ (n : Nat), ∀ (y1 : Int32) (y3 : Int32) (d : tD) (t : tT) (H : Heap) (locs : List Loc) (ls : Array Slot), va_P D vwCl (wDT h a1 a2 a3 a4 a5 a6 a7 b b1 cA d t) H → va_D A (wDT h a1 a2 a3 a4 a5 a6 a7 b b1 cA d t) → va_S A S0.heap H locs → lv_has ls 4 [(0, .ref h), (1, .int y1), (2, .ref b), (3, .int y3)] → b_X2_isNamed_17 n y1 y3 d t = some u → W PP l EE (headSpec wsX2_isNamed ({ frames := 1, cells := 0, slots := 0, locals := 21 })).room S0 MM (#[.ref h, .int x1, .ref b] : Array Value) below meth CC H locs 0 0 (MQ below (cQi D (wDT h a1 a2 a3 a4 a5 a6 a7 b b1 cA d t) A u) (#[.ref h, .int x1, .ref b] : Array Value) S0 0 0 A) (F0 MM 17 ls []) := by
    intro  n
    induction n with
    | zero => intros; rename_i hE; exact absurd hE (by simp [b_X2_isNamed_17])
    | succ n ih17 =>
      intro y1 y3 d t
      intro H locs ls hP hD hS hl hE
      unfold b_X2_isNamed_17 at hE
      refine lv_iload_n hx hb dX2_isNamed_17 rfl (lv_at hl 3 rfl) ?_
      refine lv_aload_n hx hb dX2_isNamed_18 rfl (lv_at hl 0 rfl) ?_
      refine va_get (D := D) (ci := 1) (v := .ref a2) (C := RX2) (T := TX2) (N := 8) hx hb hts inX2 hown hK hP 0 rfl rfl 1 (by decide) k0 (fun _ h9 => h9) rfl dX2_isNamed_19 ?_
      refine lv_iload_n hx hb dX2_isNamed_22 rfl (lv_at hl 1 rfl) ?_
      have ⟨c3, hE⟩ := ck_some hE
      refine va_iald hx hb hK hP 2 0 rfl rfl c3 dX2_isNamed_23 ?_
      refine lv_icmp_ge (tgt := 54) hx hb dX2_isNamed_24 (by decide) (fun c4 => ?_) (fun c4 => ?_)
      · have hE := if_t c4 hE
        refine lv_iconst (v := 1) hx hb dX2_isNamed_54 (by decide +kernel) ?_
        obtain rfl := Option.some.inj hE
        exact rt_n hx hb hr (by decide +kernel) hP hS rfl hlocks dX2_isNamed_55
      · have hE := if_f c4 hE
        refine lv_aload_n hx hb dX2_isNamed_27 rfl (lv_at hl 0 rfl) ?_
        refine va_get (D := D) (ci := 1) (v := .ref a1) (C := RX2) (T := TX2) (N := 8) hx hb hts inX2 hown hK hP 0 rfl rfl 0 (by decide) k4 (fun _ h9 => h9) rfl dX2_isNamed_28 ?_
        refine lv_iload_n hx hb dX2_isNamed_31 rfl (lv_at hl 1 rfl) ?_
        refine lv_bipush (v := 9) hx hb dX2_isNamed_32 (by decide +kernel) ?_
        refine lv_imul hx hb dX2_isNamed_34 ?_
        refine lv_iload_n hx hb dX2_isNamed_35 rfl (lv_at hl 3 rfl) ?_
        refine lv_iadd hx hb dX2_isNamed_36 ?_
        have ⟨c5, hE⟩ := ck_some hE
        refine va_cald hx hb hK hP 1 2 rfl rfl c5 dX2_isNamed_37 ?_
        refine lv_aload_n hx hb dX2_isNamed_38 rfl (lv_at hl 2 rfl) ?_
        refine lv_iload_n hx hb dX2_isNamed_39 rfl (lv_at hl 3 rfl) ?_
        obtain ⟨u6, h7, hE⟩ := bd_some hE
        refine cn_i (As := [.int y3]) (rest := [.int (d.2.1 (((y1 * 9) + y3).toNatClampNeg))]) (r := u6) (w0 := (wDT h a1 a2 a3 a4 a5 a6 a7 b b1 cA d t)) (N := 10) ⟨hx, hb, hml, hown, hts⟩ (c_X9_nameAt l D cA b b1 H.size y3 t u6 h7) (cwV 1 hts hX2_isNamed_X9_nameAt_57 rfl rfl rfl (by decide +kernel) ⟨Nat.le_of_ble_eq_true rfl, Nat.le_of_ble_eq_true rfl⟩) rfl hl.1 rfl (Nat.le_of_ble_eq_true rfl) dX2_isNamed_40 ⟨Nat.zero_le _, Nat.zero_le _⟩ hK hP hD hS hA (va_recv hK hP (ci := 8) (q0 := 8) rfl rfl) [8, 9] [0, 1, 2, 3, 4, 5, 6, 7] (wDT h a1 a2 a3 a4 a5 a6 a7 b b1 cA d t) rfl (by decide +kernel) rfl (wr := List.filterMap (fun i => (wDT h a1 a2 a3 a4 a5 a6 a7 b b1 cA d t)[i]?) [0, 1, 2, 3, 4, 5, 6, 7]) rfl rfl (by decide +kernel) rfl (by decide +kernel) [h, a1, a2, a3, a4, a5, a6, a7, b, b1] rfl rfl (fun _ _ _ _ h => h) (fun _ _ _ => trivial) (fun H locs hP hD hS => ?_)
        have hP : va_P D vwCl (wDT h a1 a2 a3 a4 a5 a6 a7 b b1 cA d t) H := hP
        have hD : va_D A (wDT h a1 a2 a3 a4 a5 a6 a7 b b1 cA d t) := hD
        refine lv_icmp_eq (tgt := 48) hx hb dX2_isNamed_43 (by decide) (fun c8 => ?_) (fun c8 => ?_)
        · have hE := if_t c8 hE
          refine lv_iinc (v := y3 + 1) (lv' := [(3, .int (y3 + 1)), (0, .ref h), (1, .int y1), (2, .ref b)]) hx hb dX2_isNamed_48 hl (k := 3) rfl rfl (by decide) rfl (fun ls hl => ?_)
          refine lv_goto (tgt := 17) hx hb dX2_isNamed_51 (by decide) ?_
          exact ih17 y1 (y3 + 1) d t H locs ls hP hD hS (lv_sub hl [1, 2, 3, 0] rfl) hE
        · have hE := if_f c8 hE
          refine lv_iconst (v := 0) hx hb dX2_isNamed_46 (by decide +kernel) ?_
          obtain rfl := Option.some.inj hE
          exact rt_n hx hb hr (by decide +kernel) hP hS rfl hlocks dX2_isNamed_47
  unfold f_X2_isNamed at hE
  suffices main : ∀ (H : Heap) (locs : List Loc) (ls : Array Slot), va_P D vwCl (wDT h a1 a2 a3 a4 a5 a6 a7 b b1 cA d t) H → va_D A (wDT h a1 a2 a3 a4 a5 a6 a7 b b1 cA d t) → va_S A S0.heap H locs → lv_has ls 4 [(0, .ref h), (1, .int x1), (2, .ref b)] → W PP l EE (headSpec wsX2_isNamed ({ frames := 1, cells := 0, slots := 0, locals := 21 })).room S0 MM (#[.ref h, .int x1, .ref b] : Array Value) below meth CC H locs 0 0 (MQ below (cQi D (wDT h a1 a2 a3 a4 a5 a6 a7 b b1 cA d t) A u) (#[.ref h, .int x1, .ref b] : Array Value) S0 0 0 A) (F0 MM 0 ls []) from main _ _ _ hP hD hS hl
  intro H locs ls hP hD hS hl
  refine lv_aload_n hx hb dX2_isNamed_0 rfl (lv_at hl 0 rfl) ?_
  refine va_get (D := D) (ci := 1) (v := .ref a2) (C := RX2) (T := TX2) (N := 8) hx hb hts inX2 hown hK hP 0 rfl rfl 1 (by decide) k0 (fun _ h9 => h9) rfl dX2_isNamed_1 ?_
  refine lv_iload_n hx hb dX2_isNamed_4 rfl (lv_at hl 1 rfl) ?_
  have ⟨c1, hE⟩ := ck_some hE
  refine va_iald hx hb hK hP 2 0 rfl rfl c1 dX2_isNamed_5 ?_
  refine lv_aload_n hx hb dX2_isNamed_6 rfl (lv_at hl 2 rfl) ?_
  refine va_getN (D := D) (ci := 8) (v := .int t.2.2.2.1) (C := RX9) (T := TX9) (N := 5) hx hb hts inX9 hown hK hP 8 rfl rfl 4 (by decide) (k2 _) (fun _ h9 => h9) rfl dX2_isNamed_7 ?_
  refine lv_icmp_eq (tgt := 15) hx hb dX2_isNamed_10 (by decide) (fun c2 => ?_) (fun c2 => ?_)
  · have hE := if_t c2 hE
    refine lv_iconst (v := 0) hx hb dX2_isNamed_15 (by decide +kernel) ?_
    refine lv_istore_n (lv' := [(3, .int 0), (0, .ref h), (1, .int x1), (2, .ref b)]) hx hb dX2_isNamed_16 rfl hl (by decide) rfl (fun ls hl => ?_)
    exact w17 FU x1 0 d t H locs ls hP hD hS (lv_sub hl [1, 2, 3, 0] rfl) hE
  · have hE := if_f c2 hE
    refine lv_iconst (v := 0) hx hb dX2_isNamed_13 (by decide +kernel) ?_
    obtain rfl := Option.some.inj hE
    exact rt_n hx hb hr (by decide +kernel) hP hS rfl hlocks dX2_isNamed_14
set_option maxRecDepth 20000 in
theorem hX2_isSpelled_X9_nameAt_57 : GoodIn wsX2_isSpelled (wsV RX2 57 RX9 yX9_nameAt wsX9_nameAt) := goodIn_r _ [50, 51, 52, 53, 54, 55, 56, 57, 58, 59, 60, 61] rfl (by decide +kernel)
set_option maxHeartbeats 4000000 in
set_option maxRecDepth 100000 in
theorem c_X2_isSpelled (l : Launch) (D : va_G) (cA : Nat → ClassId) (ad adK adV : Nat → Nat) (tA tS : Nat) (h : Nat) (a1 : Nat) (a2 : Nat) (a3 : Nat) (a4 : Nat) (a5 : Nat) (a6 : Nat) (a7 : Nat) (b : Nat) (b1 : Nat) (sz : Nat) (w1 : Nat) (d : tD) (t : tT) (u : Int32) (hE : f_X2_isSpelled w1 t = some u) : Met l yX2_isSpelled wsX2_isSpelled ({ frames := 4, cells := 0, slots := 0, locals := 85 }) (va_Pc [.ref h, .ref (adK w1), .ref b] (PRE D cA (wDT h a1 a2 a3 a4 a5 a6 a7 b b1 cA d t) sz (fun U => SX ad adK adV tA tS (va_A (wDT h a1 a2 a3 a4 a5 a6 a7 b b1 cA d t) sz) U U.heap))) (cQi D (wDT h a1 a2 a3 a4 a5 a6 a7 b b1 cA d t) (va_A (wDT h a1 a2 a3 a4 a5 a6 a7 b b1 cA d t) sz) u) 0 0 (va_A (wDT h a1 a2 a3 a4 a5 a6 a7 b b1 cA d t) sz) := by
  refine Met.ofW (cc := cX2_isSpelled) (maxL := 4) (ret := (some .boolean)) (by decide) rfl ?_
  intro PP EE S0 MM args below meth CC S1 B hml hv
  obtain ⟨rfl, hsz, hP, hK, hD0, hX⟩ := hv
  have hx := B.exec
  have hb := B.bytes
  have hr := B.returns
  have hts := atoms_spec (ws := wsX2_isSpelled) B.pre
  have hown : S0.vm.findClass RX2 = some MM.cls := findClass_of_methodNamed B.named
  have hlocks := B.notSynchronized
  subst hsz
  have hD := hD0.self (sz := S0.heap.size)
  have hX : SX ad adK adV tA tS (va_A (wDT h a1 a2 a3 a4 a5 a6 a7 b b1 cA d t) S0.heap.size) S0 S0.heap := hX
  generalize hAe : va_A (wDT h a1 a2 a3 a4 a5 a6 a7 b b1 cA d t) S0.heap.size = A at hD hX ⊢
  have hA : ∀ q : Nat, S0.heap.size ≤ q → A q := fun q h => by rw [← hAe]; exact Or.inr h
  have hS : va_S A S0.heap S0.heap [] := va_S.rf
  have k0 := hX.nest (.fieldLinkNest RX2 54 "WordForge$Text" "nameLength" "I" "WordForge") (List.mem_of_getElem? (i := 0) rfl)
  have inX9 : ∀ w ∈ wsX90, w ∈ wsX2_isSpelled := fun _ h => List.mem_cons_of_mem _ (List.mem_append_right _ h)
  have hl := lv_entry ([.ref h, .ref (adK w1), .ref b]) (n := 4) (Nat.le_of_ble_eq_true rfl)
  rw [lg_entry_eq]
  generalize (lg_sl ([.ref h, .ref (adK w1), .ref b]) ++ List.replicate (4 - (lg_sl ([.ref h, .ref (adK w1), .ref b])).length) Slot.unset).toArray = ls at hl ⊢
  have hl : lv_has ls 4 [(0, .ref h), (1, .ref (adK w1)), (2, .ref b)] := hl
  unfold f_X2_isSpelled at hE
  have ⟨hw1, hE⟩ := ck_some hE
  have w15 : ∀ (n : Nat), ∀ (y3 : Int32) (t : tT) (H : Heap) (locs : List Loc) (ls : Array Slot), va_P D vwCl (wDT h a1 a2 a3 a4 a5 a6 a7 b b1 cA d t) H → va_D A (wDT h a1 a2 a3 a4 a5 a6 a7 b b1 cA d t) → va_S A S0.heap H locs → lv_has ls 4 [(1, .ref (adK w1)), (2, .ref b), (3, .int y3)] → b_X2_isSpelled_15 w1 n y3 t = some u → W PP l EE (headSpec wsX2_isSpelled ({ frames := 4, cells := 0, slots := 0, locals := 85 })).room S0 MM (#[.ref h, .ref (adK w1), .ref b] : Array Value) below meth CC H locs 0 0 (MQ below (cQi D (wDT h a1 a2 a3 a4 a5 a6 a7 b b1 cA d t) A u) (#[.ref h, .ref (adK w1), .ref b] : Array Value) S0 0 0 A) (F0 MM 15 ls []) := by
    intro  n
    induction n with
    | zero => intros; rename_i hE; exact absurd hE (by simp [b_X2_isSpelled_15])
    | succ n ih15 =>
      intro y3 t
      intro H locs ls hP hD hS hl hE
      unfold b_X2_isSpelled_15 at hE
      refine lv_iload_n hx hb dX2_isSpelled_15 rfl (lv_at hl 2 rfl) ?_
      refine lv_aload_n hx hb dX2_isSpelled_16 rfl (lv_at hl 0 rfl) ?_
      refine co_i (As := []) (rest := [.int y3]) (r := nI (sLen w1)) ⟨hx, hb, hml, hown, hts⟩ (c_strlen l w1 (adK w1) (adV w1) H.size) (cwV 0 hts gX2_isSpelled_J0_length_8abf5 rfl rfl rfl (by decide +kernel) ⟨Nat.le_of_ble_eq_true rfl, Nat.le_of_ble_eq_true rfl⟩) rfl hl.1 rfl (Nat.le_of_ble_eq_true rfl) dX2_isSpelled_17 ⟨Nat.zero_le _, Nat.zero_le _⟩ hP hD hS hA (recvO (hX.2.2.2.2.2.2.1 w1 hw1).2.2.2.2.1 hS) PS_blind (PS_call hX hw1 hS hA) (fun H locs hP hD hS => ?_)
      refine lv_icmp_ge (tgt := 44) hx hb dX2_isSpelled_20 (by decide) (fun c2 => ?_) (fun c2 => ?_)
      · have hE := if_t c2 hE
        refine lv_iconst (v := 1) hx hb dX2_isSpelled_44 (by decide +kernel) ?_
        obtain rfl := Option.some.inj hE
        exact rt_n hx hb hr (by decide +kernel) hP hS rfl hlocks dX2_isSpelled_45
      · have hE := if_f c2 hE
        refine lv_aload_n hx hb dX2_isSpelled_23 rfl (lv_at hl 0 rfl) ?_
        refine lv_iload_n hx hb dX2_isSpelled_24 rfl (lv_at hl 2 rfl) ?_
        have ⟨c3, hE⟩ := ck_some hE
        refine co_i (As := [.int y3]) (rest := []) (r := sChr w1 y3.toNatClampNeg) ⟨hx, hb, hml, hown, hts⟩ (c_charAt l w1 (adK w1) (adV w1) H.size y3 c3) (cwV 1 hts gX2_isSpelled_J0_charAt_5068e rfl rfl rfl (by decide +kernel) ⟨Nat.le_of_ble_eq_true rfl, Nat.le_of_ble_eq_true rfl⟩) rfl hl.1 rfl (Nat.le_of_ble_eq_true rfl) dX2_isSpelled_25 ⟨Nat.zero_le _, Nat.zero_le _⟩ hP hD hS hA (recvO (hX.2.2.2.2.2.2.1 w1 hw1).2.2.2.2.1 hS) PS_blind (PS_call hX hw1 hS hA) (fun H locs hP hD hS => ?_)
        refine lv_aload_n hx hb dX2_isSpelled_28 rfl (lv_at hl 1 rfl) ?_
        refine lv_iload_n hx hb dX2_isSpelled_29 rfl (lv_at hl 2 rfl) ?_
        obtain ⟨u4, h5, hE⟩ := bd_some hE
        refine cn_i (As := [.int y3]) (rest := [.int (sChr w1 y3.toNatClampNeg)]) (r := u4) (w0 := (wDT h a1 a2 a3 a4 a5 a6 a7 b b1 cA d t)) (N := 10) ⟨hx, hb, hml, hown, hts⟩ (c_X9_nameAt l D cA b b1 H.size y3 t u4 h5) (cwV 1 hts hX2_isSpelled_X9_nameAt_57 rfl rfl rfl (by decide +kernel) ⟨Nat.le_of_ble_eq_true rfl, Nat.le_of_ble_eq_true rfl⟩) rfl hl.1 rfl (Nat.le_of_ble_eq_true rfl) dX2_isSpelled_30 ⟨Nat.zero_le _, Nat.zero_le _⟩ hK hP hD hS hA (va_recv hK hP (ci := 8) (q0 := 8) rfl rfl) [8, 9] [0, 1, 2, 3, 4, 5, 6, 7] (wDT h a1 a2 a3 a4 a5 a6 a7 b b1 cA d t) rfl (by decide +kernel) rfl (wr := List.filterMap (fun i => (wDT h a1 a2 a3 a4 a5 a6 a7 b b1 cA d t)[i]?) [0, 1, 2, 3, 4, 5, 6, 7]) rfl rfl (by decide +kernel) rfl (by decide +kernel) [h, a1, a2, a3, a4, a5, a6, a7, b, b1] rfl rfl (fun _ _ _ _ h => h) (fun _ _ _ => trivial) (fun H locs hP hD hS => ?_)
        have hP : va_P D vwCl (wDT h a1 a2 a3 a4 a5 a6 a7 b b1 cA d t) H := hP
        have hD : va_D A (wDT h a1 a2 a3 a4 a5 a6 a7 b b1 cA d t) := hD
        refine lv_icmp_eq (tgt := 38) hx hb dX2_isSpelled_33 (by decide) (fun c6 => ?_) (fun c6 => ?_)
        · have hE := if_t c6 hE
          refine lv_iinc (v := y3 + 1) (lv' := [(3, .int (y3 + 1)), (1, .ref (adK w1)), (2, .ref b)]) hx hb dX2_isSpelled_38 hl (k := 2) rfl rfl (by decide) rfl (fun ls hl => ?_)
          refine lv_goto (tgt := 15) hx hb dX2_isSpelled_41 (by decide) ?_
          exact ih15 (y3 + 1) t H locs ls hP hD hS (lv_sub hl [1, 2, 0] rfl) hE
        · have hE := if_f c6 hE
          refine lv_iconst (v := 0) hx hb dX2_isSpelled_36 (by decide +kernel) ?_
          obtain rfl := Option.some.inj hE
          exact rt_n hx hb hr (by decide +kernel) hP hS rfl hlocks dX2_isSpelled_37
  suffices main : ∀ (H : Heap) (locs : List Loc) (ls : Array Slot), va_P D vwCl (wDT h a1 a2 a3 a4 a5 a6 a7 b b1 cA d t) H → va_D A (wDT h a1 a2 a3 a4 a5 a6 a7 b b1 cA d t) → va_S A S0.heap H locs → lv_has ls 4 [(0, .ref h), (1, .ref (adK w1)), (2, .ref b)] → W PP l EE (headSpec wsX2_isSpelled ({ frames := 4, cells := 0, slots := 0, locals := 85 })).room S0 MM (#[.ref h, .ref (adK w1), .ref b] : Array Value) below meth CC H locs 0 0 (MQ below (cQi D (wDT h a1 a2 a3 a4 a5 a6 a7 b b1 cA d t) A u) (#[.ref h, .ref (adK w1), .ref b] : Array Value) S0 0 0 A) (F0 MM 0 ls []) from main _ _ _ hP hD hS hl
  intro H locs ls hP hD hS hl
  refine lv_aload_n hx hb dX2_isSpelled_0 rfl (lv_at hl 1 rfl) ?_
  refine co_i (As := []) (rest := []) (r := nI (sLen w1)) ⟨hx, hb, hml, hown, hts⟩ (c_strlen l w1 (adK w1) (adV w1) H.size) (cwV 0 hts gX2_isSpelled_J0_length_8abf5 rfl rfl rfl (by decide +kernel) ⟨Nat.le_of_ble_eq_true rfl, Nat.le_of_ble_eq_true rfl⟩) rfl hl.1 rfl (Nat.le_of_ble_eq_true rfl) dX2_isSpelled_1 ⟨Nat.zero_le _, Nat.zero_le _⟩ hP hD hS hA (recvO (hX.2.2.2.2.2.2.1 w1 hw1).2.2.2.2.1 hS) PS_blind (PS_call hX hw1 hS hA) (fun H locs hP hD hS => ?_)
  refine lv_aload_n hx hb dX2_isSpelled_4 rfl (lv_at hl 2 rfl) ?_
  refine va_getN (D := D) (ci := 8) (v := .int t.2.2.2.1) (C := RX9) (T := TX9) (N := 5) hx hb hts inX9 hown hK hP 8 rfl rfl 4 (by decide) (k0 _) (fun _ h9 => h9) rfl dX2_isSpelled_5 ?_
  refine lv_icmp_eq (tgt := 13) hx hb dX2_isSpelled_8 (by decide) (fun c1 => ?_) (fun c1 => ?_)
  · have hE := if_t c1 hE
    refine lv_iconst (v := 0) hx hb dX2_isSpelled_13 (by decide +kernel) ?_
    refine lv_istore_n (lv' := [(3, .int 0), (0, .ref h), (1, .ref (adK w1)), (2, .ref b)]) hx hb dX2_isSpelled_14 rfl hl (by decide) rfl (fun ls hl => ?_)
    exact w15 FU 0 t H locs ls hP hD hS (lv_sub hl [2, 3, 0] rfl) hE
  · have hE := if_f c1 hE
    refine lv_iconst (v := 0) hx hb dX2_isSpelled_11 (by decide +kernel) ?_
    obtain rfl := Option.some.inj hE
    exact rt_n hx hb hr (by decide +kernel) hP hS rfl hlocks dX2_isSpelled_12
set_option maxRecDepth 20000 in
theorem hX2_find_X2_isNamed_68 : GoodIn wsX2_find (wsV RX2 68 RX2 yX2_isNamed wsX2_isNamed) := goodIn_r _ [3, 4, 5, 6, 7, 8, 9, 10, 11, 12, 13, 14, 15, 16, 70, 71, 72, 73, 74, 75, 76, 77, 78, 79, 80, 81, 82] rfl (by decide +kernel)
set_option maxRecDepth 20000 in
theorem hX2_find_X2_isSpelled_76 : GoodIn wsX2_find (wsV RX2 76 RX2 yX2_isSpelled wsX2_isSpelled) := goodIn_r _ [17, 18, 19, 6, 20, 21, 22, 23, 24, 25, 26, 27, 28, 29, 30, 31, 32, 33, 34, 35, 36, 37, 38, 39, 40, 41, 42, 43, 44, 45, 46, 47, 48, 49, 50, 51, 52, 53, 54, 55, 56, 57, 58, 59, 60, 61, 62, 63, 64, 65, 66, 67, 68, 69, 10, 11, 12, 13, 14, 15, 16, 78, 79, 80, 81, 82] rfl (by decide +kernel)
set_option maxHeartbeats 4000000 in
set_option maxRecDepth 100000 in
theorem c_X2_find (l : Launch) (D : va_G) (cA : Nat → ClassId) (ad adK adV : Nat → Nat) (tA tS : Nat) (h : Nat) (a1 : Nat) (a2 : Nat) (a3 : Nat) (a4 : Nat) (a5 : Nat) (a6 : Nat) (a7 : Nat) (b : Nat) (b1 : Nat) (sz : Nat) (d : tD) (t : tT) (u : Int32) (hE : f_X2_find d t = some u) : Met l yX2_find wsX2_find ({ frames := 5, cells := 0, slots := 0, locals := 108 }) (va_Pc [.ref h, .ref b] (PRE D cA (wDT h a1 a2 a3 a4 a5 a6 a7 b b1 cA d t) sz (fun U => SX ad adK adV tA tS (va_A (wDT h a1 a2 a3 a4 a5 a6 a7 b b1 cA d t) sz) U U.heap))) (cQi D (wDT h a1 a2 a3 a4 a5 a6 a7 b b1 cA d t) (va_A (wDT h a1 a2 a3 a4 a5 a6 a7 b b1 cA d t) sz) u) 0 0 (va_A (wDT h a1 a2 a3 a4 a5 a6 a7 b b1 cA d t) sz) := by
  refine Met.ofW (cc := cX2_find) (maxL := 3) (ret := (some .int)) (by decide) rfl ?_
  intro PP EE S0 MM args below meth CC S1 B hml hv
  obtain ⟨rfl, hsz, hP, hK, hD0, hX⟩ := hv
  have hx := B.exec
  have hb := B.bytes
  have hr := B.returns
  have hts := atoms_spec (ws := wsX2_find) B.pre
  have hown : S0.vm.findClass RX2 = some MM.cls := findClass_of_methodNamed B.named
  have hlocks := B.notSynchronized
  subst hsz
  have hD := hD0.self (sz := S0.heap.size)
  have hX : SX ad adK adV tA tS (va_A (wDT h a1 a2 a3 a4 a5 a6 a7 b b1 cA d t) S0.heap.size) S0 S0.heap := hX
  generalize hAe : va_A (wDT h a1 a2 a3 a4 a5 a6 a7 b b1 cA d t) S0.heap.size = A at hD hX ⊢
  have hA : ∀ q : Nat, S0.heap.size ≤ q → A q := fun q h => by rw [← hAe]; exact Or.inr h
  have hS : va_S A S0.heap S0.heap [] := va_S.rf
  have k0 := hts (.fieldLink RX2 37 "WordForge$Dictionary" "size" "I") (List.mem_of_getElem? (i := 1) rfl)
  have inX2 : ∀ w ∈ wsX20, w ∈ wsX2_find := fun _ h => List.mem_cons_of_mem _ (List.mem_append_left _ (List.mem_append_right _ h))
  have k2 := hts (.fieldLink RX2 34 "WordForge$Dictionary" "finished" "[Z") (List.mem_of_getElem? (i := 2) rfl)
  have k3 := hX.nest (.fieldLinkNest RX2 41 "WordForge$Word" "ALL" "[LWordForge$Word;" "WordForge") (List.mem_of_getElem? (i := 38) rfl)
  have k4 := hX.nest (.fieldLinkNest RX2 72 "WordForge$Word" "spelling" "Ljava/lang/String;" "WordForge") (List.mem_of_getElem? (i := 40) rfl)
  have hl := lv_entry ([.ref h, .ref b]) (n := 3) (Nat.le_of_ble_eq_true rfl)
  rw [lg_entry_eq]
  generalize (lg_sl ([.ref h, .ref b]) ++ List.replicate (3 - (lg_sl ([.ref h, .ref b])).length) Slot.unset).toArray = ls at hl ⊢
  have hl : lv_has ls 3 [(0, .ref h), (1, .ref b)] := hl
  have w36 : ∀ (K7 : Int32 → tD → tT → Option (Int32)) (_ : ∀ (y2 : Int32) (d : tD) (t : tT) (H : Heap) (locs : List Loc) (ls : Array Slot), va_P D vwCl (wDT h a1 a2 a3 a4 a5 a6 a7 b b1 cA d t) H → va_D A (wDT h a1 a2 a3 a4 a5 a6 a7 b b1 cA d t) → va_S A S0.heap H locs → lv_has ls 3 [(0, .ref h), (1, .ref b), (2, .int y2)] → K7 y2 d t = some u → W PP l EE (headSpec wsX2_find ({ frames := 5, cells := 0, slots := 0, locals := 108 })).room S0 MM (#[.ref h, .ref b] : Array Value) below meth CC H locs 0 0 (MQ below (cQi D (wDT h a1 a2 a3 a4 a5 a6 a7 b b1 cA d t) A u) (#[.ref h, .ref b] : Array Value) S0 0 0 A) (F0 MM 7 ls [])), ∀ (y2 : Int32) (d : tD) (t : tT) (H : Heap) (locs : List Loc) (ls : Array Slot), va_P D vwCl (wDT h a1 a2 a3 a4 a5 a6 a7 b b1 cA d t) H → va_D A (wDT h a1 a2 a3 a4 a5 a6 a7 b b1 cA d t) → va_S A S0.heap H locs → lv_has ls 3 [(0, .ref h), (1, .ref b), (2, .int y2)] → b_X2_find_36 K7 y2 d t = some u → W PP l EE (headSpec wsX2_find ({ frames := 5, cells := 0, slots := 0, locals := 108 })).room S0 MM (#[.ref h, .ref b] : Array Value) below meth CC H locs 0 0 (MQ below (cQi D (wDT h a1 a2 a3 a4 a5 a6 a7 b b1 cA d t) A u) (#[.ref h, .ref b] : Array Value) S0 0 0 A) (F0 MM 36 ls []) := by
    intro K7 hK7
    intro y2 d t
    intro H locs ls hP hD hS hl hE
    unfold b_X2_find_36 at hE
    refine lv_iinc (v := y2 + (-1)) (lv' := [(2, .int (y2 + (-1))), (0, .ref h), (1, .ref b)]) hx hb dX2_find_36 hl (k := 2) rfl rfl (by decide) rfl (fun ls hl => ?_)
    refine lv_goto (tgt := 7) hx hb dX2_find_39 (by decide) ?_
    exact hK7 (y2 + (-1)) d t H locs ls hP hD hS (lv_sub hl [1, 2, 0] rfl) hE
  have w44 : ∀ (n : Nat), ∀ (y2 : Int32) (d : tD) (t : tT) (H : Heap) (locs : List Loc) (ls : Array Slot), va_P D vwCl (wDT h a1 a2 a3 a4 a5 a6 a7 b b1 cA d t) H → va_D A (wDT h a1 a2 a3 a4 a5 a6 a7 b b1 cA d t) → va_S A S0.heap H locs → lv_has ls 3 [(0, .ref h), (1, .ref b), (2, .int y2)] → b_X2_find_44 n y2 d t = some u → W PP l EE (headSpec wsX2_find ({ frames := 5, cells := 0, slots := 0, locals := 108 })).room S0 MM (#[.ref h, .ref b] : Array Value) below meth CC H locs 0 0 (MQ below (cQi D (wDT h a1 a2 a3 a4 a5 a6 a7 b b1 cA d t) A u) (#[.ref h, .ref b] : Array Value) S0 0 0 A) (F0 MM 44 ls []) := by
    intro  n
    induction n with
    | zero => intros; rename_i hE; exact absurd hE (by simp [b_X2_find_44])
    | succ n ih44 =>
      intro y2 d t
      intro H locs ls hP hD hS hl hE
      unfold b_X2_find_44 at hE
      refine lv_iload_n hx hb dX2_find_44 rfl (lv_at hl 2 rfl) ?_
      refine va_getsN hx hb hX.2.1 hS hown (k3 _) (fun _ h9 => h9) dX2_find_45 ?_
      refine va_tlen hx hb hX.2.2.1 hS (v := 82) (by decide +kernel) dX2_find_48 ?_
      refine lv_icmp_ge (tgt := 76) hx hb dX2_find_49 (by decide) (fun c7 => ?_) (fun c7 => ?_)
      · have hE := if_t c7 hE
        refine lv_iconst (v := (-1)) hx hb dX2_find_76 (by decide +kernel) ?_
        obtain rfl := Option.some.inj hE
        exact rt_i hx hb hr hP hS rfl hlocks dX2_find_77
      · have hE := if_f c7 hE
        refine lv_aload_n hx hb dX2_find_52 rfl (lv_at hl 0 rfl) ?_
        refine va_getsN hx hb hX.2.1 hS hown (k3 _) (fun _ h9 => h9) dX2_find_53 ?_
        refine lv_iload_n hx hb dX2_find_56 rfl (lv_at hl 2 rfl) ?_
        have ⟨c8, hE⟩ := ck_some hE
        refine vb_tq hx hb hX.2.2.1 hS c8 rfl dX2_find_57 ?_
        refine vk_getfN (v := .ref (adK y2.toNatClampNeg)) hx hb (hX.2.2.2.2.2.2.1 y2.toNatClampNeg (Nat.not_le.mp (fun q => c8 (Or.inr q)))).2.2.2.1 hS hown (k4 _) (fun _ h9 => h9) dX2_find_58 ?_
        refine lv_aload_n hx hb dX2_find_61 rfl (lv_at hl 1 rfl) ?_
        obtain ⟨u9, h10, hE⟩ := bd_some hE
        refine cw_i (As := [.ref (adK y2.toNatClampNeg), .ref b]) (rest := []) (r := u9) (wc := (wDT h a1 a2 a3 a4 a5 a6 a7 b b1 cA d t)) ⟨hx, hb, hml, hown, hts⟩ (c_X2_isSpelled l D cA ad adK adV tA tS h a1 a2 a3 a4 a5 a6 a7 b b1 H.size y2.toNatClampNeg d t u9 h10) (cwV 2 hts hX2_find_X2_isSpelled_76 rfl rfl rfl (by decide +kernel) ⟨Nat.le_of_ble_eq_true rfl, Nat.le_of_ble_eq_true rfl⟩) rfl hl.1 rfl (Nat.le_of_ble_eq_true rfl) dX2_find_62 ⟨Nat.zero_le _, Nat.zero_le _⟩ hK hP hD hS hA (va_recv hK hP (ci := 1) (q0 := 0) rfl rfl) [h, a1, a2, a3, a4, a5, a6, a7, b, b1] rfl rfl (fun a U g mk h => SX.blind a U g mk h) (fun U hU hW => SX.call hX hS (fun q h => h.elim (fun ⟨k, e, h⟩ => hD.2 k (q, e) h) (fun h => hA q (Nat.le_trans hS.1 h))) U hU hW) (fun H locs hP hD hS => ?_)
        have hP : va_P D vwCl (wDT h a1 a2 a3 a4 a5 a6 a7 b b1 cA d t) H := hP
        have hD : va_D A (wDT h a1 a2 a3 a4 a5 a6 a7 b b1 cA d t) := hD
        refine lv_if_eq (tgt := 70) hx hb dX2_find_65 (by decide) (fun c11 => ?_) (fun c11 => ?_)
        · have hE := if_t c11 hE
          refine lv_iinc (v := y2 + 1) (lv' := [(2, .int (y2 + 1)), (0, .ref h), (1, .ref b)]) hx hb dX2_find_70 hl (k := 2) rfl rfl (by decide) rfl (fun ls hl => ?_)
          refine lv_goto (tgt := 44) hx hb dX2_find_73 (by decide) ?_
          exact ih44 (y2 + 1) d t H locs ls hP hD hS (lv_sub hl [1, 2, 0] rfl) hE
        · have hE := if_f c11 hE
          refine lv_iload_n hx hb dX2_find_68 rfl (lv_at hl 2 rfl) ?_
          obtain rfl := Option.some.inj hE
          exact rt_i hx hb hr hP hS rfl hlocks dX2_find_69
  have w7 : ∀ (n : Nat), ∀ (y2 : Int32) (d : tD) (t : tT) (H : Heap) (locs : List Loc) (ls : Array Slot), va_P D vwCl (wDT h a1 a2 a3 a4 a5 a6 a7 b b1 cA d t) H → va_D A (wDT h a1 a2 a3 a4 a5 a6 a7 b b1 cA d t) → va_S A S0.heap H locs → lv_has ls 3 [(0, .ref h), (1, .ref b), (2, .int y2)] → b_X2_find_7 n y2 d t = some u → W PP l EE (headSpec wsX2_find ({ frames := 5, cells := 0, slots := 0, locals := 108 })).room S0 MM (#[.ref h, .ref b] : Array Value) below meth CC H locs 0 0 (MQ below (cQi D (wDT h a1 a2 a3 a4 a5 a6 a7 b b1 cA d t) A u) (#[.ref h, .ref b] : Array Value) S0 0 0 A) (F0 MM 7 ls []) := by
    intro  n
    induction n with
    | zero => intros; rename_i hE; exact absurd hE (by simp [b_X2_find_7])
    | succ n ih7 =>
      intro y2 d t
      intro H locs ls hP hD hS hl hE
      unfold b_X2_find_7 at hE
      refine lv_iload_n hx hb dX2_find_7 rfl (lv_at hl 2 rfl) ?_
      refine lv_if_lt (tgt := 42) hx hb dX2_find_8 (by decide) (fun c1 => ?_) (fun c1 => ?_)
      · have hE := if_t c1 hE
        refine lv_iconst (v := 0) hx hb dX2_find_42 (by decide +kernel) ?_
        refine lv_istore_n (lv' := [(2, .int 0), (0, .ref h), (1, .ref b)]) hx hb dX2_find_43 rfl hl (by decide) rfl (fun ls hl => ?_)
        exact w44 FU 0 d t H locs ls hP hD hS (lv_sub hl [1, 2, 0] rfl) hE
      · have hE := if_f c1 hE
        refine lv_aload_n hx hb dX2_find_11 rfl (lv_at hl 0 rfl) ?_
        refine va_get (D := D) (ci := 1) (v := .ref a7) (C := RX2) (T := TX2) (N := 8) hx hb hts inX2 hown hK hP 0 rfl rfl 6 (by decide) k2 (fun _ h9 => h9) rfl dX2_find_12 ?_
        refine lv_iload_n hx hb dX2_find_15 rfl (lv_at hl 2 rfl) ?_
        have ⟨c2, hE⟩ := ck_some hE
        refine va_zald hx hb hK hP 7 1 rfl rfl c2 dX2_find_16 ?_
        refine lv_if_eq (tgt := 36) hx hb dX2_find_17 (by decide) (fun c3 => ?_) (fun c3 => ?_)
        · have hE := if_t c3 hE
          exact w36 (b_X2_find_7 n) ih7 y2 d t H locs ls hP hD hS (lv_sub hl [0, 1, 2] rfl) hE
        · have hE := if_f c3 hE
          refine lv_aload_n hx hb dX2_find_20 rfl (lv_at hl 0 rfl) ?_
          refine lv_iload_n hx hb dX2_find_21 rfl (lv_at hl 2 rfl) ?_
          refine lv_aload_n hx hb dX2_find_22 rfl (lv_at hl 1 rfl) ?_
          obtain ⟨u4, h5, hE⟩ := bd_some hE
          refine cw_i (As := [.int y2, .ref b]) (rest := []) (r := u4) (wc := (wDT h a1 a2 a3 a4 a5 a6 a7 b b1 cA d t)) ⟨hx, hb, hml, hown, hts⟩ (c_X2_isNamed l D cA ad adK adV tA tS h a1 a2 a3 a4 a5 a6 a7 b b1 H.size y2 d t u4 h5) (cwV 2 hts hX2_find_X2_isNamed_68 rfl rfl rfl (by decide +kernel) ⟨Nat.le_of_ble_eq_true rfl, Nat.le_of_ble_eq_true rfl⟩) rfl hl.1 rfl (Nat.le_of_ble_eq_true rfl) dX2_find_23 ⟨Nat.zero_le _, Nat.zero_le _⟩ hK hP hD hS hA (va_recv hK hP (ci := 1) (q0 := 0) rfl rfl) [h, a1, a2, a3, a4, a5, a6, a7, b, b1] rfl rfl (fun a U g mk h => SX.blind a U g mk h) (fun U hU hW => SX.call hX hS (fun q h => h.elim (fun ⟨k, e, h⟩ => hD.2 k (q, e) h) (fun h => hA q (Nat.le_trans hS.1 h))) U hU hW) (fun H locs hP hD hS => ?_)
          have hP : va_P D vwCl (wDT h a1 a2 a3 a4 a5 a6 a7 b b1 cA d t) H := hP
          have hD : va_D A (wDT h a1 a2 a3 a4 a5 a6 a7 b b1 cA d t) := hD
          refine lv_if_eq (tgt := 36) hx hb dX2_find_26 (by decide) (fun c6 => ?_) (fun c6 => ?_)
          · have hE := if_t c6 hE
            exact w36 (b_X2_find_7 n) ih7 y2 d t H locs ls hP hD hS (lv_sub hl [0, 1, 2] rfl) hE
          · have hE := if_f c6 hE
            refine va_getsN hx hb hX.2.1 hS hown (k3 _) (fun _ h9 => h9) dX2_find_29 ?_
            refine va_tlen hx hb hX.2.2.1 hS (v := 82) (by decide +kernel) dX2_find_32 ?_
            refine lv_iload_n hx hb dX2_find_33 rfl (lv_at hl 2 rfl) ?_
            refine lv_iadd hx hb dX2_find_34 ?_
            obtain rfl := Option.some.inj hE
            exact rt_i hx hb hr hP hS rfl hlocks dX2_find_35
  unfold f_X2_find at hE
  suffices main : ∀ (H : Heap) (locs : List Loc) (ls : Array Slot), va_P D vwCl (wDT h a1 a2 a3 a4 a5 a6 a7 b b1 cA d t) H → va_D A (wDT h a1 a2 a3 a4 a5 a6 a7 b b1 cA d t) → va_S A S0.heap H locs → lv_has ls 3 [(0, .ref h), (1, .ref b)] → W PP l EE (headSpec wsX2_find ({ frames := 5, cells := 0, slots := 0, locals := 108 })).room S0 MM (#[.ref h, .ref b] : Array Value) below meth CC H locs 0 0 (MQ below (cQi D (wDT h a1 a2 a3 a4 a5 a6 a7 b b1 cA d t) A u) (#[.ref h, .ref b] : Array Value) S0 0 0 A) (F0 MM 0 ls []) from main _ _ _ hP hD hS hl
  intro H locs ls hP hD hS hl
  refine lv_aload_n hx hb dX2_find_0 rfl (lv_at hl 0 rfl) ?_
  refine va_get (D := D) (ci := 1) (v := .int d.1) (C := RX2) (T := TX2) (N := 8) hx hb hts inX2 hown hK hP 0 rfl rfl 7 (by decide) k0 (fun _ h9 => h9) rfl dX2_find_1 ?_
  refine lv_iconst (v := 1) hx hb dX2_find_4 (by decide +kernel) ?_
  refine lv_isub hx hb dX2_find_5 ?_
  refine lv_istore_n (lv' := [(2, .int (d.1 - 1)), (0, .ref h), (1, .ref b)]) hx hb dX2_find_6 rfl hl (by decide) rfl (fun ls hl => ?_)
  exact w7 FU (d.1 - 1) d t H locs ls hP hD hS (lv_sub hl [1, 2, 0] rfl) hE
