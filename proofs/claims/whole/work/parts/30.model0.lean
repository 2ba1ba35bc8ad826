set_option maxHeartbeats 4000000 in
set_option maxRecDepth 100000 in
theorem c_X12_thrown (l : Launch) (D : va_G) (cA : Nat → ClassId) (g : Nat → Nat) (sz : Nat) (t : mT) (s : mS) (r : mR) (c : mC) (y : mY) (d : mD) (k : mK) (q : mP) (o : mO) (m : mM) (u : Int32) (hE : f_X12_thrown m = some u) : Met l yX12_thrown wsX12_thrown ({ frames := 0, cells := 0, slots := 0, locals := 0 }) (va_Pc [.ref (g 0)] (PRE D cA (wX g cA t s r c y d k q o m) sz (fun _ => True))) (cQi D (wX g cA t s r c y d k q o m) (va_A (wX g cA t s r c y d k q o m) sz) u) 0 0 (va_A (wX g cA t s r c y d k q o m) sz) := by
  refine Met.ofW (cc := cX12_thrown) (maxL := 1) (ret := (some .int)) (by decide) rfl ?_
  intro PP EE S0 MM args below meth CC S1 B hml hv
  obtain ⟨rfl, hsz, hP, hK, hD0, hX⟩ := hv
  have hx := B.exec
  have hb := B.bytes
  have hr := B.returns
  have hts := atoms_spec (ws := wsX12_thrown) B.pre
  have hown : S0.vm.findClass RX12 = some MM.cls := findClass_of_methodNamed B.named
  have hlocks := B.notSynchronized
  subst hsz
  have hD := hD0.self (sz := S0.heap.size)
  generalize hAe : va_A (wX g cA t s r c y d k q o m) S0.heap.size = A at hD ⊢
  have hA : ∀ q : Nat, S0.heap.size ≤ q → A q := fun q h => by rw [← hAe]; exact Or.inr h
  have hS : va_S A S0.heap S0.heap [] := va_S.rf
  have k0 := hts (.fieldLink RX12 215 "WordForgeModel" "thrown" "I") (List.mem_of_getElem? (i := 1) rfl)
  have inX12 : ∀ w ∈ wsX120, w ∈ wsX12_thrown := fun _ h => List.mem_cons_of_mem _ (List.mem_append_right _ h)
  have hl := lv_entry ([.ref (g 0)]) (n := 1) (Nat.le_of_ble_eq_true rfl)
  rw [lg_entry_eq]
  generalize (lg_sl ([.ref (g 0)]) ++ List.replicate (1 - (lg_sl ([.ref (g 0)])).length) Slot.unset).toArray = ls at hl ⊢
  have hl : lv_has ls 1 [(0, .ref (g 0))] := hl
  unfold f_X12_thrown at hE
  suffices main : ∀ (H : Heap) (locs : List Loc) (ls : Array Slot), va_P D vwCl (wX g cA t s r c y d k q o m) H → va_D A (wX g cA t s r c y d k q o m) → va_S A S0.heap H locs → lv_has ls 1 [(0, .ref (g 0))] → W PP l EE (headSpec wsX12_thrown ({ frames := 0, cells := 0, slots := 0, locals := 0 })).room S0 MM (#[.ref (g 0)] : Array Value) below meth CC H locs 0 0 (MQ below (cQi D (wX g cA t s r c y d k q o m) A u) (#[.ref (g 0)] : Array Value) S0 0 0 A) (F0 MM 0 ls []) from main _ _ _ hP hD hS hl
  intro H locs ls hP hD hS hl
  refine lv_aload_n hx hb dX12_thrown_0 rfl (lv_at hl 0 rfl) ?_
  refine va_get (D := D) (ci := 10) (v := .int m.1) (C := RX12) (T := TX12) (N := 40) hx hb hts inX12 hown hK hP 0 rfl rfl 2 (by decide) k0 (fun _ h9 => h9) rfl dX12_thrown_1 ?_
  obtain rfl := Option.some.inj hE
  exact rt_i hx hb hr hP hS rfl hlocks dX12_thrown_4
set_option maxHeartbeats 4000000 in
set_option maxRecDepth 100000 in
theorem c_X12_type (l : Launch) (D : va_G) (cA : Nat → ClassId) (g : Nat → Nat) (sz : Nat) (x1 : Int32) (t : mT) (s : mS) (r : mR) (c : mC) (y : mY) (d : mD) (k : mK) (q : mP) (o : mO) (m : mM) (u : Int32 × mT × mM) (hE : f_X12_type x1 t m = some u) : Met l yX12_type wsX12_type ({ frames := 0, cells := 0, slots := 0, locals := 0 }) (va_Pc [.ref (g 0), .int x1] (PRE D cA (wX g cA t s r c y d k q o m) sz (fun _ => True))) (cQi D (wX g cA u.2.1 s r c y d k q o u.2.2) (va_A (wX g cA t s r c y d k q o m) sz) u.1) 0 0 (va_A (wX g cA t s r c y d k q o m) sz) := by
  refine Met.ofW (cc := cX12_type) (maxL := 2) (ret := (some .boolean)) (by decide) rfl ?_
  intro PP EE S0 MM args below meth CC S1 B hml hv
  obtain ⟨rfl, hsz, hP, hK, hD0, hX⟩ := hv
  have hx := B.exec
  have hb := B.bytes
  have hr := B.returns
  have hts := atoms_spec (ws := wsX12_type) B.pre
  have hown : S0.vm.findClass RX12 = some MM.cls := findClass_of_methodNamed B.named
  have hlocks := B.notSynchronized
  subst hsz
  have hD := hD0.self (sz := S0.heap.size)
  generalize hAe : va_A (wX g cA t s r c y d k q o m) S0.heap.size = A at hD ⊢
  have hA : ∀ q : Nat, S0.heap.size ≤ q → A q := fun q h => by rw [← hAe]; exact Or.inr h
  have hS : va_S A S0.heap S0.heap [] := va_S.rf
  have k0 := hts (.fieldLink RX12 215 "WordForgeModel" "thrown" "I") (List.mem_of_getElem? (i := 1) rfl)
  have inX12 : ∀ w ∈ wsX120, w ∈ wsX12_type := fun _ h => List.mem_cons_of_mem _ (List.mem_append_right _ h)
  have k2 := hts (.fieldLink RX12 219 "WordForgeModel" "size" "I") (List.mem_of_getElem? (i := 2) rfl)
  have k3 := hts (.fieldLink RX12 162 "WordForgeModel" "text" "[I") (List.mem_of_getElem? (i := 3) rfl)
  have hl := lv_entry ([.ref (g 0), .int x1]) (n := 2) (Nat.le_of_ble_eq_true rfl)
  rw [lg_entry_eq]
  generalize (lg_sl ([.ref (g 0), .int x1]) ++ List.replicate (2 - (lg_sl ([.ref (g 0), .int x1])).length) Slot.unset).toArray = ls at hl ⊢
  have hl : lv_has ls 2 [(0, .ref (g 0)), (1, .int x1)] := hl
  unfold f_X12_type at hE
  suffices main : ∀ (H : Heap) (locs : List Loc) (ls : Array Slot), va_P D vwCl (wX g cA t s r c y d k q o m) H → va_D A (wX g cA t s r c y d k q o m) → va_S A S0.heap H locs → lv_has ls 2 [(0, .ref (g 0)), (1, .int x1)] → W PP l EE (headSpec wsX12_type ({ frames := 0, cells := 0, slots := 0, locals := 0 })).room S0 MM (#[.ref (g 0), .int x1] : Array Value) below meth CC H locs 0 0 (MQ below (cQi D (wX g cA u.2.1 s r c y d k q o u.2.2) A u.1) (#[.ref (g 0), .int x1] : Array Value) S0 0 0 A) (F0 MM 0 ls []) from main _ _ _ hP hD hS hl
  intro H locs ls hP hD hS hl
  refine lv_aload_n hx hb dX12_type_0 rfl (lv_at hl 0 rfl) ?_
  refine lv_iconst (v := 0) hx hb dX12_type_1 (by decide +kernel) ?_
  refine va_put (D := D) (ci := 10) (v := .int 0) (ty := .int) (C := RX12) (T := TX12) (N := 40) hx hb hts inX12 tyX12 tyX12_ok nmX12 hown hK hP hD hS 0 rfl rfl 2 (by decide) k0 (fun _ h9 => h9) rfl (by decide +kernel) rfl rfl (Nat.le_of_ble_eq_true rfl) dX12_type_2 (fun H locs hP hD hS => ?_)
  have hP : va_P D vwCl (wX g cA t s r c y d k q o ((0, m.2.1, m.2.2.1, m.2.2.2.1, m.2.2.2.2.1, m.2.2.2.2.2.1, m.2.2.2.2.2.2))) H := hP
  have hD : va_D A (wX g cA t s r c y d k q o ((0, m.2.1, m.2.2.1, m.2.2.2.1, m.2.2.2.2.1, m.2.2.2.2.2.1, m.2.2.2.2.2.2))) := hD
  refine lv_aload_n hx hb dX12_type_5 rfl (lv_at hl 0 rfl) ?_
  refine va_get (D := D) (ci := 10) (v := .int t.1) (C := RX12) (T := TX12) (N := 40) hx hb hts inX12 hown hK hP 0 rfl rfl 4 (by decide) k2 (fun _ h9 => h9) rfl dX12_type_6 ?_
  refine lv_sipush (v := 200) hx hb dX12_type_9 (by decide +kernel) ?_
  refine lv_icmp_ne (tgt := 17) hx hb dX12_type_12 (by decide) (fun c1 => ?_) (fun c1 => ?_)
  · have hE := if_f c1 hE
    refine lv_aload_n hx hb dX12_type_17 rfl (lv_at hl 0 rfl) ?_
    refine va_get (D := D) (ci := 10) (v := .ref (g 3)) (C := RX12) (T := TX12) (N := 40) hx hb hts inX12 hown hK hP 0 rfl rfl 3 (by decide) k3 (fun _ h9 => h9) rfl dX12_type_18 ?_
    refine lv_aload_n hx hb dX12_type_21 rfl (lv_at hl 0 rfl) ?_
    refine va_get (D := D) (ci := 10) (v := .int t.1) (C := RX12) (T := TX12) (N := 40) hx hb hts inX12 hown hK hP 0 rfl rfl 4 (by decide) k2 (fun _ h9 => h9) rfl dX12_type_22 ?_
    refine lv_iload_n hx hb dX12_type_25 rfl (lv_at hl 1 rfl) ?_
    have ⟨c2, hE⟩ := ck_some hE
    refine va_iast hx hb hK hP hD hS 3 0 rfl rfl c2 dX12_type_26 (fun H locs hP hD hS => ?_)
    have hP : va_P D vwCl (wX g cA ((t.1, t.2.1, t.2.2.1, t.2.2.2.1, upd t.2.2.2.2 t.1.toNatClampNeg x1)) s r c y d k q o ((0, m.2.1, m.2.2.1, m.2.2.2.1, m.2.2.2.2.1, m.2.2.2.2.2.1, m.2.2.2.2.2.2))) H := hP
    have hD : va_D A (wX g cA ((t.1, t.2.1, t.2.2.1, t.2.2.2.1, upd t.2.2.2.2 t.1.toNatClampNeg x1)) s r c y d k q o ((0, m.2.1, m.2.2.1, m.2.2.2.1, m.2.2.2.2.1, m.2.2.2.2.2.1, m.2.2.2.2.2.2))) := hD
    refine lv_aload_n hx hb dX12_type_27 rfl (lv_at hl 0 rfl) ?_
    refine lv_dup hx hb dX12_type_28 rfl ?_
    refine va_get (D := D) (ci := 10) (v := .int t.1) (C := RX12) (T := TX12) (N := 40) hx hb hts inX12 hown hK hP 0 rfl rfl 4 (by decide) k2 (fun _ h9 => h9) rfl dX12_type_29 ?_
    refine lv_iconst (v := 1) hx hb dX12_type_32 (by decide +kernel) ?_
    refine lv_iadd hx hb dX12_type_33 ?_
    refine va_put (D := D) (ci := 10) (v := .int (t.1 + 1)) (ty := .int) (C := RX12) (T := TX12) (N := 40) hx hb hts inX12 tyX12 tyX12_ok nmX12 hown hK hP hD hS 0 rfl rfl 4 (by decide) k2 (fun _ h9 => h9) rfl (by decide +kernel) rfl rfl (Nat.le_of_ble_eq_true rfl) dX12_type_34 (fun H locs hP hD hS => ?_)
    have hP : va_P D vwCl (wX g cA ((t.1 + 1, t.2.1, t.2.2.1, t.2.2.2.1, upd t.2.2.2.2 t.1.toNatClampNeg x1)) s r c y d k q o ((0, m.2.1, m.2.2.1, m.2.2.2.1, m.2.2.2.2.1, m.2.2.2.2.2.1, m.2.2.2.2.2.2))) H := hP
    have hD : va_D A (wX g cA ((t.1 + 1, t.2.1, t.2.2.1, t.2.2.2.1, upd t.2.2.2.2 t.1.toNatClampNeg x1)) s r c y d k q o ((0, m.2.1, m.2.2.1, m.2.2.2.1, m.2.2.2.2.1, m.2.2.2.2.2.1, m.2.2.2.2.2.2))) := hD
    refine lv_iconst (v := 1) hx hb dX12_type_37 (by decide +kernel) ?_
    obtain rfl := Option.some.inj hE
    exact rt_n hx hb hr (by decide +kernel) hP hS rfl hlocks dX12_type_38
  · have hE := if_t c1 hE
    refine lv_iconst (v := 0) hx hb dX12_type_15 (by decide +kernel) ?_
    obtain rfl := Option.some.inj hE
    exact rt_n hx hb hr (by decide +kernel) hP hS rfl hlocks dX12_type_16
set_option maxHeartbeats 4000000 in
set_option maxRecDepth 100000 in
theorem c_X12_isBlank (l : Launch) (D : va_G) (cA : Nat → ClassId) (g : Nat → Nat) (sz : Nat) (x1 : Int32) (t : mT) (s : mS) (r : mR) (c : mC) (y : mY) (d : mD) (k : mK) (q : mP) (o : mO) (m : mM) (u : Int32) (hE : f_X12_isBlank x1 t = some u) : Met l yX12_isBlank wsX12_isBlank ({ frames := 0, cells := 0, slots := 0, locals := 0 }) (va_Pc [.ref (g 0), .int x1] (PRE D cA (wX g cA t s r c y d k q o m) sz (fun _ => True))) (cQi D (wX g cA t s r c y d k q o m) (va_A (wX g cA t s r c y d k q o m) sz) u) 0 0 (va_A (wX g cA t s r c y d k q o m) sz) := by
  refine Met.ofW (cc := cX12_isBlank) (maxL := 2) (ret := (some .boolean)) (by decide) rfl ?_
  intro PP EE S0 MM args below meth CC S1 B hml hv
  obtain ⟨rfl, hsz, hP, hK, hD0, hX⟩ := hv
  have hx := B.exec
  have hb := B.bytes
  have hr := B.returns
  have hts := atoms_spec (ws := wsX12_isBlank) B.pre
  have hown : S0.vm.findClass RX12 = some MM.cls := findClass_of_methodNamed B.named
  have hlocks := B.notSynchronized
  subst hsz
  have hD := hD0.self (sz := S0.heap.size)
  generalize hAe : va_A (wX g cA t s r c y d k q o m) S0.heap.size = A at hD ⊢
  have hA : ∀ q : Nat, S0.heap.size ≤ q → A q := fun q h => by rw [← hAe]; exact Or.inr h
  have hS : va_S A S0.heap S0.heap [] := va_S.rf
  have k0 := hts (.fieldLink RX12 162 "WordForgeModel" "text" "[I") (List.mem_of_getElem? (i := 1) rfl)
  have inX12 : ∀ w ∈ wsX120, w ∈ wsX12_isBlank := fun _ h => List.mem_cons_of_mem _ (List.mem_append_right _ h)
  have hl := lv_entry ([.ref (g 0), .int x1]) (n := 2) (Nat.le_of_ble_eq_true rfl)
  rw [lg_entry_eq]
  generalize (lg_sl ([.ref (g 0), .int x1]) ++ List.replicate (2 - (lg_sl ([.ref (g 0), .int x1])).length) Slot.unset).toArray = ls at hl ⊢
  have hl : lv_has ls 2 [(0, .ref (g 0)), (1, .int x1)] := hl
  have w22 : ∀ (t : mT) (H : Heap) (locs : List Loc) (ls : Array Slot), va_P D vwCl (wX g cA t s r c y d k q o m) H → va_D A (wX g cA t s r c y d k q o m) → va_S A S0.heap H locs → lv_has ls 2 [] → b_X12_isBlank_22  t = some u → W PP l EE (headSpec wsX12_isBlank ({ frames := 0, cells := 0, slots := 0, locals := 0 })).room S0 MM (#[.ref (g 0), .int x1] : Array Value) below meth CC H locs 0 0 (MQ below (cQi D (wX g cA t s r c y d k q o m) A u) (#[.ref (g 0), .int x1] : Array Value) S0 0 0 A) (F0 MM 22 ls []) := by
    intro t
    intro H locs ls hP hD hS hl hE
    unfold b_X12_isBlank_22 at hE
    refine lv_iconst (v := 1) hx hb dX12_isBlank_22 (by decide +kernel) ?_
    refine lv_goto (tgt := 27) hx hb dX12_isBlank_23 (by decide) ?_
    obtain rfl := Option.some.inj hE
    exact rt_n hx hb hr (by decide +kernel) hP hS rfl hlocks dX12_isBlank_27
  unfold f_X12_isBlank at hE
  suffices main : ∀ (H : Heap) (locs : List Loc) (ls : Array Slot), va_P D vwCl (wX g cA t s r c y d k q o m) H → va_D A (wX g cA t s r c y d k q o m) → va_S A S0.heap H locs → lv_has ls 2 [(0, .ref (g 0)), (1, .int x1)] → W PP l EE (headSpec wsX12_isBlank ({ frames := 0, cells := 0, slots := 0, locals := 0 })).room S0 MM (#[.ref (g 0), .int x1] : Array Value) below meth CC H locs 0 0 (MQ below (cQi D (wX g cA t s r c y d k q o m) A u) (#[.ref (g 0), .int x1] : Array Value) S0 0 0 A) (F0 MM 0 ls []) from main _ _ _ hP hD hS hl
  intro H locs ls hP hD hS hl
  refine lv_aload_n hx hb dX12_isBlank_0 rfl (lv_at hl 0 rfl) ?_
  refine va_get (D := D) (ci := 10) (v := .ref (g 3)) (C := RX12) (T := TX12) (N := 40) hx hb hts inX12 hown hK hP 0 rfl rfl 3 (by decide) k0 (fun _ h9 => h9) rfl dX12_isBlank_1 ?_
  refine lv_iload_n hx hb dX12_isBlank_4 rfl (lv_at hl 1 rfl) ?_
  have ⟨c1, hE⟩ := ck_some hE
  refine va_iald hx hb hK hP 3 0 rfl rfl c1 dX12_isBlank_5 ?_
  refine lv_bipush (v := 32) hx hb dX12_isBlank_6 (by decide +kernel) ?_
  refine lv_icmp_eq (tgt := 22) hx hb dX12_isBlank_8 (by decide) (fun c2 => ?_) (fun c2 => ?_)
  · have hE := if_t c2 hE
    exact w22  t H locs ls hP hD hS (lv_sub hl [] rfl) hE
  · have hE := if_f c2 hE
    refine lv_aload_n hx hb dX12_isBlank_11 rfl (lv_at hl 0 rfl) ?_
    refine va_get (D := D) (ci := 10) (v := .ref (g 3)) (C := RX12) (T := TX12) (N := 40) hx hb hts inX12 hown hK hP 0 rfl rfl 3 (by decide) k0 (fun _ h9 => h9) rfl dX12_isBlank_12 ?_
    refine lv_iload_n hx hb dX12_isBlank_15 rfl (lv_at hl 1 rfl) ?_
    have ⟨c3, hE⟩ := ck_some hE
    refine va_iald hx hb hK hP 3 0 rfl rfl c3 dX12_isBlank_16 ?_
    refine lv_bipush (v := 10) hx hb dX12_isBlank_17 (by decide +kernel) ?_
    refine lv_icmp_ne (tgt := 26) hx hb dX12_isBlank_19 (by decide) (fun c4 => ?_) (fun c4 => ?_)
    · have hE := if_f c4 hE
      refine lv_iconst (v := 0) hx hb dX12_isBlank_26 (by decide +kernel) ?_
      obtain rfl := Option.some.inj hE
      exact rt_n hx hb hr (by decide +kernel) hP hS rfl hlocks dX12_isBlank_27
    · have hE := if_t c4 hE
      exact w22  t H locs ls hP hD hS (lv_sub hl [] rfl) hE
set_option maxRecDepth 20000 in
theorem hX12_takes_X12_isBlank_225 : GoodIn wsX12_takes (wsV RX12 225 RX12 yX12_isBlank wsX12_isBlank) := goodIn_r _ [5, 6, 7, 8, 9, 10, 11, 12, 13, 14, 15, 16, 17, 18, 19, 20, 21, 22, 23, 24, 25, 26, 27, 28, 29, 30, 31, 32, 33, 34, 35, 36, 37, 38, 39, 40, 41, 42, 43, 44, 45, 46, 47, 48, 49, 50] rfl (by decide +kernel)
set_option maxHeartbeats 4000000 in
set_option maxRecDepth 100000 in
theorem c_X12_takes (l : Launch) (D : va_G) (cA : Nat → ClassId) (g : Nat → Nat) (sz : Nat) (t : mT) (s : mS) (r : mR) (c : mC) (y : mY) (d : mD) (k : mK) (q : mP) (o : mO) (m : mM) (u : Int32 × mT) (hE : f_X12_takes t = some u) : Met l yX12_takes wsX12_takes ({ frames := 1, cells := 0, slots := 0, locals := 21 }) (va_Pc [.ref (g 0)] (PRE D cA (wX g cA t s r c y d k q o m) sz (fun _ => True))) (cQi D (wX g cA u.2 s r c y d k q o m) (va_A (wX g cA t s r c y d k q o m) sz) u.1) 0 0 (va_A (wX g cA t s r c y d k q o m) sz) := by
  refine Met.ofW (cc := cX12_takes) (maxL := 1) (ret := (some .boolean)) (by decide) rfl ?_
  intro PP EE S0 MM args below meth CC S1 B hml hv
  obtain ⟨rfl, hsz, hP, hK, hD0, hX⟩ := hv
  have hx := B.exec
  have hb := B.bytes
  have hr := B.returns
  have hts := atoms_spec (ws := wsX12_takes) B.pre
  have hown : S0.vm.findClass RX12 = some MM.cls := findClass_of_methodNamed B.named
  have hlocks := B.notSynchronized
  subst hsz
  have hD := hD0.self (sz := S0.heap.size)
  generalize hAe : va_A (wX g cA t s r c y d k q o m) S0.heap.size = A at hD ⊢
  have hA : ∀ q : Nat, S0.heap.size ≤ q → A q := fun q h => by rw [← hAe]; exact Or.inr h
  have hS : va_S A S0.heap S0.heap [] := va_S.rf
  have k0 := hts (.fieldLink RX12 222 "WordForgeModel" "at" "I") (List.mem_of_getElem? (i := 1) rfl)
  have inX12 : ∀ w ∈ wsX120, w ∈ wsX12_takes := fun _ h => List.mem_cons_of_mem _ (List.mem_append_right _ h)
  have k2 := hts (.fieldLink RX12 219 "WordForgeModel" "size" "I") (List.mem_of_getElem? (i := 2) rfl)
  have k3 := hts (.fieldLink RX12 229 "WordForgeModel" "from" "I") (List.mem_of_getElem? (i := 3) rfl)
  have k4 := hts (.fieldLink RX12 232 "WordForgeModel" "length" "I") (List.mem_of_getElem? (i := 4) rfl)
  have hl := lv_entry ([.ref (g 0)]) (n := 1) (Nat.le_of_ble_eq_true rfl)
  rw [lg_entry_eq]
  generalize (lg_sl ([.ref (g 0)]) ++ List.replicate (1 - (lg_sl ([.ref (g 0)])).length) Slot.unset).toArray = ls at hl ⊢
  have hl : lv_has ls 1 [(0, .ref (g 0))] := hl
  have w119 : ∀ (t : mT) (H : Heap) (locs : List Loc) (ls : Array Slot), va_P D vwCl (wX g cA t s r c y d k q o m) H → va_D A (wX g cA t s r c y d k q o m) → va_S A S0.heap H locs → lv_has ls 1 [(0, .ref (g 0))] → b_X12_takes_119  t = some u → W PP l EE (headSpec wsX12_takes ({ frames := 1, cells := 0, slots := 0, locals := 21 })).room S0 MM (#[.ref (g 0)] : Array Value) below meth CC H locs 0 0 (MQ below (cQi D (wX g cA u.2 s r c y d k q o m) A u.1) (#[.ref (g 0)] : Array Value) S0 0 0 A) (F0 MM 119 ls []) := by
    intro t
    intro H locs ls hP hD hS hl hE
    unfold b_X12_takes_119 at hE
    refine lv_aload_n hx hb dX12_takes_119 rfl (lv_at hl 0 rfl) ?_
    refine va_get (D := D) (ci := 10) (v := .int t.2.2.2.1) (C := RX12) (T := TX12) (N := 40) hx hb hts inX12 hown hK hP 0 rfl rfl 33 (by decide) k4 (fun _ h9 => h9) rfl dX12_takes_120 ?_
    refine lv_if_le (tgt := 130) hx hb dX12_takes_123 (by decide) (fun c11 => ?_) (fun c11 => ?_)
    · have hE := if_t c11 hE
      refine lv_iconst (v := 0) hx hb dX12_takes_130 (by decide +kernel) ?_
      obtain rfl := Option.some.inj hE
      exact rt_n hx hb hr (by decide +kernel) hP hS rfl hlocks dX12_takes_131
    · have hE := if_f c11 hE
      refine lv_iconst (v := 1) hx hb dX12_takes_126 (by decide +kernel) ?_
      refine lv_goto (tgt := 131) hx hb dX12_takes_127 (by decide) ?_
      obtain rfl := Option.some.inj hE
      exact rt_n hx hb hr (by decide +kernel) hP hS rfl hlocks dX12_takes_131
  have w78 : ∀ (t : mT) (H : Heap) (locs : List Loc) (ls : Array Slot), va_P D vwCl (wX g cA t s r c y d k q o m) H → va_D A (wX g cA t s r c y d k q o m) → va_S A S0.heap H locs → lv_has ls 1 [(0, .ref (g 0))] → b_X12_takes_78  t = some u → W PP l EE (headSpec wsX12_takes ({ frames := 1, cells := 0, slots := 0, locals := 21 })).room S0 MM (#[.ref (g 0)] : Array Value) below meth CC H locs 0 0 (MQ below (cQi D (wX g cA u.2 s r c y d k q o m) A u.1) (#[.ref (g 0)] : Array Value) S0 0 0 A) (F0 MM 78 ls []) := by
    intro t
    intro H locs ls hP hD hS hl hE
    unfold b_X12_takes_78 at hE
    refine lv_aload_n hx hb dX12_takes_78 rfl (lv_at hl 0 rfl) ?_
    refine lv_aload_n hx hb dX12_takes_79 rfl (lv_at hl 0 rfl) ?_
    refine va_get (D := D) (ci := 10) (v := .int t.2.1) (C := RX12) (T := TX12) (N := 40) hx hb hts inX12 hown hK hP 0 rfl rfl 5 (by decide) k0 (fun _ h9 => h9) rfl dX12_takes_80 ?_
    refine lv_aload_n hx hb dX12_takes_83 rfl (lv_at hl 0 rfl) ?_
    refine va_get (D := D) (ci := 10) (v := .int t.2.2.1) (C := RX12) (T := TX12) (N := 40) hx hb hts inX12 hown hK hP 0 rfl rfl 32 (by decide) k3 (fun _ h9 => h9) rfl dX12_takes_84 ?_
    refine lv_isub hx hb dX12_takes_87 ?_
    refine va_put (D := D) (ci := 10) (v := .int (t.2.1 - t.2.2.1)) (ty := .int) (C := RX12) (T := TX12) (N := 40) hx hb hts inX12 tyX12 tyX12_ok nmX12 hown hK hP hD hS 0 rfl rfl 33 (by decide) k4 (fun _ h9 => h9) rfl (by decide +kernel) rfl rfl (Nat.le_of_ble_eq_true rfl) dX12_takes_88 (fun H locs hP hD hS => ?_)
    have hP : va_P D vwCl (wX g cA ((t.1, t.2.1, t.2.2.1, t.2.1 - t.2.2.1, t.2.2.2.2)) s r c y d k q o m) H := hP
    have hD : va_D A (wX g cA ((t.1, t.2.1, t.2.2.1, t.2.1 - t.2.2.1, t.2.2.2.2)) s r c y d k q o m) := hD
    refine lv_aload_n hx hb dX12_takes_91 rfl (lv_at hl 0 rfl) ?_
    refine va_get (D := D) (ci := 10) (v := .int t.2.1) (C := RX12) (T := TX12) (N := 40) hx hb hts inX12 hown hK hP 0 rfl rfl 5 (by decide) k0 (fun _ h9 => h9) rfl dX12_takes_92 ?_
    refine lv_aload_n hx hb dX12_takes_95 rfl (lv_at hl 0 rfl) ?_
    refine va_get (D := D) (ci := 10) (v := .int t.1) (C := RX12) (T := TX12) (N := 40) hx hb hts inX12 hown hK hP 0 rfl rfl 4 (by decide) k2 (fun _ h9 => h9) rfl dX12_takes_96 ?_
    refine lv_icmp_ge (tgt := 119) hx hb dX12_takes_99 (by decide) (fun c9 => ?_) (fun c9 => ?_)
    · have hE := if_t c9 hE
      exact w119  ((t.1, t.2.1, t.2.2.1, t.2.1 - t.2.2.1, t.2.2.2.2)) H locs ls hP hD hS (lv_sub hl [0] rfl) hE
    · have hE := if_f c9 hE
      refine lv_aload_n hx hb dX12_takes_102 rfl (lv_at hl 0 rfl) ?_
      refine va_get (D := D) (ci := 10) (v := .int (t.2.1 - t.2.2.1)) (C := RX12) (T := TX12) (N := 40) hx hb hts inX12 hown hK hP 0 rfl rfl 33 (by decide) k4 (fun _ h9 => h9) rfl dX12_takes_103 ?_
      refine lv_if_le (tgt := 119) hx hb dX12_takes_106 (by decide) (fun c10 => ?_) (fun c10 => ?_)
      · have hE := if_t c10 hE
        exact w119  ((t.1, t.2.1, t.2.2.1, t.2.1 - t.2.2.1, t.2.2.2.2)) H locs ls hP hD hS (lv_sub hl [0] rfl) hE
      · have hE := if_f c10 hE
        refine lv_aload_n hx hb dX12_takes_109 rfl (lv_at hl 0 rfl) ?_
        refine lv_dup hx hb dX12_takes_110 rfl ?_
        refine va_get (D := D) (ci := 10) (v := .int t.2.1) (C := RX12) (T := TX12) (N := 40) hx hb hts inX12 hown hK hP 0 rfl rfl 5 (by decide) k0 (fun _ h9 => h9) rfl dX12_takes_111 ?_
        refine lv_iconst (v := 1) hx hb dX12_takes_114 (by decide +kernel) ?_
        refine lv_iadd hx hb dX12_takes_115 ?_
        refine va_put (D := D) (ci := 10) (v := .int (t.2.1 + 1)) (ty := .int) (C := RX12) (T := TX12) (N := 40) hx hb hts inX12 tyX12 tyX12_ok nmX12 hown hK hP hD hS 0 rfl rfl 5 (by decide) k0 (fun _ h9 => h9) rfl (by decide +kernel) rfl rfl (Nat.le_of_ble_eq_true rfl) dX12_takes_116 (fun H locs hP hD hS => ?_)
        have hP : va_P D vwCl (wX g cA ((t.1, t.2.1 + 1, t.2.2.1, t.2.1 - t.2.2.1, t.2.2.2.2)) s r c y d k q o m) H := hP
        have hD : va_D A (wX g cA ((t.1, t.2.1 + 1, t.2.2.1, t.2.1 - t.2.2.1, t.2.2.2.2)) s r c y d k q o m) := hD
        exact w119  ((t.1, t.2.1 + 1, t.2.2.1, t.2.1 - t.2.2.1, t.2.2.2.2)) H locs ls hP hD hS (lv_sub hl [0] rfl) hE
  have w43 : ∀ (n : Nat), ∀ (t : mT) (H : Heap) (locs : List Loc) (ls : Array Slot), va_P D vwCl (wX g cA t s r c y d k q o m) H → va_D A (wX g cA t s r c y d k q o m) → va_S A S0.heap H locs → lv_has ls 1 [(0, .ref (g 0))] → b_X12_takes_43 n t = some u → W PP l EE (headSpec wsX12_takes ({ frames := 1, cells := 0, slots := 0, locals := 21 })).room S0 MM (#[.ref (g 0)] : Array Value) below meth CC H locs 0 0 (MQ below (cQi D (wX g cA u.2 s r c y d k q o m) A u.1) (#[.ref (g 0)] : Array Value) S0 0 0 A) (F0 MM 43 ls []) := by
    intro  n
    induction n with
    | zero => intros; rename_i hE; exact absurd hE (by simp [b_X12_takes_43])
    | succ n ih43 =>
      intro t
      intro H locs ls hP hD hS hl hE
      unfold b_X12_takes_43 at hE
      refine lv_aload_n hx hb dX12_takes_43 rfl (lv_at hl 0 rfl) ?_
      refine va_get (D := D) (ci := 10) (v := .int t.2.1) (C := RX12) (T := TX12) (N := 40) hx hb hts inX12 hown hK hP 0 rfl rfl 5 (by decide) k0 (fun _ h9 => h9) rfl dX12_takes_44 ?_
      refine lv_aload_n hx hb dX12_takes_47 rfl (lv_at hl 0 rfl) ?_
      refine va_get (D := D) (ci := 10) (v := .int t.1) (C := RX12) (T := TX12) (N := 40) hx hb hts inX12 hown hK hP 0 rfl rfl 4 (by decide) k2 (fun _ h9 => h9) rfl dX12_takes_48 ?_
      refine lv_icmp_ge (tgt := 78) hx hb dX12_takes_51 (by decide) (fun c5 => ?_) (fun c5 => ?_)
      · have hE := if_t c5 hE
        exact w78  t H locs ls hP hD hS (lv_sub hl [0] rfl) hE
      · have hE := if_f c5 hE
        refine lv_aload_n hx hb dX12_takes_54 rfl (lv_at hl 0 rfl) ?_
        refine lv_aload_n hx hb dX12_takes_55 rfl (lv_at hl 0 rfl) ?_
        refine va_get (D := D) (ci := 10) (v := .int t.2.1) (C := RX12) (T := TX12) (N := 40) hx hb hts inX12 hown hK hP 0 rfl rfl 5 (by decide) k0 (fun _ h9 => h9) rfl dX12_takes_56 ?_
        obtain ⟨u6, h7, hE⟩ := bd_some hE
        refine cw_i (As := [.int t.2.1]) (rest := []) (r := u6) (wc := (wX g cA t s r c y d k q o m)) ⟨hx, hb, hml, hown, hts⟩ (c_X12_isBlank l D cA g H.size t.2.1 t s r c y d k q o m u6 h7) (cwV 1 hts hX12_takes_X12_isBlank_225 rfl rfl rfl (by decide +kernel) ⟨Nat.le_of_ble_eq_true rfl, Nat.le_of_ble_eq_true rfl⟩) rfl hl.1 rfl (Nat.le_of_ble_eq_true rfl) dX12_takes_59 ⟨Nat.zero_le _, Nat.zero_le _⟩ hK hP hD hS hA (va_recv hK hP (ci := 10) (q0 := 0) rfl rfl) [g 0, g 1, g 2, g 3, g 4, g 5, g 6, g 7, g 8, g 9, g 10, g 11, g 12, g 13, g 14, g 15, g 16, g 17, g 18, g 19] rfl rfl (fun _ _ _ _ h => h) (fun _ _ _ => trivial) (fun H locs hP hD hS => ?_)
        have hP : va_P D vwCl (wX g cA t s r c y d k q o m) H := hP
        have hD : va_D A (wX g cA t s r c y d k q o m) := hD
        refine lv_if_ne (tgt := 78) hx hb dX12_takes_62 (by decide) (fun c8 => ?_) (fun c8 => ?_)
        · have hE := if_f c8 hE
          exact w78  t H locs ls hP hD hS (lv_sub hl [0] rfl) hE
        · have hE := if_t c8 hE
          refine lv_aload_n hx hb dX12_takes_65 rfl (lv_at hl 0 rfl) ?_
          refine lv_dup hx hb dX12_takes_66 rfl ?_
          refine va_get (D := D) (ci := 10) (v := .int t.2.1) (C := RX12) (T := TX12) (N := 40) hx hb hts inX12 hown hK hP 0 rfl rfl 5 (by decide) k0 (fun _ h9 => h9) rfl dX12_takes_67 ?_
          refine lv_iconst (v := 1) hx hb dX12_takes_70 (by decide +kernel) ?_
          refine lv_iadd hx hb dX12_takes_71 ?_
          refine va_put (D := D) (ci := 10) (v := .int (t.2.1 + 1)) (ty := .int) (C := RX12) (T := TX12) (N := 40) hx hb hts inX12 tyX12 tyX12_ok nmX12 hown hK hP hD hS 0 rfl rfl 5 (by decide) k0 (fun _ h9 => h9) rfl (by decide +kernel) rfl rfl (Nat.le_of_ble_eq_true rfl) dX12_takes_72 (fun H locs hP hD hS => ?_)
          have hP : va_P D vwCl (wX g cA ((t.1, t.2.1 + 1, t.2.2.1, t.2.2.2.1, t.2.2.2.2)) s r c y d k q o m) H := hP
          have hD : va_D A (wX g cA ((t.1, t.2.1 + 1, t.2.2.1, t.2.2.2.1, t.2.2.2.2)) s r c y d k q o m) := hD
          refine lv_goto (tgt := 43) hx hb dX12_takes_75 (by decide) ?_
          exact ih43 ((t.1, t.2.1 + 1, t.2.2.1, t.2.2.2.1, t.2.2.2.2)) H locs ls hP hD hS (lv_sub hl [0] rfl) hE
  have w35 : ∀ (t : mT) (H : Heap) (locs : List Loc) (ls : Array Slot), va_P D vwCl (wX g cA t s r c y d k q o m) H → va_D A (wX g cA t s r c y d k q o m) → va_S A S0.heap H locs → lv_has ls 1 [(0, .ref (g 0))] → b_X12_takes_35  t = some u → W PP l EE (headSpec wsX12_takes ({ frames := 1, cells := 0, slots := 0, locals := 21 })).room S0 MM (#[.ref (g 0)] : Array Value) below meth CC H locs 0 0 (MQ below (cQi D (wX g cA u.2 s r c y d k q o m) A u.1) (#[.ref (g 0)] : Array Value) S0 0 0 A) (F0 MM 35 ls []) := by
    intro t
    intro H locs ls hP hD hS hl hE
    unfold b_X12_takes_35 at hE
    refine lv_aload_n hx hb dX12_takes_35 rfl (lv_at hl 0 rfl) ?_
    refine lv_aload_n hx hb dX12_takes_36 rfl (lv_at hl 0 rfl) ?_
    refine va_get (D := D) (ci := 10) (v := .int t.2.1) (C := RX12) (T := TX12) (N := 40) hx hb hts inX12 hown hK hP 0 rfl rfl 5 (by decide) k0 (fun _ h9 => h9) rfl dX12_takes_37 ?_
    refine va_put (D := D) (ci := 10) (v := .int t.2.1) (ty := .int) (C := RX12) (T := TX12) (N := 40) hx hb hts inX12 tyX12 tyX12_ok nmX12 hown hK hP hD hS 0 rfl rfl 32 (by decide) k3 (fun _ h9 => h9) rfl (by decide +kernel) rfl rfl (Nat.le_of_ble_eq_true rfl) dX12_takes_40 (fun H locs hP hD hS => ?_)
    have hP : va_P D vwCl (wX g cA ((t.1, t.2.1, t.2.1, t.2.2.2.1, t.2.2.2.2)) s r c y d k q o m) H := hP
    have hD : va_D A (wX g cA ((t.1, t.2.1, t.2.1, t.2.2.2.1, t.2.2.2.2)) s r c y d k q o m) := hD
    exact w43 FU ((t.1, t.2.1, t.2.1, t.2.2.2.1, t.2.2.2.2)) H locs ls hP hD hS (lv_sub hl [0] rfl) hE
  have w0 : ∀ (n : Nat), ∀ (t : mT) (H : Heap) (locs : List Loc) (ls : Array Slot), va_P D vwCl (wX g cA t s r c y d k q o m) H → va_D A (wX g cA t s r c y d k q o m) → va_S A S0.heap H locs → lv_has ls 1 [(0, .ref (g 0))] → b_X12_takes_0 n t = some u → W PP l EE (headSpec wsX12_takes ({ frames := 1, cells := 0, slots := 0, locals := 21 })).room S0 MM (#[.ref (g 0)] : Array Value) below meth CC H locs 0 0 (MQ below (cQi D (wX g cA u.2 s r c y d k q o m) A u.1) (#[.ref (g 0)] : Array Value) S0 0 0 A) (F0 MM 0 ls []) := by
    intro  n
    induction n with
    | zero => intros; rename_i hE; exact absurd hE (by simp [b_X12_takes_0])
    | succ n ih0 =>
      intro t
      intro H locs ls hP hD hS hl hE
      unfold b_X12_takes_0 at hE
      refine lv_aload_n hx hb dX12_takes_0 rfl (lv_at hl 0 rfl) ?_
      refine va_get (D := D) (ci := 10) (v := .int t.2.1) (C := RX12) (T := TX12) (N := 40) hx hb hts inX12 hown hK hP 0 rfl rfl 5 (by decide) k0 (fun _ h9 => h9) rfl dX12_takes_1 ?_
      refine lv_aload_n hx hb dX12_takes_4 rfl (lv_at hl 0 rfl) ?_
      refine va_get (D := D) (ci := 10) (v := .int t.1) (C := RX12) (T := TX12) (N := 40) hx hb hts inX12 hown hK hP 0 rfl rfl 4 (by decide) k2 (fun _ h9 => h9) rfl dX12_takes_5 ?_
      refine lv_icmp_ge (tgt := 35) hx hb dX12_takes_8 (by decide) (fun c1 => ?_) (fun c1 => ?_)
      · have hE := if_t c1 hE
        exact w35  t H locs ls hP hD hS (lv_sub hl [0] rfl) hE
      · have hE := if_f c1 hE
        refine lv_aload_n hx hb dX12_takes_11 rfl (lv_at hl 0 rfl) ?_
        refine lv_aload_n hx hb dX12_takes_12 rfl (lv_at hl 0 rfl) ?_
        refine va_get (D := D) (ci := 10) (v := .int t.2.1) (C := RX12) (T := TX12) (N := 40) hx hb hts inX12 hown hK hP 0 rfl rfl 5 (by decide) k0 (fun _ h9 => h9) rfl dX12_takes_13 ?_
        obtain ⟨u2, h3, hE⟩ := bd_some hE
        refine cw_i (As := [.int t.2.1]) (rest := []) (r := u2) (wc := (wX g cA t s r c y d k q o m)) ⟨hx, hb, hml, hown, hts⟩ (c_X12_isBlank l D cA g H.size t.2.1 t s r c y d k q o m u2 h3) (cwV 1 hts hX12_takes_X12_isBlank_225 rfl rfl rfl (by decide +kernel) ⟨Nat.le_of_ble_eq_true rfl, Nat.le_of_ble_eq_true rfl⟩) rfl hl.1 rfl (Nat.le_of_ble_eq_true rfl) dX12_takes_16 ⟨Nat.zero_le _, Nat.zero_le _⟩ hK hP hD hS hA (va_recv hK hP (ci := 10) (q0 := 0) rfl rfl) [g 0, g 1, g 2, g 3, g 4, g 5, g 6, g 7, g 8, g 9, g 10, g 11, g 12, g 13, g 14, g 15, g 16, g 17, g 18, g 19] rfl rfl (fun _ _ _ _ h => h) (fun _ _ _ => trivial) (fun H locs hP hD hS => ?_)
        have hP : va_P D vwCl (wX g cA t s r c y d k q o m) H := hP
        have hD : va_D A (wX g cA t s r c y d k q o m) := hD
        refine lv_if_eq (tgt := 35) hx hb dX12_takes_19 (by decide) (fun c4 => ?_) (fun c4 => ?_)
        · have hE := if_t c4 hE
          exact w35  t H locs ls hP hD hS (lv_sub hl [0] rfl) hE
        · have hE := if_f c4 hE
          refine lv_aload_n hx hb dX12_takes_22 rfl (lv_at hl 0 rfl) ?_
          refine lv_dup hx hb dX12_takes_23 rfl ?_
          refine va_get (D := D) (ci := 10) (v := .int t.2.1) (C := RX12) (T := TX12) (N := 40) hx hb hts inX12 hown hK hP 0 rfl rfl 5 (by decide) k0 (fun _ h9 => h9) rfl dX12_takes_24 ?_
          refine lv_iconst (v := 1) hx hb dX12_takes_27 (by decide +kernel) ?_
          refine lv_iadd hx hb dX12_takes_28 ?_
          refine va_put (D := D) (ci := 10) (v := .int (t.2.1 + 1)) (ty := .int) (C := RX12) (T := TX12) (N := 40) hx hb hts inX12 tyX12 tyX12_ok nmX12 hown hK hP hD hS 0 rfl rfl 5 (by decide) k0 (fun _ h9 => h9) rfl (by decide +kernel) rfl rfl (Nat.le_of_ble_eq_true rfl) dX12_takes_29 (fun H locs hP hD hS => ?_)
          have hP : va_P D vwCl (wX g cA ((t.1, t.2.1 + 1, t.2.2.1, t.2.2.2.1, t.2.2.2.2)) s r c y d k q o m) H := hP
          have hD : va_D A (wX g cA ((t.1, t.2.1 + 1, t.2.2.1, t.2.2.2.1, t.2.2.2.2)) s r c y d k q o m) := hD
          refine lv_goto (tgt := 0) hx hb dX12_takes_32 (by decide) ?_
          exact ih0 ((t.1, t.2.1 + 1, t.2.2.1, t.2.2.2.1, t.2.2.2.2)) H locs ls hP hD hS (lv_sub hl [0] rfl) hE
  unfold f_X12_takes at hE
  suffices main : ∀ (H : Heap) (locs : List Loc) (ls : Array Slot), va_P D vwCl (wX g cA t s r c y d k q o m) H → va_D A (wX g cA t s r c y d k q o m) → va_S A S0.heap H locs → lv_has ls 1 [(0, .ref (g 0))] → W PP l EE (headSpec wsX12_takes ({ frames := 1, cells := 0, slots := 0, locals := 21 })).room S0 MM (#[.ref (g 0)] : Array Value) below meth CC H locs 0 0 (MQ below (cQi D (wX g cA u.2 s r c y d k q o m) A u.1) (#[.ref (g 0)] : Array Value) S0 0 0 A) (F0 MM 0 ls []) from main _ _ _ hP hD hS hl
  intro H locs ls hP hD hS hl
  exact w0 FU t H locs ls hP hD hS (lv_sub hl [0] rfl) hE
set_option maxRecDepth 20000 in
theorem hX12_parse_X12_takes_235 : GoodIn wsX12_parse (wsV RX12 235 RX12 yX12_takes wsX12_takes) := goodIn_r _ [2, 3, 4, 5, 6, 7, 8, 9, 1, 10, 11, 12, 5, 13, 14, 15, 16, 17, 18, 19, 20, 21, 22, 23, 24, 25, 26, 27, 28, 29, 30, 31, 32, 33, 34, 35, 36, 37, 38, 39, 40, 41, 42, 43, 44, 45, 46, 47, 48, 49, 50, 51, 52, 53, 54] rfl (by decide +kernel)
set_option maxHeartbeats 4000000 in
set_option maxRecDepth 100000 in
theorem c_X12_parse (l : Launch) (D : va_G) (cA : Nat → ClassId) (g : Nat → Nat) (sz : Nat) (t : mT) (s : mS) (r : mR) (c : mC) (y : mY) (d : mD) (k : mK) (q : mP) (o : mO) (m : mM) (u : Int32 × mT) (hE : f_X12_parse t = some u) : Met l yX12_parse wsX12_parse ({ frames := 2, cells := 0, slots := 0, locals := 41 }) (va_Pc [.ref (g 0)] (PRE D cA (wX g cA t s r c y d k q o m) sz (fun _ => True))) (cQi D (wX g cA u.2 s r c y d k q o m) (va_A (wX g cA t s r c y d k q o m) sz) u.1) 0 0 (va_A (wX g cA t s r c y d k q o m) sz) := by
  refine Met.ofW (cc := cX12_parse) (maxL := 1) (ret := (some .int)) (by decide) rfl ?_
  intro PP EE S0 MM args below meth CC S1 B hml hv
  obtain ⟨rfl, hsz, hP, hK, hD0, hX⟩ := hv
  have hx := B.exec
  have hb := B.bytes
  have hr := B.returns
  have hts := atoms_spec (ws := wsX12_parse) B.pre
  have hown : S0.vm.findClass RX12 = some MM.cls := findClass_of_methodNamed B.named
  have hlocks := B.notSynchronized
  subst hsz
  have hD := hD0.self (sz := S0.heap.size)
  generalize hAe : va_A (wX g cA t s r c y d k q o m) S0.heap.size = A at hD ⊢
  have hA : ∀ q : Nat, S0.heap.size ≤ q → A q := fun q h => by rw [← hAe]; exact Or.inr h
  have hS : va_S A S0.heap S0.heap [] := va_S.rf
  have k0 := hts (.fieldLink RX12 232 "WordForgeModel" "length" "I") (List.mem_of_getElem? (i := 1) rfl)
  have inX12 : ∀ w ∈ wsX120, w ∈ wsX12_parse := fun _ h => List.mem_cons_of_mem _ (List.mem_append_right _ h)
  have hl := lv_entry ([.ref (g 0)]) (n := 1) (Nat.le_of_ble_eq_true rfl)
  rw [lg_entry_eq]
  generalize (lg_sl ([.ref (g 0)]) ++ List.replicate (1 - (lg_sl ([.ref (g 0)])).length) Slot.unset).toArray = ls at hl ⊢
  have hl : lv_has ls 1 [(0, .ref (g 0))] := hl
  unfold f_X12_parse at hE
  suffices main : ∀ (H : Heap) (locs : List Loc) (ls : Array Slot), va_P D vwCl (wX g cA t s r c y d k q o m) H → va_D A (wX g cA t s r c y d k q o m) → va_S A S0.heap H locs → lv_has ls 1 [(0, .ref (g 0))] → W PP l EE (headSpec wsX12_parse ({ frames := 2, cells := 0, slots := 0, locals := 41 })).room S0 MM (#[.ref (g 0)] : Array Value) below meth CC H locs 0 0 (MQ below (cQi D (wX g cA u.2 s r c y d k q o m) A u.1) (#[.ref (g 0)] : Array Value) S0 0 0 A) (F0 MM 0 ls []) from main _ _ _ hP hD hS hl
  intro H locs ls hP hD hS hl
  refine lv_aload_n hx hb dX12_parse_0 rfl (lv_at hl 0 rfl) ?_
  obtain ⟨u1, h2, hE⟩ := bd_some hE
  refine cw_i (As := []) (rest := []) (r := u1.1) (wc := (wX g cA t s r c y d k q o m)) ⟨hx, hb, hml, hown, hts⟩ (c_X12_takes l D cA g H.size t s r c y d k q o m u1 h2) (cwV 0 hts hX12_parse_X12_takes_235 rfl rfl rfl (by decide +kernel) ⟨Nat.le_of_ble_eq_true rfl, Nat.le_of_ble_eq_true rfl⟩) rfl hl.1 rfl (Nat.le_of_ble_eq_true rfl) dX12_parse_1 ⟨Nat.zero_le _, Nat.zero_le _⟩ hK hP hD hS hA (va_recv hK hP (ci := 10) (q0 := 0) rfl rfl) [g 0, g 1, g 2, g 3, g 4, g 5, g 6, g 7, g 8, g 9, g 10, g 11, g 12, g 13, g 14, g 15, g 16, g 17, g 18, g 19] rfl rfl (fun _ _ _ _ h => h) (fun _ _ _ => trivial) (fun H locs hP hD hS => ?_)
  have hP : va_P D vwCl (wX g cA u1.2 s r c y d k q o m) H := hP
  have hD : va_D A (wX g cA u1.2 s r c y d k q o m) := hD
  refine lv_if_ne (tgt := 12) hx hb dX12_parse_4 (by decide) (fun c3 => ?_) (fun c3 => ?_)
  · have hE := if_f c3 hE
    refine lv_aload_n hx hb dX12_parse_12 rfl (lv_at hl 0 rfl) ?_
    refine va_get (D := D) (ci := 10) (v := .int u1.2.2.2.2.1) (C := RX12) (T := TX12) (N := 40) hx hb hts inX12 hown hK hP 0 rfl rfl 33 (by decide) k0 (fun _ h9 => h9) rfl dX12_parse_13 ?_
    refine lv_bipush (v := 9) hx hb dX12_parse_16 (by decide +kernel) ?_
    refine lv_icmp_le (tgt := 26) hx hb dX12_parse_18 (by decide) (fun c4 => ?_) (fun c4 => ?_)
    · have hE := if_t c4 hE
      refine lv_iconst (v := 0) hx hb dX12_parse_26 (by decide +kernel) ?_
      obtain rfl := Option.some.inj hE
      exact rt_i hx hb hr hP hS rfl hlocks dX12_parse_27
    · have hE := if_f c4 hE
      refine lv_bipush (v := (-19)) hx hb dX12_parse_21 (by decide +kernel) ?_
      refine lv_goto (tgt := 27) hx hb dX12_parse_23 (by decide) ?_
      obtain rfl := Option.some.inj hE
      exact rt_i hx hb hr hP hS rfl hlocks dX12_parse_27
  · have hE := if_t c3 hE
    refine lv_bipush (v := (-16)) hx hb dX12_parse_7 (by decide +kernel) ?_
    refine lv_goto (tgt := 27) hx hb dX12_parse_9 (by decide) ?_
    obtain rfl := Option.some.inj hE
    exact rt_i hx hb hr hP hS rfl hlocks dX12_parse_27
set_option maxHeartbeats 4000000 in
set_option maxRecDepth 100000 in
theorem c_X12_isNamed (l : Launch) (D : va_G) (cA : Nat → ClassId) (g : Nat → Nat) (sz : Nat) (x1 : Int32) (t : mT) (s : mS) (r : mR) (c : mC) (y : mY) (d : mD) (k : mK) (q : mP) (o : mO) (m : mM) (u : Int32) (hE : f_X12_isNamed x1 t d = some u) : Met l yX12_isNamed wsX12_isNamed ({ frames := 0, cells := 0, slots := 0, locals := 0 }) (va_Pc [.ref (g 0), .int x1] (PRE D cA (wX g cA t s r c y d k q o m) sz (fun _ => True))) (cQi D (wX g cA t s r c y d k q o m) (va_A (wX g cA t s r c y d k q o m) sz) u) 0 0 (va_A (wX g cA t s r c y d k q o m) sz) := by
  refine Met.ofW (cc := cX12_isNamed) (maxL := 4) (ret := (some .boolean)) (by decide) rfl ?_
  intro PP EE S0 MM args below meth CC S1 B hml hv
  obtain ⟨rfl, hsz, hP, hK, hD0, hX⟩ := hv
  have hx := B.exec
  have hb := B.bytes
  have hr := B.returns
  have hts := atoms_spec (ws := wsX12_isNamed) B.pre
  have hown : S0.vm.findClass RX12 = some MM.cls := findClass_of_methodNamed B.named
  have hlocks := B.notSynchronized
  subst hsz
  have hD := hD0.self (sz := S0.heap.size)
  generalize hAe : va_A (wX g cA t s r c y d k q o m) S0.heap.size = A at hD ⊢
  have hA : ∀ q : Nat, S0.heap.size ≤ q → A q := fun q h => by rw [← hAe]; exact Or.inr h
  have hS : va_S A S0.heap S0.heap [] := va_S.rf
  have k0 := hts (.fieldLink RX12 200 "WordForgeModel" "finished" "[Z") (List.mem_of_getElem? (i := 1) rfl)
  have inX12 : ∀ w ∈ wsX120, w ∈ wsX12_isNamed := fun _ h => List.mem_cons_of_mem _ (List.mem_append_right _ h)
  have k2 := hts (.fieldLink RX12 206 "WordForgeModel" "nameSize" "[I") (List.mem_of_getElem? (i := 2) rfl)
  have k3 := hts (.fieldLink RX12 232 "WordForgeModel" "length" "I") (List.mem_of_getElem? (i := 3) rfl)
  have k4 := hts (.fieldLink RX12 203 "WordForgeModel" "names" "[I") (List.mem_of_getElem? (i := 4) rfl)
  have k5 := hts (.fieldLink RX12 162 "WordForgeModel" "text" "[I") (List.mem_of_getElem? (i := 5) rfl)
  have k6 := hts (.fieldLink RX12 229 "WordForgeModel" "from" "I") (List.mem_of_getElem? (i := 6) rfl)
  have hl := lv_entry ([.ref (g 0), .int x1]) (n := 4) (Nat.le_of_ble_eq_true rfl)
  rw [lg_entry_eq]
  generalize (lg_sl ([.ref (g 0), .int x1]) ++ List.replicate (4 - (lg_sl ([.ref (g 0), .int x1])).length) Slot.unset).toArray = ls at hl ⊢
  have hl : lv_has ls 4 [(0, .ref (g 0)), (1, .int x1)] := hl
  have w72 : ∀ (K30 : Int32 → Int32 → Int32 → mT → mD → Option (Int32)) (_ : ∀ (y1 : Int32) (y2 : Int32) (y3 : Int32) (t : mT) (d : mD) (H : Heap) (locs : List Loc) (ls : Array Slot), va_P D vwCl (wX g cA t s r c y d k q o m) H → va_D A (wX g cA t s r c y d k q o m) → va_S A S0.heap H locs → lv_has ls 4 [(0, .ref (g 0)), (1, .int y1), (2, .int y2), (3, .int y3)] → K30 y1 y2 y3 t d = some u → W PP l EE (headSpec wsX12_isNamed ({ frames := 0, cells := 0, slots := 0, locals := 0 })).room S0 MM (#[.ref (g 0), .int x1] : Array Value) below meth CC H locs 0 0 (MQ below (cQi D (wX g cA t s r c y d k q o m) A u) (#[.ref (g 0), .int x1] : Array Value) S0 0 0 A) (F0 MM 30 ls [])), ∀ (y1 : Int32) (y3 : Int32) (z0 : Int32) (t : mT) (d : mD) (H : Heap) (locs : List Loc) (ls : Array Slot), va_P D vwCl (wX g cA t s r c y d k q o m) H → va_D A (wX g cA t s r c y d k q o m) → va_S A S0.heap H locs → lv_has ls 4 [(0, .ref (g 0)), (1, .int y1), (3, .int y3)] → b_X12_isNamed_72 K30 y1 y3 z0 t d = some u → W PP l EE (headSpec wsX12_isNamed ({ frames := 0, cells := 0, slots := 0, locals := 0 })).room S0 MM (#[.ref (g 0), .int x1] : Array Value) below meth CC H locs 0 0 (MQ below (cQi D (wX g cA t s r c y d k q o m) A u) (#[.ref (g 0), .int x1] : Array Value) S0 0 0 A) (F0 MM 72 ls [.int z0]) := by
    intro K30 hK30
    intro y1 y3 z0 t d
    intro H locs ls hP hD hS hl hE
    unfold b_X12_isNamed_72 at hE
    refine lv_istore_n (lv' := [(2, .int z0), (0, .ref (g 0)), (1, .int y1), (3, .int y3)]) hx hb dX12_isNamed_72 rfl hl (by decide) rfl (fun ls hl => ?_)
    refine lv_iinc (v := y3 + 1) (lv' := [(3, .int (y3 + 1)), (2, .int z0), (0, .ref (g 0)), (1, .int y1)]) hx hb dX12_isNamed_73 hl (k := 3) rfl rfl (by decide) rfl (fun ls hl => ?_)
    refine lv_goto (tgt := 30) hx hb dX12_isNamed_76 (by decide) ?_
    exact hK30 y1 z0 (y3 + 1) t d H locs ls hP hD hS (lv_sub hl [2, 3, 1, 0] rfl) hE
  have w30 : ∀ (n : Nat), ∀ (y1 : Int32) (y2 : Int32) (y3 : Int32) (t : mT) (d : mD) (H : Heap) (locs : List Loc) (ls : Array Slot), va_P D vwCl (wX g cA t s r c y d k q o m) H → va_D A (wX g cA t s r c y d k q o m) → va_S A S0.heap H locs → lv_has ls 4 [(0, .ref (g 0)), (1, .int y1), (2, .int y2), (3, .int y3)] → b_X12_isNamed_30 n y1 y2 y3 t d = some u → W PP l EE (headSpec wsX12_isNamed ({ frames := 0, cells := 0, slots := 0, locals := 0 })).room S0 MM (#[.ref (g 0), .int x1] : Array Value) below meth CC H locs 0 0 (MQ below (cQi D (wX g cA t s r c y d k q o m) A u) (#[.ref (g 0), .int x1] : Array Value) S0 0 0 A) (F0 MM 30 ls []) := by
    intro  n
    induction n with
    | zero => intros; rename_i hE; exact absurd hE (by simp [b_X12_isNamed_30])
    | succ n ih30 =>
      intro y1 y2 y3 t d
      intro H locs ls hP hD hS hl hE
      unfold b_X12_isNamed_30 at hE
      refine lv_iload_n hx hb dX12_isNamed_30 rfl (lv_at hl 3 rfl) ?_
      refine lv_aload_n hx hb dX12_isNamed_31 rfl (lv_at hl 0 rfl) ?_
      refine va_get (D := D) (ci := 10) (v := .int t.2.2.2.1) (C := RX12) (T := TX12) (N := 40) hx hb hts inX12 hown hK hP 0 rfl rfl 33 (by decide) k3 (fun _ h9 => h9) rfl dX12_isNamed_32 ?_
      refine lv_icmp_ge (tgt := 79) hx hb dX12_isNamed_35 (by decide) (fun c5 => ?_) (fun c5 => ?_)
      · have hE := if_t c5 hE
        refine lv_iload_n hx hb dX12_isNamed_79 rfl (lv_at hl 2 rfl) ?_
        have ⟨c6, hE⟩ := ck_some hE
        obtain rfl := Option.some.inj hE
        exact rt_n hx hb hr (zfit c6).1 hP hS rfl hlocks dX12_isNamed_80
      · have hE := if_f c5 hE
        refine lv_iload_n hx hb dX12_isNamed_38 rfl (lv_at hl 2 rfl) ?_
        refine lv_if_eq (tgt := 79) hx hb dX12_isNamed_39 (by decide) (fun c7 => ?_) (fun c7 => ?_)
        · have hE := if_t c7 hE
          refine lv_iload_n hx hb dX12_isNamed_79 rfl (lv_at hl 2 rfl) ?_
          have ⟨c8, hE⟩ := ck_some hE
          obtain rfl := Option.some.inj hE
          exact rt_n hx hb hr (zfit c8).1 hP hS rfl hlocks dX12_isNamed_80
        · have hE := if_f c7 hE
          refine lv_aload_n hx hb dX12_isNamed_42 rfl (lv_at hl 0 rfl) ?_
          refine va_get (D := D) (ci := 10) (v := .ref (g 16)) (C := RX12) (T := TX12) (N := 40) hx hb hts inX12 hown hK hP 0 rfl rfl 23 (by decide) k4 (fun _ h9 => h9) rfl dX12_isNamed_43 ?_
          refine lv_bipush (v := 9) hx hb dX12_isNamed_46 (by decide +kernel) ?_
          refine lv_iload_n hx hb dX12_isNamed_48 rfl (lv_at hl 1 rfl) ?_
          refine lv_imul hx hb dX12_isNamed_49 ?_
          refine lv_iload_n hx hb dX12_isNamed_50 rfl (lv_at hl 3 rfl) ?_
          refine lv_iadd hx hb dX12_isNamed_51 ?_
          have ⟨c9, hE⟩ := ck_some hE
          refine va_iald hx hb hK hP 16 0 rfl rfl c9 dX12_isNamed_52 ?_
          refine lv_aload_n hx hb dX12_isNamed_53 rfl (lv_at hl 0 rfl) ?_
          refine va_get (D := D) (ci := 10) (v := .ref (g 3)) (C := RX12) (T := TX12) (N := 40) hx hb hts inX12 hown hK hP 0 rfl rfl 3 (by decide) k5 (fun _ h9 => h9) rfl dX12_isNamed_54 ?_
          refine lv_aload_n hx hb dX12_isNamed_57 rfl (lv_at hl 0 rfl) ?_
          refine va_get (D := D) (ci := 10) (v := .int t.2.2.1) (C := RX12) (T := TX12) (N := 40) hx hb hts inX12 hown hK hP 0 rfl rfl 32 (by decide) k6 (fun _ h9 => h9) rfl dX12_isNamed_58 ?_
          refine lv_iload_n hx hb dX12_isNamed_61 rfl (lv_at hl 3 rfl) ?_
          refine lv_iadd hx hb dX12_isNamed_62 ?_
          have ⟨c10, hE⟩ := ck_some hE
          refine va_iald hx hb hK hP 3 0 rfl rfl c10 dX12_isNamed_63 ?_
          refine lv_icmp_ne (tgt := 71) hx hb dX12_isNamed_64 (by decide) (fun c11 => ?_) (fun c11 => ?_)
          · have hE := if_f c11 hE
            refine lv_iconst (v := 0) hx hb dX12_isNamed_71 (by decide +kernel) ?_
            exact w72 (b_X12_isNamed_30 n) ih30 y1 y3 0 t d H locs ls hP hD hS (lv_sub hl [0, 1, 3] rfl) hE
          · have hE := if_t c11 hE
            refine lv_iconst (v := 1) hx hb dX12_isNamed_67 (by decide +kernel) ?_
            refine lv_goto (tgt := 72) hx hb dX12_isNamed_68 (by decide) ?_
            exact w72 (b_X12_isNamed_30 n) ih30 y1 y3 1 t d H locs ls hP hD hS (lv_sub hl [0, 1, 3] rfl) hE
  have w27 : ∀ (y1 : Int32) (z0 : Int32) (t : mT) (d : mD) (H : Heap) (locs : List Loc) (ls : Array Slot), va_P D vwCl (wX g cA t s r c y d k q o m) H → va_D A (wX g cA t s r c y d k q o m) → va_S A S0.heap H locs → lv_has ls 4 [(0, .ref (g 0)), (1, .int y1)] → b_X12_isNamed_27  y1 z0 t d = some u → W PP l EE (headSpec wsX12_isNamed ({ frames := 0, cells := 0, slots := 0, locals := 0 })).room S0 MM (#[.ref (g 0), .int x1] : Array Value) below meth CC H locs 0 0 (MQ below (cQi D (wX g cA t s r c y d k q o m) A u) (#[.ref (g 0), .int x1] : Array Value) S0 0 0 A) (F0 MM 27 ls [.int z0]) := by
    intro y1 z0 t d
    intro H locs ls hP hD hS hl hE
    unfold b_X12_isNamed_27 at hE
    refine lv_istore_n (lv' := [(2, .int z0), (0, .ref (g 0)), (1, .int y1)]) hx hb dX12_isNamed_27 rfl hl (by decide) rfl (fun ls hl => ?_)
    refine lv_iconst (v := 0) hx hb dX12_isNamed_28 (by decide +kernel) ?_
    refine lv_istore_n (lv' := [(3, .int 0), (2, .int z0), (0, .ref (g 0)), (1, .int y1)]) hx hb dX12_isNamed_29 rfl hl (by decide) rfl (fun ls hl => ?_)
    exact w30 FU y1 z0 0 t d H locs ls hP hD hS (lv_sub hl [2, 3, 1, 0] rfl) hE
  have w26 : ∀ (y1 : Int32) (t : mT) (d : mD) (H : Heap) (locs : List Loc) (ls : Array Slot), va_P D vwCl (wX g cA t s r c y d k q o m) H → va_D A (wX g cA t s r c y d k q o m) → va_S A S0.heap H locs → lv_has ls 4 [(0, .ref (g 0)), (1, .int y1)] → b_X12_isNamed_26  y1 t d = some u → W PP l EE (headSpec wsX12_isNamed ({ frames := 0, cells := 0, slots := 0, locals := 0 })).room S0 MM (#[.ref (g 0), .int x1] : Array Value) below meth CC H locs 0 0 (MQ below (cQi D (wX g cA t s r c y d k q o m) A u) (#[.ref (g 0), .int x1] : Array Value) S0 0 0 A) (F0 MM 26 ls []) := by
    intro y1 t d
    intro H locs ls hP hD hS hl hE
    unfold b_X12_isNamed_26 at hE
    refine lv_iconst (v := 0) hx hb dX12_isNamed_26 (by decide +kernel) ?_
    exact w27  y1 0 t d H locs ls hP hD hS (lv_sub hl [0, 1] rfl) hE
  unfold f_X12_isNamed at hE
  suffices main : ∀ (H : Heap) (locs : List Loc) (ls : Array Slot), va_P D vwCl (wX g cA t s r c y d k q o m) H → va_D A (wX g cA t s r c y d k q o m) → va_S A S0.heap H locs → lv_has ls 4 [(0, .ref (g 0)), (1, .int x1)] → W PP l EE (headSpec wsX12_isNamed ({ frames := 0, cells := 0, slots := 0, locals := 0 })).room S0 MM (#[.ref (g 0), .int x1] : Array Value) below meth CC H locs 0 0 (MQ below (cQi D (wX g cA t s r c y d k q o m) A u) (#[.ref (g 0), .int x1] : Array Value) S0 0 0 A) (F0 MM 0 ls []) from main _ _ _ hP hD hS hl
  intro H locs ls hP hD hS hl
  refine lv_aload_n hx hb dX12_isNamed_0 rfl (lv_at hl 0 rfl) ?_
  refine va_get (D := D) (ci := 10) (v := .ref (g 15)) (C := RX12) (T := TX12) (N := 40) hx hb hts inX12 hown hK hP 0 rfl rfl 22 (by decide) k0 (fun _ h9 => h9) rfl dX12_isNamed_1 ?_
  refine lv_iload_n hx hb dX12_isNamed_4 rfl (lv_at hl 1 rfl) ?_
  have ⟨c1, hE⟩ := ck_some hE
  refine va_zald hx hb hK hP 15 1 rfl rfl c1 dX12_isNamed_5 ?_
  refine lv_if_eq (tgt := 26) hx hb dX12_isNamed_6 (by decide) (fun c2 => ?_) (fun c2 => ?_)
  · have hE := if_t c2 hE
    exact w26  x1 t d H locs ls hP hD hS (lv_sub hl [0, 1] rfl) hE
  · have hE := if_f c2 hE
    refine lv_aload_n hx hb dX12_isNamed_9 rfl (lv_at hl 0 rfl) ?_
    refine va_get (D := D) (ci := 10) (v := .ref (g 17)) (C := RX12) (T := TX12) (N := 40) hx hb hts inX12 hown hK hP 0 rfl rfl 24 (by decide) k2 (fun _ h9 => h9) rfl dX12_isNamed_10 ?_
    refine lv_iload_n hx hb dX12_isNamed_13 rfl (lv_at hl 1 rfl) ?_
    have ⟨c3, hE⟩ := ck_some hE
    refine va_iald hx hb hK hP 17 0 rfl rfl c3 dX12_isNamed_14 ?_
    refine lv_aload_n hx hb dX12_isNamed_15 rfl (lv_at hl 0 rfl) ?_
    refine va_get (D := D) (ci := 10) (v := .int t.2.2.2.1) (C := RX12) (T := TX12) (N := 40) hx hb hts inX12 hown hK hP 0 rfl rfl 33 (by decide) k3 (fun _ h9 => h9) rfl dX12_isNamed_16 ?_
    refine lv_icmp_ne (tgt := 26) hx hb dX12_isNamed_19 (by decide) (fun c4 => ?_) (fun c4 => ?_)
    · have hE := if_f c4 hE
      exact w26  x1 t d H locs ls hP hD hS (lv_sub hl [0, 1] rfl) hE
    · have hE := if_t c4 hE
      refine lv_iconst (v := 1) hx hb dX12_isNamed_22 (by decide +kernel) ?_
      refine lv_goto (tgt := 27) hx hb dX12_isNamed_23 (by decide) ?_
      exact w27  x1 1 t d H locs ls hP hD hS (lv_sub hl [0, 1] rfl) hE
set_option maxRecDepth 20000 in
theorem hX12_meaning_X12_isNamed_242 : GoodIn wsX12_meaning (wsV RX12 242 RX12 yX12_isNamed wsX12_isNamed) := goodIn_r _ [10, 11, 12, 13, 14, 15, 16, 1, 17, 3, 4, 18, 19, 20, 21, 22, 23, 24, 25, 26, 27, 28, 29, 30, 31, 32, 33, 34, 35, 36, 37, 38, 39, 40, 41, 42, 43, 44, 45, 46, 47, 48, 49, 50, 51, 52, 53, 54, 55, 56, 57] rfl (by decide +kernel)
set_option maxHeartbeats 4000000 in
set_option maxRecDepth 100000 in
theorem c_X12_meaning (l : Launch) (D : va_G) (cA : Nat → ClassId) (g : Nat → Nat) (sz : Nat) (t : mT) (s : mS) (r : mR) (c : mC) (y : mY) (d : mD) (k : mK) (q : mP) (o : mO) (m : mM) (u : Int32) (hE : f_X12_meaning t d = some u) : Met l yX12_meaning wsX12_meaning ({ frames := 1, cells := 0, slots := 0, locals := 23 }) (va_Pc [.ref (g 0)] (PRE D cA (wX g cA t s r c y d k q o m) sz (fun _ => True))) (cQi D (wX g cA t s r c y d k q o m) (va_A (wX g cA t s r c y d k q o m) sz) u) 0 0 (va_A (wX g cA t s r c y d k q o m) sz) := by
  refine Met.ofW (cc := cX12_meaning) (maxL := 4) (ret := (some .int)) (by decide) rfl ?_
  intro PP EE S0 MM args below meth CC S1 B hml hv
  obtain ⟨rfl, hsz, hP, hK, hD0, hX⟩ := hv
  have hx := B.exec
  have hb := B.bytes
  have hr := B.returns
  have hts := atoms_spec (ws := wsX12_meaning) B.pre
  have hown : S0.vm.findClass RX12 = some MM.cls := findClass_of_methodNamed B.named
  have hlocks := B.notSynchronized
  subst hsz
  have hD := hD0.self (sz := S0.heap.size)
  generalize hAe : va_A (wX g cA t s r c y d k q o m) S0.heap.size = A at hD ⊢
  have hA : ∀ q : Nat, S0.heap.size ≤ q → A q := fun q h => by rw [← hAe]; exact Or.inr h
  have hS : va_S A S0.heap S0.heap [] := va_S.rf
  have k0 := hts (.fieldLink RX12 232 "WordForgeModel" "length" "I") (List.mem_of_getElem? (i := 1) rfl)
  have inX12 : ∀ w ∈ wsX120, w ∈ wsX12_meaning := fun _ h => List.mem_cons_of_mem _ (List.mem_append_right _ h)
  have k2 := hts (.fieldLink RX12 239 "WordForgeModel" "made" "I") (List.mem_of_getElem? (i := 2) rfl)
  have k3 := hts (.constantLong RX12 247 (26780447208)) (List.mem_of_getElem? (i := 6) rfl)
  have k4 := hts (.constantLong RX12 249 (40)) (List.mem_of_getElem? (i := 7) rfl)
  have k5 := hts (.fieldLink RX12 162 "WordForgeModel" "text" "[I") (List.mem_of_getElem? (i := 3) rfl)
  have k6 := hts (.fieldLink RX12 229 "WordForgeModel" "from" "I") (List.mem_of_getElem? (i := 4) rfl)
  have k7 := hts (.constantLong RX12 245 (128)) (List.mem_of_getElem? (i := 5) rfl)
  have k8 := hts (.fieldLink RX12 73 "WordForgeModel" "early" "[J") (List.mem_of_getElem? (i := 8) rfl)
  have k9 := hts (.fieldLink RX12 159 "WordForgeModel" "late" "[J") (List.mem_of_getElem? (i := 9) rfl)
  have hl := lv_entry ([.ref (g 0)]) (n := 4) (Nat.le_of_ble_eq_true rfl)
  rw [lg_entry_eq]
  generalize (lg_sl ([.ref (g 0)]) ++ List.replicate (4 - (lg_sl ([.ref (g 0)])).length) Slot.unset).toArray = ls at hl ⊢
  have hl : lv_has ls 4 [(0, .ref (g 0))] := hl
  have w159 : ∀ (K134 : Int64 → Int32 → mT → mD → Option (Int32)) (_ : ∀ (y1 : Int64) (y3 : Int32) (t : mT) (d : mD) (H : Heap) (locs : List Loc) (ls : Array Slot), va_P D vwCl (wX g cA t s r c y d k q o m) H → va_D A (wX g cA t s r c y d k q o m) → va_S A S0.heap H locs → lv_has ls 4 [(0, .ref (g 0)), (1, .long y1), (3, .int y3)] → K134 y1 y3 t d = some u → W PP l EE (headSpec wsX12_meaning ({ frames := 1, cells := 0, slots := 0, locals := 23 })).room S0 MM (#[.ref (g 0)] : Array Value) below meth CC H locs 0 0 (MQ below (cQi D (wX g cA t s r c y d k q o m) A u) (#[.ref (g 0)] : Array Value) S0 0 0 A) (F0 MM 134 ls [])), ∀ (y1 : Int64) (y3 : Int32) (t : mT) (d : mD) (H : Heap) (locs : List Loc) (ls : Array Slot), va_P D vwCl (wX g cA t s r c y d k q o m) H → va_D A (wX g cA t s r c y d k q o m) → va_S A S0.heap H locs → lv_has ls 4 [(0, .ref (g 0)), (1, .long y1), (3, .int y3)] → b_X12_meaning_159 K134 y1 y3 t d = some u → W PP l EE (headSpec wsX12_meaning ({ frames := 1, cells := 0, slots := 0, locals := 23 })).room S0 MM (#[.ref (g 0)] : Array Value) below meth CC H locs 0 0 (MQ below (cQi D (wX g cA t s r c y d k q o m) A u) (#[.ref (g 0)] : Array Value) S0 0 0 A) (F0 MM 159 ls []) := by
    intro K134 hK134
    intro y1 y3 t d
    intro H locs ls hP hD hS hl hE
    unfold b_X12_meaning_159 at hE
    refine lv_lload_n hx hb dX12_meaning_159 rfl (lv_at hl 1 rfl) ?_
    refine lv_aload_n hx hb dX12_meaning_160 rfl (lv_at hl 0 rfl) ?_
    refine va_get (D := D) (ci := 10) (v := .ref (g 2)) (C := RX12) (T := TX12) (N := 40) hx hb hts inX12 hown hK hP 0 rfl rfl 1 (by decide) k9 (fun _ h9 => h9) rfl dX12_meaning_161 ?_
    refine lv_iload_n hx hb dX12_meaning_164 rfl (lv_at hl 2 rfl) ?_
    have ⟨c18, hE⟩ := ck_some hE
    refine va_lald hx hb hK hP 2 3 rfl rfl c18 dX12_meaning_165 ?_
    refine W.lcmp hx hb dX12_meaning_166 ?_
    refine lv_if_ne (tgt := 175) hx hb dX12_meaning_167 (by decide) (fun c19 => ?_) (fun c19 => ?_)
    · have hE := if_f c19 hE
      refine lv_iinc (v := y3 + 1) (lv' := [(3, .int (y3 + 1)), (0, .ref (g 0)), (1, .long y1)]) hx hb dX12_meaning_175 hl (k := 2) rfl rfl (by decide) rfl (fun ls hl => ?_)
      refine lv_goto (tgt := 134) hx hb dX12_meaning_178 (by decide) ?_
      exact hK134 y1 (y3 + 1) t d H locs ls hP hD hS (lv_sub hl [1, 2, 0] rfl) hE
    · have hE := if_t c19 hE
      refine lv_bipush (v := 40) hx hb dX12_meaning_170 (by decide +kernel) ?_
      refine lv_iload_n hx hb dX12_meaning_172 rfl (lv_at hl 2 rfl) ?_
      refine lv_iadd hx hb dX12_meaning_173 ?_
      obtain rfl := Option.some.inj hE
      exact rt_i hx hb hr hP hS rfl hlocks dX12_meaning_174
  have w134 : ∀ (n : Nat), ∀ (y1 : Int64) (y3 : Int32) (t : mT) (d : mD) (H : Heap) (locs : List Loc) (ls : Array Slot), va_P D vwCl (wX g cA t s r c y d k q o m) H → va_D A (wX g cA t s r c y d k q o m) → va_S A S0.heap H locs → lv_has ls 4 [(0, .ref (g 0)), (1, .long y1), (3, .int y3)] → b_X12_meaning_134 n y1 y3 t d = some u → W PP l EE (headSpec wsX12_meaning ({ frames := 1, cells := 0, slots := 0, locals := 23 })).room S0 MM (#[.ref (g 0)] : Array Value) below meth CC H locs 0 0 (MQ below (cQi D (wX g cA t s r c y d k q o m) A u) (#[.ref (g 0)] : Array Value) S0 0 0 A) (F0 MM 134 ls []) := by
    intro  n
    induction n with
    | zero => intros; rename_i hE; exact absurd hE (by simp [b_X12_meaning_134])
    | succ n ih134 =>
      intro y1 y3 t d
      intro H locs ls hP hD hS hl hE
      unfold b_X12_meaning_134 at hE
      refine lv_iload_n hx hb dX12_meaning_134 rfl (lv_at hl 2 rfl) ?_
      refine lv_bipush (v := 40) hx hb dX12_meaning_135 (by decide +kernel) ?_
      refine lv_icmp_ge (tgt := 181) hx hb dX12_meaning_137 (by decide) (fun c14 => ?_) (fun c14 => ?_)
      · have hE := if_t c14 hE
        refine lv_iconst (v := (-1)) hx hb dX12_meaning_181 (by decide +kernel) ?_
        obtain rfl := Option.some.inj hE
        exact rt_i hx hb hr hP hS rfl hlocks dX12_meaning_182
      · have hE := if_f c14 hE
        refine lv_lload_n hx hb dX12_meaning_140 rfl (lv_at hl 1 rfl) ?_
        refine lv_aload_n hx hb dX12_meaning_141 rfl (lv_at hl 0 rfl) ?_
        refine va_get (D := D) (ci := 10) (v := .ref (g 1)) (C := RX12) (T := TX12) (N := 40) hx hb hts inX12 hown hK hP 0 rfl rfl 0 (by decide) k8 (fun _ h9 => h9) rfl dX12_meaning_142 ?_
        refine lv_iload_n hx hb dX12_meaning_145 rfl (lv_at hl 2 rfl) ?_
        have ⟨c15, hE⟩ := ck_some hE
        refine va_lald hx hb hK hP 1 3 rfl rfl c15 dX12_meaning_146 ?_
        refine W.lcmp hx hb dX12_meaning_147 ?_
        refine lv_if_ne (tgt := 159) hx hb dX12_meaning_148 (by decide) (fun c16 => ?_) (fun c16 => ?_)
        · have hE := if_f c16 hE
          exact w159 (b_X12_meaning_134 n) ih134 y1 y3 t d H locs ls hP hD hS (lv_sub hl [0, 1, 2] rfl) hE
        · have hE := if_t c16 hE
          refine lv_lload_n hx hb dX12_meaning_151 rfl (lv_at hl 1 rfl) ?_
          refine lv_lconst (v := 0) hx hb dX12_meaning_152 (by decide +kernel) ?_
          refine W.lcmp hx hb dX12_meaning_153 ?_
          refine lv_if_eq (tgt := 159) hx hb dX12_meaning_154 (by decide) (fun c17 => ?_) (fun c17 => ?_)
          · have hE := if_t c17 hE
            exact w159 (b_X12_meaning_134 n) ih134 y1 y3 t d H locs ls hP hD hS (lv_sub hl [0, 1, 2] rfl) hE
          · have hE := if_f c17 hE
            refine lv_iload_n hx hb dX12_meaning_157 rfl (lv_at hl 2 rfl) ?_
            obtain rfl := Option.some.inj hE
            exact rt_i hx hb hr hP hS rfl hlocks dX12_meaning_158
  have w45 : ∀ (n : Nat), ∀ (y1 : Int64) (y3 : Int32) (t : mT) (d : mD) (H : Heap) (locs : List Loc) (ls : Array Slot), va_P D vwCl (wX g cA t s r c y d k q o m) H → va_D A (wX g cA t s r c y d k q o m) → va_S A S0.heap H locs → lv_has ls 4 [(0, .ref (g 0)), (1, .long y1), (3, .int y3)] → b_X12_meaning_45 n y1 y3 t d = some u → W PP l EE (headSpec wsX12_meaning ({ frames := 1, cells := 0, slots := 0, locals := 23 })).room S0 MM (#[.ref (g 0)] : Array Value) below meth CC H locs 0 0 (MQ below (cQi D (wX g cA t s r c y d k q o m) A u) (#[.ref (g 0)] : Array Value) S0 0 0 A) (F0 MM 45 ls []) := by
    intro  n
    induction n with
    | zero => intros; rename_i hE; exact absurd hE (by simp [b_X12_meaning_45])
    | succ n ih45 =>
      intro y1 y3 t d
      intro H locs ls hP hD hS hl hE
      unfold b_X12_meaning_45 at hE
      refine lv_iload_n hx hb dX12_meaning_45 rfl (lv_at hl 2 rfl) ?_
      refine lv_aload_n hx hb dX12_meaning_46 rfl (lv_at hl 0 rfl) ?_
      refine va_get (D := D) (ci := 10) (v := .int t.2.2.2.1) (C := RX12) (T := TX12) (N := 40) hx hb hts inX12 hown hK hP 0 rfl rfl 33 (by decide) k0 (fun _ h9 => h9) rfl dX12_meaning_47 ?_
      refine lv_icmp_ge (tgt := 110) hx hb dX12_meaning_50 (by decide) (fun c6 => ?_) (fun c6 => ?_)
      · have hE := if_t c6 hE
        refine lv_lload_n hx hb dX12_meaning_110 rfl (lv_at hl 1 rfl) ?_
        refine lv_ldc2 (v := 26780447208) hx hb hown k3 dX12_meaning_111 ?_
        refine W.lcmp hx hb dX12_meaning_114 ?_
        refine lv_if_ne (tgt := 121) hx hb dX12_meaning_115 (by decide) (fun c7 => ?_) (fun c7 => ?_)
        · have hE := if_f c7 hE
          refine lv_lload_n hx hb dX12_meaning_121 rfl (lv_at hl 1 rfl) ?_
          refine lv_ldc2 (v := 40) hx hb hown k4 dX12_meaning_122 ?_
          refine W.lcmp hx hb dX12_meaning_125 ?_
          refine lv_if_ne (tgt := 132) hx hb dX12_meaning_126 (by decide) (fun c8 => ?_) (fun c8 => ?_)
          · have hE := if_f c8 hE
            refine lv_iconst (v := 0) hx hb dX12_meaning_132 (by decide +kernel) ?_
            refine lv_istore_n (lv' := [(3, .int 0), (0, .ref (g 0)), (1, .long y1)]) hx hb dX12_meaning_133 rfl hl (by decide) rfl (fun ls hl => ?_)
            exact w134 FU y1 0 t d H locs ls hP hD hS (lv_sub hl [1, 2, 0] rfl) hE
          · have hE := if_t c8 hE
            refine lv_bipush (v := 81) hx hb dX12_meaning_129 (by decide +kernel) ?_
            obtain rfl := Option.some.inj hE
            exact rt_i hx hb hr hP hS rfl hlocks dX12_meaning_131
        · have hE := if_t c7 hE
          refine lv_bipush (v := 80) hx hb dX12_meaning_118 (by decide +kernel) ?_
          obtain rfl := Option.some.inj hE
          exact rt_i hx hb hr hP hS rfl hlocks dX12_meaning_120
      · have hE := if_f c6 hE
        refine lv_aload_n hx hb dX12_meaning_53 rfl (lv_at hl 0 rfl) ?_
        refine va_get (D := D) (ci := 10) (v := .ref (g 3)) (C := RX12) (T := TX12) (N := 40) hx hb hts inX12 hown hK hP 0 rfl rfl 3 (by decide) k5 (fun _ h9 => h9) rfl dX12_meaning_54 ?_
        refine lv_aload_n hx hb dX12_meaning_57 rfl (lv_at hl 0 rfl) ?_
        refine va_get (D := D) (ci := 10) (v := .int t.2.2.1) (C := RX12) (T := TX12) (N := 40) hx hb hts inX12 hown hK hP 0 rfl rfl 32 (by decide) k6 (fun _ h9 => h9) rfl dX12_meaning_58 ?_
        refine lv_iload_n hx hb dX12_meaning_61 rfl (lv_at hl 2 rfl) ?_
        refine lv_iadd hx hb dX12_meaning_62 ?_
        have ⟨c9, hE⟩ := ck_some hE
        refine va_iald hx hb hK hP 3 0 rfl rfl c9 dX12_meaning_63 ?_
        refine lv_bipush (v := 127) hx hb dX12_meaning_64 (by decide +kernel) ?_
        refine lv_icmp_gt (tgt := 83) hx hb dX12_meaning_66 (by decide) (fun c10 => ?_) (fun c10 => ?_)
        · have hE := if_t c10 hE
          refine lv_iconst (v := (-1)) hx hb dX12_meaning_83 (by decide +kernel) ?_
          obtain rfl := Option.some.inj hE
          exact rt_i hx hb hr hP hS rfl hlocks dX12_meaning_84
        · have hE := if_f c10 hE
          refine lv_aload_n hx hb dX12_meaning_69 rfl (lv_at hl 0 rfl) ?_
          refine va_get (D := D) (ci := 10) (v := .ref (g 3)) (C := RX12) (T := TX12) (N := 40) hx hb hts inX12 hown hK hP 0 rfl rfl 3 (by decide) k5 (fun _ h9 => h9) rfl dX12_meaning_70 ?_
          refine lv_aload_n hx hb dX12_meaning_73 rfl (lv_at hl 0 rfl) ?_
          refine va_get (D := D) (ci := 10) (v := .int t.2.2.1) (C := RX12) (T := TX12) (N := 40) hx hb hts inX12 hown hK hP 0 rfl rfl 32 (by decide) k6 (fun _ h9 => h9) rfl dX12_meaning_74 ?_
          refine lv_iload_n hx hb dX12_meaning_77 rfl (lv_at hl 2 rfl) ?_
          refine lv_iadd hx hb dX12_meaning_78 ?_
          have ⟨c11, hE⟩ := ck_some hE
          refine va_iald hx hb hK hP 3 0 rfl rfl c11 dX12_meaning_79 ?_
          refine lv_if_ne (tgt := 85) hx hb dX12_meaning_80 (by decide) (fun c12 => ?_) (fun c12 => ?_)
          · have hE := if_f c12 hE
            refine lv_lload_n hx hb dX12_meaning_85 rfl (lv_at hl 1 rfl) ?_
            refine lv_ldc2 (v := 128) hx hb hown k7 dX12_meaning_86 ?_
            refine lv_lmul hx hb dX12_meaning_89 ?_
            refine lv_aload_n hx hb dX12_meaning_90 rfl (lv_at hl 0 rfl) ?_
            refine va_get (D := D) (ci := 10) (v := .ref (g 3)) (C := RX12) (T := TX12) (N := 40) hx hb hts inX12 hown hK hP 0 rfl rfl 3 (by decide) k5 (fun _ h9 => h9) rfl dX12_meaning_91 ?_
            refine lv_aload_n hx hb dX12_meaning_94 rfl (lv_at hl 0 rfl) ?_
            refine va_get (D := D) (ci := 10) (v := .int t.2.2.1) (C := RX12) (T := TX12) (N := 40) hx hb hts inX12 hown hK hP 0 rfl rfl 32 (by decide) k6 (fun _ h9 => h9) rfl dX12_meaning_95 ?_
            refine lv_iload_n hx hb dX12_meaning_98 rfl (lv_at hl 2 rfl) ?_
            refine lv_iadd hx hb dX12_meaning_99 ?_
            have ⟨c13, hE⟩ := ck_some hE
            refine va_iald hx hb hK hP 3 0 rfl rfl c13 dX12_meaning_100 ?_
            refine lv_i2l hx hb dX12_meaning_101 rfl ?_
            refine lv_ladd hx hb dX12_meaning_102 ?_
            refine lv_lstore_n (lv' := [(1, .long ((y1 * 128) + ((t.2.2.2.2 ((t.2.2.1 + y3).toNatClampNeg)).toInt64))), (0, .ref (g 0)), (3, .int y3)]) hx hb dX12_meaning_103 rfl hl (by decide) rfl (fun ls hl => ?_)
            refine lv_iinc (v := y3 + 1) (lv' := [(3, .int (y3 + 1)), (1, .long ((y1 * 128) + ((t.2.2.2.2 ((t.2.2.1 + y3).toNatClampNeg)).toInt64))), (0, .ref (g 0))]) hx hb dX12_meaning_104 hl (k := 2) rfl rfl (by decide) rfl (fun ls hl => ?_)
            refine lv_goto (tgt := 45) hx hb dX12_meaning_107 (by decide) ?_
            exact ih45 ((y1 * 128) + ((t.2.2.2.2 ((t.2.2.1 + y3).toNatClampNeg)).toInt64)) (y3 + 1) t d H locs ls hP hD hS (lv_sub hl [2, 1, 0] rfl) hE
          · have hE := if_t c12 hE
            refine lv_iconst (v := (-1)) hx hb dX12_meaning_83 (by decide +kernel) ?_
            obtain rfl := Option.some.inj hE
            exact rt_i hx hb hr hP hS rfl hlocks dX12_meaning_84
  have w18 : ∀ (n : Nat), ∀ (y1 : Int32) (t : mT) (d : mD) (H : Heap) (locs : List Loc) (ls : Array Slot), va_P D vwCl (wX g cA t s r c y d k q o m) H → va_D A (wX g cA t s r c y d k q o m) → va_S A S0.heap H locs → lv_has ls 4 [(0, .ref (g 0)), (1, .int y1)] → b_X12_meaning_18 n y1 t d = some u → W PP l EE (headSpec wsX12_meaning ({ frames := 1, cells := 0, slots := 0, locals := 23 })).room S0 MM (#[.ref (g 0)] : Array Value) below meth CC H locs 0 0 (MQ below (cQi D (wX g cA t s r c y d k q o m) A u) (#[.ref (g 0)] : Array Value) S0 0 0 A) (F0 MM 18 ls []) := by
    intro  n
    induction n with
    | zero => intros; rename_i hE; exact absurd hE (by simp [b_X12_meaning_18])
    | succ n ih18 =>
      intro y1 t d
      intro H locs ls hP hD hS hl hE
      unfold b_X12_meaning_18 at hE
      refine lv_iload_n hx hb dX12_meaning_18 rfl (lv_at hl 1 rfl) ?_
      refine lv_if_lt (tgt := 41) hx hb dX12_meaning_19 (by decide) (fun c2 => ?_) (fun c2 => ?_)
      · have hE := if_t c2 hE
        refine lv_lconst (v := 0) hx hb dX12_meaning_41 (by decide +kernel) ?_
        refine lv_lstore_n (lv' := [(1, .long 0), (0, .ref (g 0))]) hx hb dX12_meaning_42 rfl hl (by decide) rfl (fun ls hl => ?_)
        refine lv_iconst (v := 0) hx hb dX12_meaning_43 (by decide +kernel) ?_
        refine lv_istore_n (lv' := [(3, .int 0), (1, .long 0), (0, .ref (g 0))]) hx hb dX12_meaning_44 rfl hl (by decide) rfl (fun ls hl => ?_)
        exact w45 FU 0 0 t d H locs ls hP hD hS (lv_sub hl [2, 1, 0] rfl) hE
      · have hE := if_f c2 hE
        refine lv_aload_n hx hb dX12_meaning_22 rfl (lv_at hl 0 rfl) ?_
        refine lv_iload_n hx hb dX12_meaning_23 rfl (lv_at hl 1 rfl) ?_
        obtain ⟨u3, h4, hE⟩ := bd_some hE
        refine cw_i (As := [.int y1]) (rest := []) (r := u3) (wc := (wX g cA t s r c y d k q o m)) ⟨hx, hb, hml, hown, hts⟩ (c_X12_isNamed l D cA g H.size y1 t s r c y d k q o m u3 h4) (cwV 1 hts hX12_meaning_X12_isNamed_242 rfl rfl rfl (by decide +kernel) ⟨Nat.le_of_ble_eq_true rfl, Nat.le_of_ble_eq_true rfl⟩) rfl hl.1 rfl (Nat.le_of_ble_eq_true rfl) dX12_meaning_24 ⟨Nat.zero_le _, Nat.zero_le _⟩ hK hP hD hS hA (va_recv hK hP (ci := 10) (q0 := 0) rfl rfl) [g 0, g 1, g 2, g 3, g 4, g 5, g 6, g 7, g 8, g 9, g 10, g 11, g 12, g 13, g 14, g 15, g 16, g 17, g 18, g 19] rfl rfl (fun _ _ _ _ h => h) (fun _ _ _ => trivial) (fun H locs hP hD hS => ?_)
        have hP : va_P D vwCl (wX g cA t s r c y d k q o m) H := hP
        have hD : va_D A (wX g cA t s r c y d k q o m) := hD
        refine lv_if_eq (tgt := 35) hx hb dX12_meaning_27 (by decide) (fun c5 => ?_) (fun c5 => ?_)
        · have hE := if_t c5 hE
          refine lv_iinc (v := y1 + (-1)) (lv' := [(1, .int (y1 + (-1))), (0, .ref (g 0))]) hx hb dX12_meaning_35 hl (k := 1) rfl rfl (by decide) rfl (fun ls hl => ?_)
          refine lv_goto (tgt := 18) hx hb dX12_meaning_38 (by decide) ?_
          exact ih18 (y1 + (-1)) t d H locs ls hP hD hS (lv_sub hl [1, 0] rfl) hE
        · have hE := if_f c5 hE
          refine lv_bipush (v := 82) hx hb dX12_meaning_30 (by decide +kernel) ?_
          refine lv_iload_n hx hb dX12_meaning_32 rfl (lv_at hl 1 rfl) ?_
          refine lv_iadd hx hb dX12_meaning_33 ?_
          obtain rfl := Option.some.inj hE
          exact rt_i hx hb hr hP hS rfl hlocks dX12_meaning_34
  unfold f_X12_meaning at hE
  suffices main : ∀ (H : Heap) (locs : List Loc) (ls : Array Slot), va_P D vwCl (wX g cA t s r c y d k q o m) H → va_D A (wX g cA t s r c y d k q o m) → va_S A S0.heap H locs → lv_has ls 4 [(0, .ref (g 0))] → W PP l EE (headSpec wsX12_meaning ({ frames := 1, cells := 0, slots := 0, locals := 23 })).room S0 MM (#[.ref (g 0)] : Array Value) below meth CC H locs 0 0 (MQ below (cQi D (wX g cA t s r c y d k q o m) A u) (#[.ref (g 0)] : Array Value) S0 0 0 A) (F0 MM 0 ls []) from main _ _ _ hP hD hS hl
  intro H locs ls hP hD hS hl
  refine lv_aload_n hx hb dX12_meaning_0 rfl (lv_at hl 0 rfl) ?_
  refine va_get (D := D) (ci := 10) (v := .int t.2.2.2.1) (C := RX12) (T := TX12) (N := 40) hx hb hts inX12 hown hK hP 0 rfl rfl 33 (by decide) k0 (fun _ h9 => h9) rfl dX12_meaning_1 ?_
  refine lv_bipush (v := 9) hx hb dX12_meaning_4 (by decide +kernel) ?_
  refine lv_icmp_le (tgt := 11) hx hb dX12_meaning_6 (by decide) (fun c1 => ?_) (fun c1 => ?_)
  · have hE := if_t c1 hE
    refine lv_aload_n hx hb dX12_meaning_11 rfl (lv_at hl 0 rfl) ?_
    refine va_get (D := D) (ci := 10) (v := .int d.1) (C := RX12) (T := TX12) (N := 40) hx hb hts inX12 hown hK hP 0 rfl rfl 25 (by decide) k2 (fun _ h9 => h9) rfl dX12_meaning_12 ?_
    refine lv_iconst (v := 1) hx hb dX12_meaning_15 (by decide +kernel) ?_
    refine lv_isub hx hb dX12_meaning_16 ?_
    refine lv_istore_n (lv' := [(1, .int (d.1 - 1)), (0, .ref (g 0))]) hx hb dX12_meaning_17 rfl hl (by decide) rfl (fun ls hl => ?_)
    exact w18 FU (d.1 - 1) t d H locs ls hP hD hS (lv_sub hl [1, 0] rfl) hE
  · have hE := if_f c1 hE
    refine lv_iconst (v := (-1)) hx hb dX12_meaning_9 (by decide +kernel) ?_
    obtain rfl := Option.some.inj hE
    exact rt_i hx hb hr hP hS rfl hlocks dX12_meaning_10
set_option maxHeartbeats 4000000 in
set_option maxRecDepth 100000 in
theorem c_X12_isImmediate (l : Launch) (D : va_G) (cA : Nat → ClassId) (g : Nat → Nat) (sz : Nat) (x1 : Int32) (t : mT) (s : mS) (r : mR) (c : mC) (y : mY) (d : mD) (k : mK) (q : mP) (o : mO) (m : mM) (u : Int32) (hE : f_X12_isImmediate x1 d = some u) : Met l yX12_isImmediate wsX12_isImmediate ({ frames := 0, cells := 0, slots := 0, locals := 0 }) (va_Pc [.ref (g 0), .int x1] (PRE D cA (wX g cA t s r c y d k q o m) sz (fun _ => True))) (cQi D (wX g cA t s r c y d k q o m) (va_A (wX g cA t s r c y d k q o m) sz) u) 0 0 (va_A (wX g cA t s r c y d k q o m) sz) := by
  refine Met.ofW (cc := cX12_isImmediate) (maxL := 2) (ret := (some .boolean)) (by decide) rfl ?_
  intro PP EE S0 MM args below meth CC S1 B hml hv
  obtain ⟨rfl, hsz, hP, hK, hD0, hX⟩ := hv
  have hx := B.exec
  have hb := B.bytes
  have hr := B.returns
  have hts := atoms_spec (ws := wsX12_isImmediate) B.pre
  have hown : S0.vm.findClass RX12 = some MM.cls := findClass_of_methodNamed B.named
  have hlocks := B.notSynchronized
  subst hsz
  have hD := hD0.self (sz := S0.heap.size)
  generalize hAe : va_A (wX g cA t s r c y d k q o m) S0.heap.size = A at hD ⊢
  have hA : ∀ q : Nat, S0.heap.size ≤ q → A q := fun q h => by rw [← hAe]; exact Or.inr h
  have hS : va_S A S0.heap S0.heap [] := va_S.rf
  have k0 := hts (.fieldLink RX12 196 "WordForgeModel" "immediate" "[Z") (List.mem_of_getElem? (i := 1) rfl)
  have inX12 : ∀ w ∈ wsX120, w ∈ wsX12_isImmediate := fun _ h => List.mem_cons_of_mem _ (List.mem_append_right _ h)
  have hl := lv_entry ([.ref (g 0), .int x1]) (n := 2) (Nat.le_of_ble_eq_true rfl)
  rw [lg_entry_eq]
  generalize (lg_sl ([.ref (g 0), .int x1]) ++ List.replicate (2 - (lg_sl ([.ref (g 0), .int x1])).length) Slot.unset).toArray = ls at hl ⊢
  have hl : lv_has ls 2 [(0, .ref (g 0)), (1, .int x1)] := hl
  have w70 : ∀ (d : mD) (H : Heap) (locs : List Loc) (ls : Array Slot), va_P D vwCl (wX g cA t s r c y d k q o m) H → va_D A (wX g cA t s r c y d k q o m) → va_S A S0.heap H locs → lv_has ls 2 [] → b_X12_isImmediate_70  d = some u → W PP l EE (headSpec wsX12_isImmediate ({ frames := 0, cells := 0, slots := 0, locals := 0 })).room S0 MM (#[.ref (g 0), .int x1] : Array Value) below meth CC H locs 0 0 (MQ below (cQi D (wX g cA t s r c y d k q o m) A u) (#[.ref (g 0), .int x1] : Array Value) S0 0 0 A) (F0 MM 70 ls []) := by
    intro d
    intro H locs ls hP hD hS hl hE
    unfold b_X12_isImmediate_70 at hE
    refine lv_iconst (v := 1) hx hb dX12_isImmediate_70 (by decide +kernel) ?_
    refine lv_goto (tgt := 75) hx hb dX12_isImmediate_71 (by decide) ?_
    obtain rfl := Option.some.inj hE
    exact rt_n hx hb hr (by decide +kernel) hP hS rfl hlocks dX12_isImmediate_75
  have w64 : ∀ (y1 : Int32) (d : mD) (H : Heap) (locs : List Loc) (ls : Array Slot), va_P D vwCl (wX g cA t s r c y d k q o m) H → va_D A (wX g cA t s r c y d k q o m) → va_S A S0.heap H locs → lv_has ls 2 [(1, .int y1)] → b_X12_isImmediate_64  y1 d = some u → W PP l EE (headSpec wsX12_isImmediate ({ frames := 0, cells := 0, slots := 0, locals := 0 })).room S0 MM (#[.ref (g 0), .int x1] : Array Value) below meth CC H locs 0 0 (MQ below (cQi D (wX g cA t s r c y d k q o m) A u) (#[.ref (g 0), .int x1] : Array Value) S0 0 0 A) (F0 MM 64 ls []) := by
    intro y1 d
    intro H locs ls hP hD hS hl hE
    unfold b_X12_isImmediate_64 at hE
    refine lv_iload_n hx hb dX12_isImmediate_64 rfl (lv_at hl 0 rfl) ?_
    refine lv_bipush (v := 81) hx hb dX12_isImmediate_65 (by decide +kernel) ?_
    refine lv_icmp_ne (tgt := 74) hx hb dX12_isImmediate_67 (by decide) (fun c12 => ?_) (fun c12 => ?_)
    · have hE := if_f c12 hE
      refine lv_iconst (v := 0) hx hb dX12_isImmediate_74 (by decide +kernel) ?_
      obtain rfl := Option.some.inj hE
      exact rt_n hx hb hr (by decide +kernel) hP hS rfl hlocks dX12_isImmediate_75
    · have hE := if_t c12 hE
      exact w70  d H locs ls hP hD hS (lv_sub hl [] rfl) hE
  unfold f_X12_isImmediate at hE
  suffices main : ∀ (H : Heap) (locs : List Loc) (ls : Array Slot), va_P D vwCl (wX g cA t s r c y d k q o m) H → va_D A (wX g cA t s r c y d k q o m) → va_S A S0.heap H locs → lv_has ls 2 [(0, .ref (g 0)), (1, .int x1)] → W PP l EE (headSpec wsX12_isImmediate ({ frames := 0, cells := 0, slots := 0, locals := 0 })).room S0 MM (#[.ref (g 0), .int x1] : Array Value) below meth CC H locs 0 0 (MQ below (cQi D (wX g cA t s r c y d k q o m) A u) (#[.ref (g 0), .int x1] : Array Value) S0 0 0 A) (F0 MM 0 ls []) from main _ _ _ hP hD hS hl
  intro H locs ls hP hD hS hl
  refine lv_iload_n hx hb dX12_isImmediate_0 rfl (lv_at hl 1 rfl) ?_
  refine lv_bipush (v := 82) hx hb dX12_isImmediate_1 (by decide +kernel) ?_
  refine lv_icmp_lt (tgt := 16) hx hb dX12_isImmediate_3 (by decide) (fun c1 => ?_) (fun c1 => ?_)
  · have hE := if_t c1 hE
    refine lv_iload_n hx hb dX12_isImmediate_16 rfl (lv_at hl 1 rfl) ?_
    refine lv_bipush (v := 54) hx hb dX12_isImmediate_17 (by decide +kernel) ?_
    refine lv_icmp_eq (tgt := 70) hx hb dX12_isImmediate_19 (by decide) (fun c2 => ?_) (fun c2 => ?_)
    · have hE := if_t c2 hE
      exact w70  d H locs ls hP hD hS (lv_sub hl [] rfl) hE
    · have hE := if_f c2 hE
      refine lv_iload_n hx hb dX12_isImmediate_22 rfl (lv_at hl 1 rfl) ?_
      refine lv_bipush (v := 58) hx hb dX12_isImmediate_23 (by decide +kernel) ?_
      refine lv_icmp_eq (tgt := 70) hx hb dX12_isImmediate_25 (by decide) (fun c3 => ?_) (fun c3 => ?_)
      · have hE := if_t c3 hE
        exact w70  d H locs ls hP hD hS (lv_sub hl [] rfl) hE
      · have hE := if_f c3 hE
        refine lv_iload_n hx hb dX12_isImmediate_28 rfl (lv_at hl 1 rfl) ?_
        refine lv_bipush (v := 61) hx hb dX12_isImmediate_29 (by decide +kernel) ?_
        refine lv_icmp_eq (tgt := 70) hx hb dX12_isImmediate_31 (by decide) (fun c4 => ?_) (fun c4 => ?_)
        · have hE := if_t c4 hE
          exact w70  d H locs ls hP hD hS (lv_sub hl [] rfl) hE
        · have hE := if_f c4 hE
          refine lv_iload_n hx hb dX12_isImmediate_34 rfl (lv_at hl 1 rfl) ?_
          refine lv_bipush (v := 64) hx hb dX12_isImmediate_35 (by decide +kernel) ?_
          refine lv_icmp_eq (tgt := 70) hx hb dX12_isImmediate_37 (by decide) (fun c5 => ?_) (fun c5 => ?_)
          · have hE := if_t c5 hE
            exact w70  d H locs ls hP hD hS (lv_sub hl [] rfl) hE
          · have hE := if_f c5 hE
            refine lv_iload_n hx hb dX12_isImmediate_40 rfl (lv_at hl 1 rfl) ?_
            refine lv_bipush (v := 65) hx hb dX12_isImmediate_41 (by decide +kernel) ?_
            refine lv_icmp_eq (tgt := 70) hx hb dX12_isImmediate_43 (by decide) (fun c6 => ?_) (fun c6 => ?_)
            · have hE := if_t c6 hE
              exact w70  d H locs ls hP hD hS (lv_sub hl [] rfl) hE
            · have hE := if_f c6 hE
              refine lv_iload_n hx hb dX12_isImmediate_46 rfl (lv_at hl 1 rfl) ?_
              refine lv_bipush (v := 66) hx hb dX12_isImmediate_47 (by decide +kernel) ?_
              refine lv_icmp_eq (tgt := 70) hx hb dX12_isImmediate_49 (by decide) (fun c7 => ?_) (fun c7 => ?_)
              · have hE := if_t c7 hE
                exact w70  d H locs ls hP hD hS (lv_sub hl [] rfl) hE
              · have hE := if_f c7 hE
                refine lv_iload_n hx hb dX12_isImmediate_52 rfl (lv_at hl 1 rfl) ?_
                refine lv_bipush (v := 68) hx hb dX12_isImmediate_53 (by decide +kernel) ?_
                refine lv_icmp_lt (tgt := 64) hx hb dX12_isImmediate_55 (by decide) (fun c8 => ?_) (fun c8 => ?_)
                · have hE := if_t c8 hE
                  exact w64  x1 d H locs ls hP hD hS (lv_sub hl [1] rfl) hE
                · have hE := if_f c8 hE
                  refine lv_iload_n hx hb dX12_isImmediate_58 rfl (lv_at hl 1 rfl) ?_
                  refine lv_bipush (v := 78) hx hb dX12_isImmediate_59 (by decide +kernel) ?_
                  refine lv_icmp_le (tgt := 70) hx hb dX12_isImmediate_61 (by decide) (fun c9 => ?_) (fun c9 => ?_)
                  · have hE := if_t c9 hE
                    exact w70  d H locs ls hP hD hS (lv_sub hl [] rfl) hE
                  · have hE := if_f c9 hE
                    exact w64  x1 d H locs ls hP hD hS (lv_sub hl [1] rfl) hE
  · have hE := if_f c1 hE
    refine lv_aload_n hx hb dX12_isImmediate_6 rfl (lv_at hl 0 rfl) ?_
    refine va_get (D := D) (ci := 10) (v := .ref (g 14)) (C := RX12) (T := TX12) (N := 40) hx hb hts inX12 hown hK hP 0 rfl rfl 21 (by decide) k0 (fun _ h9 => h9) rfl dX12_isImmediate_7 ?_
    refine lv_iload_n hx hb dX12_isImmediate_10 rfl (lv_at hl 1 rfl) ?_
    refine lv_bipush (v := 82) hx hb dX12_isImmediate_11 (by decide +kernel) ?_
    refine lv_isub hx hb dX12_isImmediate_13 ?_
    have ⟨c10, hE⟩ := ck_some hE
    refine va_zald hx hb hK hP 14 1 rfl rfl c10 dX12_isImmediate_14 ?_
    have ⟨c11, hE⟩ := ck_some hE
    obtain rfl := Option.some.inj hE
    exact rt_n hx hb hr (zfit c11).1 hP hS rfl hlocks dX12_isImmediate_15
set_option maxHeartbeats 4000000 in
set_option maxRecDepth 100000 in
theorem c_X12_isNumber (l : Launch) (D : va_G) (cA : Nat → ClassId) (g : Nat → Nat) (sz : Nat) (t : mT) (s : mS) (r : mR) (c : mC) (y : mY) (d : mD) (k : mK) (q : mP) (o : mO) (m : mM) (u : Int32 × mM) (hE : f_X12_isNumber t m = some u) : Met l yX12_isNumber wsX12_isNumber ({ frames := 0, cells := 0, slots := 0, locals := 0 }) (va_Pc [.ref (g 0)] (PRE D cA (wX g cA t s r c y d k q o m) sz (fun _ => True))) (cQi D (wX g cA t s r c y d k q o u.2) (va_A (wX g cA t s r c y d k q o m) sz) u.1) 0 0 (va_A (wX g cA t s r c y d k q o m) sz) := by
  refine Met.ofW (cc := cX12_isNumber) (maxL := 7) (ret := (some .boolean)) (by decide) rfl ?_
  intro PP EE S0 MM args below meth CC S1 B hml hv
  obtain ⟨rfl, hsz, hP, hK, hD0, hX⟩ := hv
  have hx := B.exec
  have hb := B.bytes
  have hr := B.returns
  have hts := atoms_spec (ws := wsX12_isNumber) B.pre
  have hown : S0.vm.findClass RX12 = some MM.cls := findClass_of_methodNamed B.named
  have hlocks := B.notSynchronized
  subst hsz
  have hD := hD0.self (sz := S0.heap.size)
  generalize hAe : va_A (wX g cA t s r c y d k q o m) S0.heap.size = A at hD ⊢
  have hA : ∀ q : Nat, S0.heap.size ≤ q → A q := fun q h => by rw [← hAe]; exact Or.inr h
  have hS : va_S A S0.heap S0.heap [] := va_S.rf
  have k0 := hts (.fieldLink RX12 229 "WordForgeModel" "from" "I") (List.mem_of_getElem? (i := 1) rfl)
  have inX12 : ∀ w ∈ wsX120, w ∈ wsX12_isNumber := fun _ h => List.mem_cons_of_mem _ (List.mem_append_right _ h)
  have k2 := hts (.fieldLink RX12 162 "WordForgeModel" "text" "[I") (List.mem_of_getElem? (i := 2) rfl)
  have k3 := hts (.fieldLink RX12 232 "WordForgeModel" "length" "I") (List.mem_of_getElem? (i := 3) rfl)
  have k4 := hts (.constantLong RX12 251 (10)) (List.mem_of_getElem? (i := 4) rfl)
  have k5 := hts (.constantLong RX12 253 (48)) (List.mem_of_getElem? (i := 5) rfl)
  have k6 := hts (.constantLong RX12 255 (-2147483648)) (List.mem_of_getElem? (i := 6) rfl)
  have k7 := hts (.constantLong RX12 257 (2147483647)) (List.mem_of_getElem? (i := 7) rfl)
  have k8 := hts (.fieldLink RX12 259 "WordForgeModel" "result" "I") (List.mem_of_getElem? (i := 8) rfl)
  have hl := lv_entry ([.ref (g 0)]) (n := 7) (Nat.le_of_ble_eq_true rfl)
  rw [lg_entry_eq]
  generalize (lg_sl ([.ref (g 0)]) ++ List.replicate (7 - (lg_sl ([.ref (g 0)])).length) Slot.unset).toArray = ls at hl ⊢
  have hl : lv_has ls 7 [(0, .ref (g 0))] := hl
  have w139 : ∀ (z0 : Int64) (t : mT) (m : mM) (H : Heap) (locs : List Loc) (ls : Array Slot), va_P D vwCl (wX g cA t s r c y d k q o m) H → va_D A (wX g cA t s r c y d k q o m) → va_S A S0.heap H locs → lv_has ls 7 [(0, .ref (g 0))] → b_X12_isNumber_139  z0 t m = some u → W PP l EE (headSpec wsX12_isNumber ({ frames := 0, cells := 0, slots := 0, locals := 0 })).room S0 MM (#[.ref (g 0)] : Array Value) below meth CC H locs 0 0 (MQ below (cQi D (wX g cA t s r c y d k q o u.2) A u.1) (#[.ref (g 0)] : Array Value) S0 0 0 A) (F0 MM 139 ls [.long z0]) := by
    intro z0 t m
    intro H locs ls hP hD hS hl hE
    unfold b_X12_isNumber_139 at hE
    refine lv_lstore (lv' := [(4, .long z0), (0, .ref (g 0))]) hx hb dX12_isNumber_139 hl (by decide) rfl (fun ls hl => ?_)
    refine lv_lload hx hb dX12_isNumber_141 (lv_at hl 0 rfl) ?_
    refine lv_ldc2 (v := (-2147483648)) hx hb hown k6 dX12_isNumber_143 ?_
    refine W.lcmp hx hb dX12_isNumber_146 ?_
    refine lv_if_lt (tgt := 159) hx hb dX12_isNumber_147 (by decide) (fun c13 => ?_) (fun c13 => ?_)
    · have hE := if_t c13 hE
      refine lv_iconst (v := 0) hx hb dX12_isNumber_159 (by decide +kernel) ?_
      obtain rfl := Option.some.inj hE
      exact rt_n hx hb hr (by decide +kernel) hP hS rfl hlocks dX12_isNumber_160
    · have hE := if_f c13 hE
      refine lv_lload hx hb dX12_isNumber_150 (lv_at hl 0 rfl) ?_
      refine lv_ldc2 (v := 2147483647) hx hb hown k7 dX12_isNumber_152 ?_
      refine W.lcmp hx hb dX12_isNumber_155 ?_
      refine lv_if_le (tgt := 161) hx hb dX12_isNumber_156 (by decide) (fun c14 => ?_) (fun c14 => ?_)
      · have hE := if_t c14 hE
        refine lv_aload_n hx hb dX12_isNumber_161 rfl (lv_at hl 1 rfl) ?_
        refine lv_lload hx hb dX12_isNumber_162 (lv_at hl 0 rfl) ?_
        refine lv_l2i hx hb dX12_isNumber_164 rfl ?_
        refine va_put (D := D) (ci := 10) (v := .int z0.toInt32) (ty := .int) (C := RX12) (T := TX12) (N := 40) hx hb hts inX12 tyX12 tyX12_ok nmX12 hown hK hP hD hS 0 rfl rfl 38 (by decide) k8 (fun _ h9 => h9) rfl (by decide +kernel) rfl rfl (Nat.le_of_ble_eq_true rfl) dX12_isNumber_165 (fun H locs hP hD hS => ?_)
        have hP : va_P D vwCl (wX g cA t s r c y d k q o ((m.1, m.2.1, m.2.2.1, m.2.2.2.1, m.2.2.2.2.1, z0.toInt32, m.2.2.2.2.2.2))) H := hP
        have hD : va_D A (wX g cA t s r c y d k q o ((m.1, m.2.1, m.2.2.1, m.2.2.2.1, m.2.2.2.2.1, z0.toInt32, m.2.2.2.2.2.2))) := hD
        refine lv_iconst (v := 1) hx hb dX12_isNumber_168 (by decide +kernel) ?_
        obtain rfl := Option.some.inj hE
        exact rt_n hx hb hr (by decide +kernel) hP hS rfl hlocks dX12_isNumber_169
      · have hE := if_f c14 hE
        refine lv_iconst (v := 0) hx hb dX12_isNumber_159 (by decide +kernel) ?_
        obtain rfl := Option.some.inj hE
        exact rt_n hx hb hr (by decide +kernel) hP hS rfl hlocks dX12_isNumber_160
  have w60 : ∀ (n : Nat), ∀ (y2 : Int32) (y4 : Int64) (y6 : Int32) (t : mT) (m : mM) (H : Heap) (locs : List Loc) (ls : Array Slot), va_P D vwCl (wX g cA t s r c y d k q o m) H → va_D A (wX g cA t s r c y d k q o m) → va_S A S0.heap H locs → lv_has ls 7 [(0, .ref (g 0)), (2, .int y2), (4, .long y4), (6, .int y6)] → b_X12_isNumber_60 n y2 y4 y6 t m = some u → W PP l EE (headSpec wsX12_isNumber ({ frames := 0, cells := 0, slots := 0, locals := 0 })).room S0 MM (#[.ref (g 0)] : Array Value) below meth CC H locs 0 0 (MQ below (cQi D (wX g cA t s r c y d k q o u.2) A u.1) (#[.ref (g 0)] : Array Value) S0 0 0 A) (F0 MM 60 ls []) := by
    intro  n
    induction n with
    | zero => intros; rename_i hE; exact absurd hE (by simp [b_X12_isNumber_60])
    | succ n ih60 =>
      intro y2 y4 y6 t m
      intro H locs ls hP hD hS hl hE
      unfold b_X12_isNumber_60 at hE
      refine lv_iload hx hb dX12_isNumber_60 (lv_at hl 3 rfl) ?_
      refine lv_aload_n hx hb dX12_isNumber_62 rfl (lv_at hl 0 rfl) ?_
      refine va_get (D := D) (ci := 10) (v := .int t.2.2.1) (C := RX12) (T := TX12) (N := 40) hx hb hts inX12 hown hK hP 0 rfl rfl 32 (by decide) k0 (fun _ h9 => h9) rfl dX12_isNumber_63 ?_
      refine lv_aload_n hx hb dX12_isNumber_66 rfl (lv_at hl 0 rfl) ?_
      refine va_get (D := D) (ci := 10) (v := .int t.2.2.2.1) (C := RX12) (T := TX12) (N := 40) hx hb hts inX12 hown hK hP 0 rfl rfl 33 (by decide) k3 (fun _ h9 => h9) rfl dX12_isNumber_67 ?_
      refine lv_iadd hx hb dX12_isNumber_70 ?_
      refine lv_icmp_ge (tgt := 127) hx hb dX12_isNumber_71 (by decide) (fun c6 => ?_) (fun c6 => ?_)
      · have hE := if_t c6 hE
        refine lv_iload_n hx hb dX12_isNumber_127 rfl (lv_at hl 1 rfl) ?_
        refine lv_if_eq (tgt := 137) hx hb dX12_isNumber_128 (by decide) (fun c7 => ?_) (fun c7 => ?_)
        · have hE := if_t c7 hE
          refine lv_lload hx hb dX12_isNumber_137 (lv_at hl 2 rfl) ?_
          exact w139  y4 t m H locs ls hP hD hS (lv_sub hl [0] rfl) hE
        · have hE := if_f c7 hE
          refine lv_lload hx hb dX12_isNumber_131 (lv_at hl 2 rfl) ?_
          refine lv_lneg hx hb dX12_isNumber_133 ?_
          refine lv_goto (tgt := 139) hx hb dX12_isNumber_134 (by decide) ?_
          exact w139  (-y4) t m H locs ls hP hD hS (lv_sub hl [0] rfl) hE
      · have hE := if_f c6 hE
        refine lv_aload_n hx hb dX12_isNumber_74 rfl (lv_at hl 0 rfl) ?_
        refine va_get (D := D) (ci := 10) (v := .ref (g 3)) (C := RX12) (T := TX12) (N := 40) hx hb hts inX12 hown hK hP 0 rfl rfl 3 (by decide) k2 (fun _ h9 => h9) rfl dX12_isNumber_75 ?_
        refine lv_iload hx hb dX12_isNumber_78 (lv_at hl 3 rfl) ?_
        have ⟨c8, hE⟩ := ck_some hE
        refine va_iald hx hb hK hP 3 0 rfl rfl c8 dX12_isNumber_80 ?_
        refine lv_bipush (v := 48) hx hb dX12_isNumber_81 (by decide +kernel) ?_
        refine lv_icmp_lt (tgt := 98) hx hb dX12_isNumber_83 (by decide) (fun c9 => ?_) (fun c9 => ?_)
        · have hE := if_t c9 hE
          refine lv_iconst (v := 0) hx hb dX12_isNumber_98 (by decide +kernel) ?_
          obtain rfl := Option.some.inj hE
          exact rt_n hx hb hr (by decide +kernel) hP hS rfl hlocks dX12_isNumber_99
        · have hE := if_f c9 hE
          refine lv_aload_n hx hb dX12_isNumber_86 rfl (lv_at hl 0 rfl) ?_
          refine va_get (D := D) (ci := 10) (v := .ref (g 3)) (C := RX12) (T := TX12) (N := 40) hx hb hts inX12 hown hK hP 0 rfl rfl 3 (by decide) k2 (fun _ h9 => h9) rfl dX12_isNumber_87 ?_
          refine lv_iload hx hb dX12_isNumber_90 (lv_at hl 3 rfl) ?_
          have ⟨c10, hE⟩ := ck_some hE
          refine va_iald hx hb hK hP 3 0 rfl rfl c10 dX12_isNumber_92 ?_
          refine lv_bipush (v := 57) hx hb dX12_isNumber_93 (by decide +kernel) ?_
          refine lv_icmp_le (tgt := 100) hx hb dX12_isNumber_95 (by decide) (fun c11 => ?_) (fun c11 => ?_)
          · have hE := if_t c11 hE
            refine lv_ldc2 (v := 10) hx hb hown k4 dX12_isNumber_100 ?_
            refine lv_lload hx hb dX12_isNumber_103 (lv_at hl 2 rfl) ?_
            refine lv_lmul hx hb dX12_isNumber_105 ?_
            refine lv_aload_n hx hb dX12_isNumber_106 rfl (lv_at hl 0 rfl) ?_
            refine va_get (D := D) (ci := 10) (v := .ref (g 3)) (C := RX12) (T := TX12) (N := 40) hx hb hts inX12 hown hK hP 0 rfl rfl 3 (by decide) k2 (fun _ h9 => h9) rfl dX12_isNumber_107 ?_
            refine lv_iload hx hb dX12_isNumber_110 (lv_at hl 3 rfl) ?_
            have ⟨c12, hE⟩ := ck_some hE
            refine va_iald hx hb hK hP 3 0 rfl rfl c12 dX12_isNumber_112 ?_
            refine lv_i2l hx hb dX12_isNumber_113 rfl ?_
            refine lv_ladd hx hb dX12_isNumber_114 ?_
            refine lv_ldc2 (v := 48) hx hb hown k5 dX12_isNumber_115 ?_
            refine lv_lsub hx hb dX12_isNumber_118 ?_
            refine lv_lstore (lv' := [(4, .long (((10 * y4) + ((t.2.2.2.2 y6.toNatClampNeg).toInt64)) - 48)), (0, .ref (g 0)), (2, .int y2), (6, .int y6)]) hx hb dX12_isNumber_119 hl (by decide) rfl (fun ls hl => ?_)
            refine lv_iinc (v := y6 + 1) (lv' := [(6, .int (y6 + 1)), (4, .long (((10 * y4) + ((t.2.2.2.2 y6.toNatClampNeg).toInt64)) - 48)), (0, .ref (g 0)), (2, .int y2)]) hx hb dX12_isNumber_121 hl (k := 3) rfl rfl (by decide) rfl (fun ls hl => ?_)
            refine lv_goto (tgt := 60) hx hb dX12_isNumber_124 (by decide) ?_
            exact ih60 y2 (((10 * y4) + ((t.2.2.2.2 y6.toNatClampNeg).toInt64)) - 48) (y6 + 1) t m H locs ls hP hD hS (lv_sub hl [2, 3, 1, 0] rfl) hE
          · have hE := if_f c11 hE
            refine lv_iconst (v := 0) hx hb dX12_isNumber_98 (by decide +kernel) ?_
            obtain rfl := Option.some.inj hE
            exact rt_n hx hb hr (by decide +kernel) hP hS rfl hlocks dX12_isNumber_99
  have w29 : ∀ (y1 : Int32) (y2 : Int32) (t : mT) (m : mM) (H : Heap) (locs : List Loc) (ls : Array Slot), va_P D vwCl (wX g cA t s r c y d k q o m) H → va_D A (wX g cA t s r c y d k q o m) → va_S A S0.heap H locs → lv_has ls 7 [(0, .ref (g 0)), (1, .int y1), (2, .int y2)] → b_X12_isNumber_29  y1 y2 t m = some u → W PP l EE (headSpec wsX12_isNumber ({ frames := 0, cells := 0, slots := 0, locals := 0 })).room S0 MM (#[.ref (g 0)] : Array Value) below meth CC H locs 0 0 (MQ below (cQi D (wX g cA t s r c y d k q o u.2) A u.1) (#[.ref (g 0)] : Array Value) S0 0 0 A) (F0 MM 29 ls []) := by
    intro y1 y2 t m
    intro H locs ls hP hD hS hl hE
    unfold b_X12_isNumber_29 at hE
    refine lv_aload_n hx hb dX12_isNumber_29 rfl (lv_at hl 0 rfl) ?_
    refine va_get (D := D) (ci := 10) (v := .int t.2.2.1) (C := RX12) (T := TX12) (N := 40) hx hb hts inX12 hown hK hP 0 rfl rfl 32 (by decide) k0 (fun _ h9 => h9) rfl dX12_isNumber_30 ?_
    refine lv_aload_n hx hb dX12_isNumber_33 rfl (lv_at hl 0 rfl) ?_
    refine va_get (D := D) (ci := 10) (v := .int t.2.2.2.1) (C := RX12) (T := TX12) (N := 40) hx hb hts inX12 hown hK hP 0 rfl rfl 33 (by decide) k3 (fun _ h9 => h9) rfl dX12_isNumber_34 ?_
    refine lv_iadd hx hb dX12_isNumber_37 ?_
    refine lv_iload_n hx hb dX12_isNumber_38 rfl (lv_at hl 1 rfl) ?_
    refine lv_isub hx hb dX12_isNumber_39 ?_
    refine lv_istore_n (lv' := [(3, .int ((t.2.2.1 + t.2.2.2.1) - y1)), (0, .ref (g 0)), (1, .int y1), (2, .int y2)]) hx hb dX12_isNumber_40 rfl hl (by decide) rfl (fun ls hl => ?_)
    refine lv_iload_n hx hb dX12_isNumber_41 rfl (lv_at hl 0 rfl) ?_
    refine lv_iconst (v := 1) hx hb dX12_isNumber_42 (by decide +kernel) ?_
    refine lv_icmp_lt (tgt := 52) hx hb dX12_isNumber_43 (by decide) (fun c4 => ?_) (fun c4 => ?_)
    · have hE := if_t c4 hE
      refine lv_iconst (v := 0) hx hb dX12_isNumber_52 (by decide +kernel) ?_
      obtain rfl := Option.some.inj hE
      exact rt_n hx hb hr (by decide +kernel) hP hS rfl hlocks dX12_isNumber_53
    · have hE := if_f c4 hE
      refine lv_iload_n hx hb dX12_isNumber_46 rfl (lv_at hl 0 rfl) ?_
      refine lv_bipush (v := 10) hx hb dX12_isNumber_47 (by decide +kernel) ?_
      refine lv_icmp_le (tgt := 54) hx hb dX12_isNumber_49 (by decide) (fun c5 => ?_) (fun c5 => ?_)
      · have hE := if_t c5 hE
        refine lv_lconst (v := 0) hx hb dX12_isNumber_54 (by decide +kernel) ?_
        refine lv_lstore (lv' := [(4, .long 0), (3, .int ((t.2.2.1 + t.2.2.2.1) - y1)), (0, .ref (g 0)), (1, .int y1), (2, .int y2)]) hx hb dX12_isNumber_55 hl (by decide) rfl (fun ls hl => ?_)
        refine lv_iload_n hx hb dX12_isNumber_57 rfl (lv_at hl 3 rfl) ?_
        refine lv_istore (lv' := [(6, .int y1), (4, .long 0), (3, .int ((t.2.2.1 + t.2.2.2.1) - y1)), (0, .ref (g 0)), (1, .int y1), (2, .int y2)]) hx hb dX12_isNumber_58 hl (by decide) rfl (fun ls hl => ?_)
        exact w60 FU y2 0 y1 t m H locs ls hP hD hS (lv_sub hl [3, 5, 1, 0] rfl) hE
      · have hE := if_f c5 hE
        refine lv_iconst (v := 0) hx hb dX12_isNumber_52 (by decide +kernel) ?_
        obtain rfl := Option.some.inj hE
        exact rt_n hx hb hr (by decide +kernel) hP hS rfl hlocks dX12_isNumber_53
  have w21 : ∀ (y1 : Int32) (z0 : Int32) (t : mT) (m : mM) (H : Heap) (locs : List Loc) (ls : Array Slot), va_P D vwCl (wX g cA t s r c y d k q o m) H → va_D A (wX g cA t s r c y d k q o m) → va_S A S0.heap H locs → lv_has ls 7 [(0, .ref (g 0)), (1, .int y1)] → b_X12_isNumber_21  y1 z0 t m = some u → W PP l EE (headSpec wsX12_isNumber ({ frames := 0, cells := 0, slots := 0, locals := 0 })).room S0 MM (#[.ref (g 0)] : Array Value) below meth CC H locs 0 0 (MQ below (cQi D (wX g cA t s r c y d k q o u.2) A u.1) (#[.ref (g 0)] : Array Value) S0 0 0 A) (F0 MM 21 ls [.int z0]) := by
    intro y1 z0 t m
    intro H locs ls hP hD hS hl hE
    unfold b_X12_isNumber_21 at hE
    refine lv_istore_n (lv' := [(2, .int z0), (0, .ref (g 0)), (1, .int y1)]) hx hb dX12_isNumber_21 rfl hl (by decide) rfl (fun ls hl => ?_)
    refine lv_iload_n hx hb dX12_isNumber_22 rfl (lv_at hl 0 rfl) ?_
    refine lv_if_eq (tgt := 29) hx hb dX12_isNumber_23 (by decide) (fun c3 => ?_) (fun c3 => ?_)
    · have hE := if_t c3 hE
      exact w29  y1 z0 t m H locs ls hP hD hS (lv_sub hl [1, 2, 0] rfl) hE
    · have hE := if_f c3 hE
      refine lv_iinc (v := y1 + 1) (lv' := [(1, .int (y1 + 1)), (2, .int z0), (0, .ref (g 0))]) hx hb dX12_isNumber_26 hl (k := 2) rfl rfl (by decide) rfl (fun ls hl => ?_)
      exact w29  (y1 + 1) z0 t m H locs ls hP hD hS (lv_sub hl [2, 0, 1] rfl) hE
  unfold f_X12_isNumber at hE
  suffices main : ∀ (H : Heap) (locs : List Loc) (ls : Array Slot), va_P D vwCl (wX g cA t s r c y d k q o m) H → va_D A (wX g cA t s r c y d k q o m) → va_S A S0.heap H locs → lv_has ls 7 [(0, .ref (g 0))] → W PP l EE (headSpec wsX12_isNumber ({ frames := 0, cells := 0, slots := 0, locals := 0 })).room S0 MM (#[.ref (g 0)] : Array Value) below meth CC H locs 0 0 (MQ below (cQi D (wX g cA t s r c y d k q o u.2) A u.1) (#[.ref (g 0)] : Array Value) S0 0 0 A) (F0 MM 0 ls []) from main _ _ _ hP hD hS hl
  intro H locs ls hP hD hS hl
  refine lv_aload_n hx hb dX12_isNumber_0 rfl (lv_at hl 0 rfl) ?_
  refine va_get (D := D) (ci := 10) (v := .int t.2.2.1) (C := RX12) (T := TX12) (N := 40) hx hb hts inX12 hown hK hP 0 rfl rfl 32 (by decide) k0 (fun _ h9 => h9) rfl dX12_isNumber_1 ?_
  refine lv_istore_n (lv' := [(1, .int t.2.2.1), (0, .ref (g 0))]) hx hb dX12_isNumber_4 rfl hl (by decide) rfl (fun ls hl => ?_)
  refine lv_aload_n hx hb dX12_isNumber_5 rfl (lv_at hl 1 rfl) ?_
  refine va_get (D := D) (ci := 10) (v := .ref (g 3)) (C := RX12) (T := TX12) (N := 40) hx hb hts inX12 hown hK hP 0 rfl rfl 3 (by decide) k2 (fun _ h9 => h9) rfl dX12_isNumber_6 ?_
  refine lv_iload_n hx hb dX12_isNumber_9 rfl (lv_at hl 0 rfl) ?_
  have ⟨c1, hE⟩ := ck_some hE
  refine va_iald hx hb hK hP 3 0 rfl rfl c1 dX12_isNumber_10 ?_
  refine lv_bipush (v := 45) hx hb dX12_isNumber_11 (by decide +kernel) ?_
  refine lv_icmp_ne (tgt := 20) hx hb dX12_isNumber_13 (by decide) (fun c2 => ?_) (fun c2 => ?_)
  · have hE := if_f c2 hE
    refine lv_iconst (v := 0) hx hb dX12_isNumber_20 (by decide +kernel) ?_
    exact w21  t.2.2.1 0 t m H locs ls hP hD hS (lv_sub hl [1, 0] rfl) hE
  · have hE := if_t c2 hE
    refine lv_iconst (v := 1) hx hb dX12_isNumber_16 (by decide +kernel) ?_
    refine lv_goto (tgt := 21) hx hb dX12_isNumber_17 (by decide) ?_
    exact w21  t.2.2.1 1 t m H locs ls hP hD hS (lv_sub hl [1, 0] rfl) hE
set_option maxHeartbeats 4000000 in
set_option maxRecDepth 100000 in
theorem c_X12_append (l : Launch) (D : va_G) (cA : Nat → ClassId) (g : Nat → Nat) (sz : Nat) (x1 : Int32) (t : mT) (s : mS) (r : mR) (c : mC) (y : mY) (d : mD) (k : mK) (q : mP) (o : mO) (m : mM) (u : Int32 × mY) (hE : f_X12_append x1 y = some u) : Met l yX12_append wsX12_append ({ frames := 0, cells := 0, slots := 0, locals := 0 }) (va_Pc [.ref (g 0), .int x1] (PRE D cA (wX g cA t s r c y d k q o m) sz (fun _ => True))) (cQi D (wX g cA t s r c u.2 d k q o m) (va_A (wX g cA t s r c y d k q o m) sz) u.1) 0 0 (va_A (wX g cA t s r c y d k q o m) sz) := by
  refine Met.ofW (cc := cX12_append) (maxL := 2) (ret := (some .int)) (by decide) rfl ?_
  intro PP EE S0 MM args below meth CC S1 B hml hv
  obtain ⟨rfl, hsz, hP, hK, hD0, hX⟩ := hv
  have hx := B.exec
  have hb := B.bytes
  have hr := B.returns
  have hts := atoms_spec (ws := wsX12_append) B.pre
  have hown : S0.vm.findClass RX12 = some MM.cls := findClass_of_methodNamed B.named
  have hlocks := B.notSynchronized
  subst hsz
  have hD := hD0.self (sz := S0.heap.size)
  generalize hAe : va_A (wX g cA t s r c y d k q o m) S0.heap.size = A at hD ⊢
  have hA : ∀ q : Nat, S0.heap.size ≤ q → A q := fun q h => by rw [← hAe]; exact Or.inr h
  have hS : va_S A S0.heap S0.heap [] := va_S.rf
  have k0 := hts (.fieldLink RX12 184 "WordForgeModel" "cells" "[I") (List.mem_of_getElem? (i := 1) rfl)
  have inX12 : ∀ w ∈ wsX120, w ∈ wsX12_append := fun _ h => List.mem_cons_of_mem _ (List.mem_append_right _ h)
  have k2 := hts (.fieldLink RX12 276 "WordForgeModel" "here" "I") (List.mem_of_getElem? (i := 2) rfl)
  have hl := lv_entry ([.ref (g 0), .int x1]) (n := 2) (Nat.le_of_ble_eq_true rfl)
  rw [lg_entry_eq]
  generalize (lg_sl ([.ref (g 0), .int x1]) ++ List.replicate (2 - (lg_sl ([.ref (g 0), .int x1])).length) Slot.unset).toArray = ls at hl ⊢
  have hl : lv_has ls 2 [(0, .ref (g 0)), (1, .int x1)] := hl
  unfold f_X12_append at hE
  suffices main : ∀ (H : Heap) (locs : List Loc) (ls : Array Slot), va_P D vwCl (wX g cA t s r c y d k q o m) H → va_D A (wX g cA t s r c y d k q o m) → va_S A S0.heap H locs → lv_has ls 2 [(0, .ref (g 0)), (1, .int x1)] → W PP l EE (headSpec wsX12_append ({ frames := 0, cells := 0, slots := 0, locals := 0 })).room S0 MM (#[.ref (g 0), .int x1] : Array Value) below meth CC H locs 0 0 (MQ below (cQi D (wX g cA t s r c u.2 d k q o m) A u.1) (#[.ref (g 0), .int x1] : Array Value) S0 0 0 A) (F0 MM 0 ls []) from main _ _ _ hP hD hS hl
  intro H locs ls hP hD hS hl
  refine lv_aload_n hx hb dX12_append_0 rfl (lv_at hl 0 rfl) ?_
  refine va_get (D := D) (ci := 10) (v := .ref (g 10)) (C := RX12) (T := TX12) (N := 40) hx hb hts inX12 hown hK hP 0 rfl rfl 16 (by decide) k0 (fun _ h9 => h9) rfl dX12_append_1 ?_
  refine lv_aload_n hx hb dX12_append_4 rfl (lv_at hl 0 rfl) ?_
  refine va_get (D := D) (ci := 10) (v := .int y.1) (C := RX12) (T := TX12) (N := 40) hx hb hts inX12 hown hK hP 0 rfl rfl 17 (by decide) k2 (fun _ h9 => h9) rfl dX12_append_5 ?_
  refine lv_iload_n hx hb dX12_append_8 rfl (lv_at hl 1 rfl) ?_
  have ⟨c1, hE⟩ := ck_some hE
  refine va_iast hx hb hK hP hD hS 10 0 rfl rfl c1 dX12_append_9 (fun H locs hP hD hS => ?_)
  have hP : va_P D vwCl (wX g cA t s r c ((y.1, upd y.2 y.1.toNatClampNeg x1)) d k q o m) H := hP
  have hD : va_D A (wX g cA t s r c ((y.1, upd y.2 y.1.toNatClampNeg x1)) d k q o m) := hD
  refine lv_aload_n hx hb dX12_append_10 rfl (lv_at hl 0 rfl) ?_
  refine lv_dup hx hb dX12_append_11 rfl ?_
  refine va_get (D := D) (ci := 10) (v := .int y.1) (C := RX12) (T := TX12) (N := 40) hx hb hts inX12 hown hK hP 0 rfl rfl 17 (by decide) k2 (fun _ h9 => h9) rfl dX12_append_12 ?_
  refine lv_iconst (v := 1) hx hb dX12_append_15 (by decide +kernel) ?_
  refine lv_iadd hx hb dX12_append_16 ?_
  refine va_put (D := D) (ci := 10) (v := .int (y.1 + 1)) (ty := .int) (C := RX12) (T := TX12) (N := 40) hx hb hts inX12 tyX12 tyX12_ok nmX12 hown hK hP hD hS 0 rfl rfl 17 (by decide) k2 (fun _ h9 => h9) rfl (by decide +kernel) rfl rfl (Nat.le_of_ble_eq_true rfl) dX12_append_17 (fun H locs hP hD hS => ?_)
  have hP : va_P D vwCl (wX g cA t s r c ((y.1 + 1, upd y.2 y.1.toNatClampNeg x1)) d k q o m) H := hP
  have hD : va_D A (wX g cA t s r c ((y.1 + 1, upd y.2 y.1.toNatClampNeg x1)) d k q o m) := hD
  refine lv_iconst (v := 0) hx hb dX12_append_20 (by decide +kernel) ?_
  obtain rfl := Option.some.inj hE
  exact rt_i hx hb hr hP hS rfl hlocks dX12_append_21
set_option maxHeartbeats 4000000 in
set_option maxRecDepth 100000 in
theorem c_X12_ends (l : Launch) (D : va_G) (cA : Nat → ClassId) (g : Nat → Nat) (sz : Nat) (x1 : Int32) (t : mT) (s : mS) (r : mR) (c : mC) (y : mY) (d : mD) (k : mK) (q : mP) (o : mO) (m : mM) (u : mS × mR × mC × mY × mD × mK × mP × mM) (hE : f_X12_ends x1 s r c y d k q m = some u) : Met l yX12_ends wsX12_ends ({ frames := 0, cells := 0, slots := 0, locals := 0 }) (va_Pc [.ref (g 0), .int x1] (PRE D cA (wX g cA t s r c y d k q o m) sz (fun _ => True))) (cQv D (wX g cA t u.1 u.2.1 u.2.2.1 u.2.2.2.1 u.2.2.2.2.1 u.2.2.2.2.2.1 u.2.2.2.2.2.2.1 o u.2.2.2.2.2.2.2) (va_A (wX g cA t s r c y d k q o m) sz)) 0 0 (va_A (wX g cA t s r c y d k q o m) sz) := by
  refine Met.ofW (cc := cX12_ends) (maxL := 2) (ret := none) (by decide) rfl ?_
  intro PP EE S0 MM args below meth CC S1 B hml hv
  obtain ⟨rfl, hsz, hP, hK, hD0, hX⟩ := hv
  have hx := B.exec
  have hb := B.bytes
  have hr := B.returns
  have hts := atoms_spec (ws := wsX12_ends) B.pre
  have hown : S0.vm.findClass RX12 = some MM.cls := findClass_of_methodNamed B.named
  have hlocks := B.notSynchronized
  subst hsz
  have hD := hD0.self (sz := S0.heap.size)
  generalize hAe : va_A (wX g cA t s r c y d k q o m) S0.heap.size = A at hD ⊢
  have hA : ∀ q : Nat, S0.heap.size ≤ q → A q := fun q h => by rw [← hAe]; exact Or.inr h
  have hS : va_S A S0.heap S0.heap [] := va_S.rf
  have k0 := hts (.fieldLink RX12 259 "WordForgeModel" "result" "I") (List.mem_of_getElem? (i := 1) rfl)
  have inX12 : ∀ w ∈ wsX120, w ∈ wsX12_ends := fun _ h => List.mem_cons_of_mem _ (List.mem_append_right _ h)
  have k2 := hts (.fieldLink RX12 262 "WordForgeModel" "ended" "Z") (List.mem_of_getElem? (i := 2) rfl)
  have k3 := hts (.fieldLink RX12 293 "WordForgeModel" "depth" "I") (List.mem_of_getElem? (i := 3) rfl)
  have k4 := hts (.fieldLink RX12 335 "WordForgeModel" "deep" "I") (List.mem_of_getElem? (i := 4) rfl)
  have k5 := hts (.fieldLink RX12 311 "WordForgeModel" "calls" "I") (List.mem_of_getElem? (i := 5) rfl)
  have k6 := hts (.fieldLink RX12 338 "WordForgeModel" "opens" "I") (List.mem_of_getElem? (i := 6) rfl)
  have k7 := hts (.fieldLink RX12 270 "WordForgeModel" "compiling" "Z") (List.mem_of_getElem? (i := 7) rfl)
  have k8 := hts (.fieldLink RX12 341 "WordForgeModel" "making" "Z") (List.mem_of_getElem? (i := 8) rfl)
  have k9 := hts (.fieldLink RX12 239 "WordForgeModel" "made" "I") (List.mem_of_getElem? (i := 9) rfl)
  have k10 := hts (.fieldLink RX12 344 "WordForgeModel" "begun" "I") (List.mem_of_getElem? (i := 10) rfl)
  have k11 := hts (.fieldLink RX12 276 "WordForgeModel" "here" "I") (List.mem_of_getElem? (i := 11) rfl)
  have hl := lv_entry ([.ref (g 0), .int x1]) (n := 2) (Nat.le_of_ble_eq_true rfl)
  rw [lg_entry_eq]
  generalize (lg_sl ([.ref (g 0), .int x1]) ++ List.replicate (2 - (lg_sl ([.ref (g 0), .int x1])).length) Slot.unset).toArray = ls at hl ⊢
  have hl : lv_has ls 2 [(0, .ref (g 0)), (1, .int x1)] := hl
  have w60 : ∀ (s : mS) (r : mR) (c : mC) (y : mY) (d : mD) (k : mK) (q : mP) (m : mM) (H : Heap) (locs : List Loc) (ls : Array Slot), va_P D vwCl (wX g cA t s r c y d k q o m) H → va_D A (wX g cA t s r c y d k q o m) → va_S A S0.heap H locs → lv_has ls 2 [(0, .ref (g 0))] → b_X12_ends_60  s r c y d k q m = some u → W PP l EE (headSpec wsX12_ends ({ frames := 0, cells := 0, slots := 0, locals := 0 })).room S0 MM (#[.ref (g 0), .int x1] : Array Value) below meth CC H locs 0 0 (MQ below (cQv D (wX g cA t u.1 u.2.1 u.2.2.1 u.2.2.2.1 u.2.2.2.2.1 u.2.2.2.2.2.1 u.2.2.2.2.2.2.1 o u.2.2.2.2.2.2.2) A) (#[.ref (g 0), .int x1] : Array Value) S0 0 0 A) (F0 MM 60 ls []) := by
    intro s r c y d k q m
    intro H locs ls hP hD hS hl hE
    unfold b_X12_ends_60 at hE
    refine lv_aload_n hx hb dX12_ends_60 rfl (lv_at hl 0 rfl) ?_
    refine lv_iconst (v := 0) hx hb dX12_ends_61 (by decide +kernel) ?_
    refine va_put (D := D) (ci := 10) (v := .int 0) (ty := .boolean) (C := RX12) (T := TX12) (N := 40) hx hb hts inX12 tyX12 tyX12_ok nmX12 hown hK hP hD hS 0 rfl rfl 26 (by decide) k8 (fun _ h9 => h9) rfl (by decide +kernel) (by decide +kernel) (by decide +kernel) (Nat.le_of_ble_eq_true rfl) dX12_ends_62 (fun H locs hP hD hS => ?_)
    have hP : va_P D vwCl (wX g cA t s r c y ((d.1, 0, d.2.2.1, d.2.2.2.1, d.2.2.2.2.1, d.2.2.2.2.2.1, d.2.2.2.2.2.2.1, d.2.2.2.2.2.2.2.1, d.2.2.2.2.2.2.2.2.1, d.2.2.2.2.2.2.2.2.2)) k q o m) H := hP
    have hD : va_D A (wX g cA t s r c y ((d.1, 0, d.2.2.1, d.2.2.2.1, d.2.2.2.2.1, d.2.2.2.2.2.1, d.2.2.2.2.2.2.1, d.2.2.2.2.2.2.2.1, d.2.2.2.2.2.2.2.2.1, d.2.2.2.2.2.2.2.2.2)) k q o m) := hD
    obtain rfl := Option.some.inj hE
    exact rt_v hx hb hr hP hS hlocks dX12_ends_65
  unfold f_X12_ends at hE
  suffices main : ∀ (H : Heap) (locs : List Loc) (ls : Array Slot), va_P D vwCl (wX g cA t s r c y d k q o m) H → va_D A (wX g cA t s r c y d k q o m) → va_S A S0.heap H locs → lv_has ls 2 [(0, .ref (g 0)), (1, .int x1)] → W PP l EE (headSpec wsX12_ends ({ frames := 0, cells := 0, slots := 0, locals := 0 })).room S0 MM (#[.ref (g 0), .int x1] : Array Value) below meth CC H locs 0 0 (MQ below (cQv D (wX g cA t u.1 u.2.1 u.2.2.1 u.2.2.2.1 u.2.2.2.2.1 u.2.2.2.2.2.1 u.2.2.2.2.2.2.1 o u.2.2.2.2.2.2.2) A) (#[.ref (g 0), .int x1] : Array Value) S0 0 0 A) (F0 MM 0 ls []) from main _ _ _ hP hD hS hl
  intro H locs ls hP hD hS hl
  refine lv_aload_n hx hb dX12_ends_0 rfl (lv_at hl 0 rfl) ?_
  refine lv_iload_n hx hb dX12_ends_1 rfl (lv_at hl 1 rfl) ?_
  refine va_put (D := D) (ci := 10) (v := .int x1) (ty := .int) (C := RX12) (T := TX12) (N := 40) hx hb hts inX12 tyX12 tyX12_ok nmX12 hown hK hP hD hS 0 rfl rfl 38 (by decide) k0 (fun _ h9 => h9) rfl (by decide +kernel) rfl rfl (Nat.le_of_ble_eq_true rfl) dX12_ends_2 (fun H locs hP hD hS => ?_)
  have hP : va_P D vwCl (wX g cA t s r c y d k q o ((m.1, m.2.1, m.2.2.1, m.2.2.2.1, m.2.2.2.2.1, x1, m.2.2.2.2.2.2))) H := hP
  have hD : va_D A (wX g cA t s r c y d k q o ((m.1, m.2.1, m.2.2.1, m.2.2.2.1, m.2.2.2.2.1, x1, m.2.2.2.2.2.2))) := hD
  refine lv_aload_n hx hb dX12_ends_5 rfl (lv_at hl 0 rfl) ?_
  refine lv_iconst (v := 1) hx hb dX12_ends_6 (by decide +kernel) ?_
  refine va_put (D := D) (ci := 10) (v := .int 1) (ty := .boolean) (C := RX12) (T := TX12) (N := 40) hx hb hts inX12 tyX12 tyX12_ok nmX12 hown hK hP hD hS 0 rfl rfl 39 (by decide) k2 (fun _ h9 => h9) rfl (by decide +kernel) (by decide +kernel) (by decide +kernel) (Nat.le_of_ble_eq_true rfl) dX12_ends_7 (fun H locs hP hD hS => ?_)
  have hP : va_P D vwCl (wX g cA t s r c y d k q o ((m.1, m.2.1, m.2.2.1, m.2.2.2.1, m.2.2.2.2.1, x1, 1))) H := hP
  have hD : va_D A (wX g cA t s r c y d k q o ((m.1, m.2.1, m.2.2.1, m.2.2.2.1, m.2.2.2.2.1, x1, 1))) := hD
  refine lv_aload_n hx hb dX12_ends_10 rfl (lv_at hl 0 rfl) ?_
  refine lv_iconst (v := 0) hx hb dX12_ends_11 (by decide +kernel) ?_
  refine va_put (D := D) (ci := 10) (v := .int 0) (ty := .int) (C := RX12) (T := TX12) (N := 40) hx hb hts inX12 tyX12 tyX12_ok nmX12 hown hK hP hD hS 0 rfl rfl 9 (by decide) k3 (fun _ h9 => h9) rfl (by decide +kernel) rfl rfl (Nat.le_of_ble_eq_true rfl) dX12_ends_12 (fun H locs hP hD hS => ?_)
  have hP : va_P D vwCl (wX g cA t ((0, s.2)) r c y d k q o ((m.1, m.2.1, m.2.2.1, m.2.2.2.1, m.2.2.2.2.1, x1, 1))) H := hP
  have hD : va_D A (wX g cA t ((0, s.2)) r c y d k q o ((m.1, m.2.1, m.2.2.1, m.2.2.2.1, m.2.2.2.2.1, x1, 1))) := hD
  refine lv_aload_n hx hb dX12_ends_15 rfl (lv_at hl 0 rfl) ?_
  refine lv_iconst (v := 0) hx hb dX12_ends_16 (by decide +kernel) ?_
  refine va_put (D := D) (ci := 10) (v := .int 0) (ty := .int) (C := RX12) (T := TX12) (N := 40) hx hb hts inX12 tyX12 tyX12_ok nmX12 hown hK hP hD hS 0 rfl rfl 11 (by decide) k4 (fun _ h9 => h9) rfl (by decide +kernel) rfl rfl (Nat.le_of_ble_eq_true rfl) dX12_ends_17 (fun H locs hP hD hS => ?_)
  have hP : va_P D vwCl (wX g cA t ((0, s.2)) ((0, r.2)) c y d k q o ((m.1, m.2.1, m.2.2.1, m.2.2.2.1, m.2.2.2.2.1, x1, 1))) H := hP
  have hD : va_D A (wX g cA t ((0, s.2)) ((0, r.2)) c y d k q o ((m.1, m.2.1, m.2.2.1, m.2.2.2.1, m.2.2.2.2.1, x1, 1))) := hD
  refine lv_aload_n hx hb dX12_ends_20 rfl (lv_at hl 0 rfl) ?_
  refine lv_iconst (v := 0) hx hb dX12_ends_21 (by decide +kernel) ?_
  refine va_put (D := D) (ci := 10) (v := .int 0) (ty := .int) (C := RX12) (T := TX12) (N := 40) hx hb hts inX12 tyX12 tyX12_ok nmX12 hown hK hP hD hS 0 rfl rfl 15 (by decide) k5 (fun _ h9 => h9) rfl (by decide +kernel) rfl rfl (Nat.le_of_ble_eq_true rfl) dX12_ends_22 (fun H locs hP hD hS => ?_)
  have hP : va_P D vwCl (wX g cA t ((0, s.2)) ((0, r.2)) ((0, c.2.1, c.2.2.1, c.2.2.2)) y d k q o ((m.1, m.2.1, m.2.2.1, m.2.2.2.1, m.2.2.2.2.1, x1, 1))) H := hP
  have hD : va_D A (wX g cA t ((0, s.2)) ((0, r.2)) ((0, c.2.1, c.2.2.1, c.2.2.2)) y d k q o ((m.1, m.2.1, m.2.2.1, m.2.2.2.1, m.2.2.2.2.1, x1, 1))) := hD
  refine lv_aload_n hx hb dX12_ends_25 rfl (lv_at hl 0 rfl) ?_
  refine lv_iconst (v := 0) hx hb dX12_ends_26 (by decide +kernel) ?_
  refine va_put (D := D) (ci := 10) (v := .int 0) (ty := .int) (C := RX12) (T := TX12) (N := 40) hx hb hts inX12 tyX12 tyX12_ok nmX12 hown hK hP hD hS 0 rfl rfl 31 (by decide) k6 (fun _ h9 => h9) rfl (by decide +kernel) rfl rfl (Nat.le_of_ble_eq_true rfl) dX12_ends_27 (fun H locs hP hD hS => ?_)
  have hP : va_P D vwCl (wX g cA t ((0, s.2)) ((0, r.2)) ((0, c.2.1, c.2.2.1, c.2.2.2)) y d k ((0, q.2.1, q.2.2)) o ((m.1, m.2.1, m.2.2.1, m.2.2.2.1, m.2.2.2.2.1, x1, 1))) H := hP
  have hD : va_D A (wX g cA t ((0, s.2)) ((0, r.2)) ((0, c.2.1, c.2.2.1, c.2.2.2)) y d k ((0, q.2.1, q.2.2)) o ((m.1, m.2.1, m.2.2.1, m.2.2.2.1, m.2.2.2.2.1, x1, 1))) := hD
  refine lv_aload_n hx hb dX12_ends_30 rfl (lv_at hl 0 rfl) ?_
  refine lv_iconst (v := 0) hx hb dX12_ends_31 (by decide +kernel) ?_
  refine va_put (D := D) (ci := 10) (v := .int 0) (ty := .boolean) (C := RX12) (T := TX12) (N := 40) hx hb hts inX12 tyX12 tyX12_ok nmX12 hown hK hP hD hS 0 rfl rfl 28 (by decide) k7 (fun _ h9 => h9) rfl (by decide +kernel) (by decide +kernel) (by decide +kernel) (Nat.le_of_ble_eq_true rfl) dX12_ends_32 (fun H locs hP hD hS => ?_)
  have hP : va_P D vwCl (wX g cA t ((0, s.2)) ((0, r.2)) ((0, c.2.1, c.2.2.1, c.2.2.2)) y d 0 ((0, q.2.1, q.2.2)) o ((m.1, m.2.1, m.2.2.1, m.2.2.2.1, m.2.2.2.2.1, x1, 1))) H := hP
  have hD : va_D A (wX g cA t ((0, s.2)) ((0, r.2)) ((0, c.2.1, c.2.2.1, c.2.2.2)) y d 0 ((0, q.2.1, q.2.2)) o ((m.1, m.2.1, m.2.2.1, m.2.2.2.1, m.2.2.2.2.1, x1, 1))) := hD
  refine lv_aload_n hx hb dX12_ends_35 rfl (lv_at hl 0 rfl) ?_
  refine va_get (D := D) (ci := 10) (v := .int d.2.1) (C := RX12) (T := TX12) (N := 40) hx hb hts inX12 hown hK hP 0 rfl rfl 26 (by decide) k8 (fun _ h9 => h9) rfl dX12_ends_36 ?_
  refine lv_if_eq (tgt := 60) hx hb dX12_ends_39 (by decide) (fun c1 => ?_) (fun c1 => ?_)
  · have hE := if_t c1 hE
    exact w60  ((0, s.2)) ((0, r.2)) ((0, c.2.1, c.2.2.1, c.2.2.2)) y d 0 ((0, q.2.1, q.2.2)) ((m.1, m.2.1, m.2.2.1, m.2.2.2.1, m.2.2.2.2.1, x1, 1)) H locs ls hP hD hS (lv_sub hl [0] rfl) hE
  · have hE := if_f c1 hE
    refine lv_aload_n hx hb dX12_ends_42 rfl (lv_at hl 0 rfl) ?_
    refine lv_dup hx hb dX12_ends_43 rfl ?_
    refine va_get (D := D) (ci := 10) (v := .int d.1) (C := RX12) (T := TX12) (N := 40) hx hb hts inX12 hown hK hP 0 rfl rfl 25 (by decide) k9 (fun _ h9 => h9) rfl dX12_ends_44 ?_
    refine lv_iconst (v := 1) hx hb dX12_ends_47 (by decide +kernel) ?_
    refine lv_isub hx hb dX12_ends_48 ?_
    refine va_put (D := D) (ci := 10) (v := .int (d.1 - 1)) (ty := .int) (C := RX12) (T := TX12) (N := 40) hx hb hts inX12 tyX12 tyX12_ok nmX12 hown hK hP hD hS 0 rfl rfl 25 (by decide) k9 (fun _ h9 => h9) rfl (by decide +kernel) rfl rfl (Nat.le_of_ble_eq_true rfl) dX12_ends_49 (fun H locs hP hD hS => ?_)
    have hP : va_P D vwCl (wX g cA t ((0, s.2)) ((0, r.2)) ((0, c.2.1, c.2.2.1, c.2.2.2)) y ((d.1 - 1, d.2.1, d.2.2.1, d.2.2.2.1, d.2.2.2.2.1, d.2.2.2.2.2.1, d.2.2.2.2.2.2.1, d.2.2.2.2.2.2.2.1, d.2.2.2.2.2.2.2.2.1, d.2.2.2.2.2.2.2.2.2)) 0 ((0, q.2.1, q.2.2)) o ((m.1, m.2.1, m.2.2.1, m.2.2.2.1, m.2.2.2.2.1, x1, 1))) H := hP
    have hD : va_D A (wX g cA t ((0, s.2)) ((0, r.2)) ((0, c.2.1, c.2.2.1, c.2.2.2)) y ((d.1 - 1, d.2.1, d.2.2.1, d.2.2.2.1, d.2.2.2.2.1, d.2.2.2.2.2.1, d.2.2.2.2.2.2.1, d.2.2.2.2.2.2.2.1, d.2.2.2.2.2.2.2.2.1, d.2.2.2.2.2.2.2.2.2)) 0 ((0, q.2.1, q.2.2)) o ((m.1, m.2.1, m.2.2.1, m.2.2.2.1, m.2.2.2.2.1, x1, 1))) := hD
    refine lv_aload_n hx hb dX12_ends_52 rfl (lv_at hl 0 rfl) ?_
    refine lv_aload_n hx hb dX12_ends_53 rfl (lv_at hl 0 rfl) ?_
    refine va_get (D := D) (ci := 10) (v := .int d.2.2.1) (C := RX12) (T := TX12) (N := 40) hx hb hts inX12 hown hK hP 0 rfl rfl 27 (by decide) k10 (fun _ h9 => h9) rfl dX12_ends_54 ?_
    refine va_put (D := D) (ci := 10) (v := .int d.2.2.1) (ty := .int) (C := RX12) (T := TX12) (N := 40) hx hb hts inX12 tyX12 tyX12_ok nmX12 hown hK hP hD hS 0 rfl rfl 17 (by decide) k11 (fun _ h9 => h9) rfl (by decide +kernel) rfl rfl (Nat.le_of_ble_eq_true rfl) dX12_ends_57 (fun H locs hP hD hS => ?_)
    have hP : va_P D vwCl (wX g cA t ((0, s.2)) ((0, r.2)) ((0, c.2.1, c.2.2.1, c.2.2.2)) ((d.2.2.1, y.2)) ((d.1 - 1, d.2.1, d.2.2.1, d.2.2.2.1, d.2.2.2.2.1, d.2.2.2.2.2.1, d.2.2.2.2.2.2.1, d.2.2.2.2.2.2.2.1, d.2.2.2.2.2.2.2.2.1, d.2.2.2.2.2.2.2.2.2)) 0 ((0, q.2.1, q.2.2)) o ((m.1, m.2.1, m.2.2.1, m.2.2.2.1, m.2.2.2.2.1, x1, 1))) H := hP
    have hD : va_D A (wX g cA t ((0, s.2)) ((0, r.2)) ((0, c.2.1, c.2.2.1, c.2.2.2)) ((d.2.2.1, y.2)) ((d.1 - 1, d.2.1, d.2.2.1, d.2.2.2.1, d.2.2.2.2.1, d.2.2.2.2.2.1, d.2.2.2.2.2.2.1, d.2.2.2.2.2.2.2.1, d.2.2.2.2.2.2.2.2.1, d.2.2.2.2.2.2.2.2.2)) 0 ((0, q.2.1, q.2.2)) o ((m.1, m.2.1, m.2.2.1, m.2.2.2.1, m.2.2.2.2.1, x1, 1))) := hD
    exact w60  ((0, s.2)) ((0, r.2)) ((0, c.2.1, c.2.2.1, c.2.2.2)) ((d.2.2.1, y.2)) ((d.1 - 1, d.2.1, d.2.2.1, d.2.2.2.1, d.2.2.2.2.1, d.2.2.2.2.2.1, d.2.2.2.2.2.2.1, d.2.2.2.2.2.2.2.1, d.2.2.2.2.2.2.2.2.1, d.2.2.2.2.2.2.2.2.2)) 0 ((0, q.2.1, q.2.2)) ((m.1, m.2.1, m.2.2.1, m.2.2.2.1, m.2.2.2.2.1, x1, 1)) H locs ls hP hD hS (lv_sub hl [0] rfl) hE
set_option maxHeartbeats 4000000 in
set_option maxRecDepth 100000 in
theorem c_X12_push (l : Launch) (D : va_G) (cA : Nat → ClassId) (g : Nat → Nat) (sz : Nat) (x1 : Int32) (t : mT) (s : mS) (r : mR) (c : mC) (y : mY) (d : mD) (k : mK) (q : mP) (o : mO) (m : mM) (u : Int32 × mS) (hE : f_X12_push x1 s = some u) : Met l yX12_push wsX12_push ({ frames := 0, cells := 0, slots := 0, locals := 0 }) (va_Pc [.ref (g 0), .int x1] (PRE D cA (wX g cA t s r c y d k q o m) sz (fun _ => True))) (cQi D (wX g cA t u.2 r c y d k q o m) (va_A (wX g cA t s r c y d k q o m) sz) u.1) 0 0 (va_A (wX g cA t s r c y d k q o m) sz) := by
  refine Met.ofW (cc := cX12_push) (maxL := 2) (ret := (some .int)) (by decide) rfl ?_
  intro PP EE S0 MM args below meth CC S1 B hml hv
  obtain ⟨rfl, hsz, hP, hK, hD0, hX⟩ := hv
  have hx := B.exec
  have hb := B.bytes
  have hr := B.returns
  have hts := atoms_spec (ws := wsX12_push) B.pre
  have hown : S0.vm.findClass RX12 = some MM.cls := findClass_of_methodNamed B.named
  have hlocks := B.notSynchronized
  subst hsz
  have hD := hD0.self (sz := S0.heap.size)
  generalize hAe : va_A (wX g cA t s r c y d k q o m) S0.heap.size = A at hD ⊢
  have hA : ∀ q : Nat, S0.heap.size ≤ q → A q := fun q h => by rw [← hAe]; exact Or.inr h
  have hS : va_S A S0.heap S0.heap [] := va_S.rf
  have k0 := hts (.fieldLink RX12 169 "WordForgeModel" "stack" "[I") (List.mem_of_getElem? (i := 1) rfl)
  have inX12 : ∀ w ∈ wsX120, w ∈ wsX12_push := fun _ h => List.mem_cons_of_mem _ (List.mem_append_right _ h)
  have k2 := hts (.fieldLink RX12 293 "WordForgeModel" "depth" "I") (List.mem_of_getElem? (i := 2) rfl)
  have hl := lv_entry ([.ref (g 0), .int x1]) (n := 2) (Nat.le_of_ble_eq_true rfl)
  rw [lg_entry_eq]
  generalize (lg_sl ([.ref (g 0), .int x1]) ++ List.replicate (2 - (lg_sl ([.ref (g 0), .int x1])).length) Slot.unset).toArray = ls at hl ⊢
  have hl : lv_has ls 2 [(0, .ref (g 0)), (1, .int x1)] := hl
  unfold f_X12_push at hE
  suffices main : ∀ (H : Heap) (locs : List Loc) (ls : Array Slot), va_P D vwCl (wX g cA t s r c y d k q o m) H → va_D A (wX g cA t s r c y d k q o m) → va_S A S0.heap H locs → lv_has ls 2 [(0, .ref (g 0)), (1, .int x1)] → W PP l EE (headSpec wsX12_push ({ frames := 0, cells := 0, slots := 0, locals := 0 })).room S0 MM (#[.ref (g 0), .int x1] : Array Value) below meth CC H locs 0 0 (MQ below (cQi D (wX g cA t u.2 r c y d k q o m) A u.1) (#[.ref (g 0), .int x1] : Array Value) S0 0 0 A) (F0 MM 0 ls []) from main _ _ _ hP hD hS hl
  intro H locs ls hP hD hS hl
  refine lv_aload_n hx hb dX12_push_0 rfl (lv_at hl 0 rfl) ?_
  refine va_get (D := D) (ci := 10) (v := .ref (g 5)) (C := RX12) (T := TX12) (N := 40) hx hb hts inX12 hown hK hP 0 rfl rfl 8 (by decide) k0 (fun _ h9 => h9) rfl dX12_push_1 ?_
  refine lv_aload_n hx hb dX12_push_4 rfl (lv_at hl 0 rfl) ?_
  refine va_get (D := D) (ci := 10) (v := .int s.1) (C := RX12) (T := TX12) (N := 40) hx hb hts inX12 hown hK hP 0 rfl rfl 9 (by decide) k2 (fun _ h9 => h9) rfl dX12_push_5 ?_
  refine lv_iload_n hx hb dX12_push_8 rfl (lv_at hl 1 rfl) ?_
  have ⟨c1, hE⟩ := ck_some hE
  refine va_iast hx hb hK hP hD hS 5 0 rfl rfl c1 dX12_push_9 (fun H locs hP hD hS => ?_)
  have hP : va_P D vwCl (wX g cA t ((s.1, upd s.2 s.1.toNatClampNeg x1)) r c y d k q o m) H := hP
  have hD : va_D A (wX g cA t ((s.1, upd s.2 s.1.toNatClampNeg x1)) r c y d k q o m) := hD
  refine lv_aload_n hx hb dX12_push_10 rfl (lv_at hl 0 rfl) ?_
  refine lv_dup hx hb dX12_push_11 rfl ?_
  refine va_get (D := D) (ci := 10) (v := .int s.1) (C := RX12) (T := TX12) (N := 40) hx hb hts inX12 hown hK hP 0 rfl rfl 9 (by decide) k2 (fun _ h9 => h9) rfl dX12_push_12 ?_
  refine lv_iconst (v := 1) hx hb dX12_push_15 (by decide +kernel) ?_
  refine lv_iadd hx hb dX12_push_16 ?_
  refine va_put (D := D) (ci := 10) (v := .int (s.1 + 1)) (ty := .int) (C := RX12) (T := TX12) (N := 40) hx hb hts inX12 tyX12 tyX12_ok nmX12 hown hK hP hD hS 0 rfl rfl 9 (by decide) k2 (fun _ h9 => h9) rfl (by decide +kernel) rfl rfl (Nat.le_of_ble_eq_true rfl) dX12_push_17 (fun H locs hP hD hS => ?_)
  have hP : va_P D vwCl (wX g cA t ((s.1 + 1, upd s.2 s.1.toNatClampNeg x1)) r c y d k q o m) H := hP
  have hD : va_D A (wX g cA t ((s.1 + 1, upd s.2 s.1.toNatClampNeg x1)) r c y d k q o m) := hD
  refine lv_iconst (v := 0) hx hb dX12_push_20 (by decide +kernel) ?_
  obtain rfl := Option.some.inj hE
  exact rt_i hx hb hr hP hS rfl hlocks dX12_push_21
set_option maxRecDepth 20000 in
theorem hX12_meet_X12_ends_329 : GoodIn wsX12_meet (wsV RX12 329 RX12 yX12_ends wsX12_ends) := goodIn_r _ [9, 10, 11, 12, 13, 14, 15, 3, 5, 1, 16, 17, 18, 19, 20, 21, 26, 27, 28, 29, 30, 31, 32, 33, 34, 35, 36, 37, 38, 39, 40, 41, 42, 43, 44, 45, 46, 47, 48, 49, 50, 51, 52, 53, 54, 55, 56, 57, 58, 59, 60, 61, 62, 63, 64, 65] rfl (by decide +kernel)
set_option maxRecDepth 20000 in
theorem hX12_meet_X12_push_296 : GoodIn wsX12_meet (wsV RX12 296 RX12 yX12_push wsX12_push) := goodIn_r _ [22, 23, 24, 12, 25, 4, 3, 26, 27, 28, 29, 30, 31, 32, 33, 34, 35, 36, 37, 38, 39, 40, 41, 42, 43, 44, 45, 46, 47, 48, 49, 50, 51, 52, 53, 54, 55, 56, 57, 58, 59, 60, 61, 62, 63, 64, 65] rfl (by decide +kernel)
set_option maxHeartbeats 4000000 in
set_option maxRecDepth 100000 in
theorem c_X12_meet (l : Launch) (D : va_G) (cA : Nat → ClassId) (g : Nat → Nat) (sz : Nat) (x1 : Int32) (t : mT) (s : mS) (r : mR) (c : mC) (y : mY) (d : mD) (k : mK) (q : mP) (o : mO) (m : mM) (u : mS × mR × mC × mY × mD × mK × mP × mM) (hE : f_X12_meet x1 s r c y d k q m = some u) : Met l yX12_meet wsX12_meet ({ frames := 1, cells := 0, slots := 0, locals := 21 }) (va_Pc [.ref (g 0), .int x1] (PRE D cA (wX g cA t s r c y d k q o m) sz (fun _ => True))) (cQv D (wX g cA t u.1 u.2.1 u.2.2.1 u.2.2.2.1 u.2.2.2.2.1 u.2.2.2.2.2.1 u.2.2.2.2.2.2.1 o u.2.2.2.2.2.2.2) (va_A (wX g cA t s r c y d k q o m) sz)) 0 0 (va_A (wX g cA t s r c y d k q o m) sz) := by
  refine Met.ofW (cc := cX12_meet) (maxL := 4) (ret := none) (by decide) rfl ?_
  intro PP EE S0 MM args below meth CC S1 B hml hv
  obtain ⟨rfl, hsz, hP, hK, hD0, hX⟩ := hv
  have hx := B.exec
  have hb := B.bytes
  have hr := B.returns
  have hts := atoms_spec (ws := wsX12_meet) B.pre
  have hown : S0.vm.findClass RX12 = some MM.cls := findClass_of_methodNamed B.named
  have hlocks := B.notSynchronized
  subst hsz
  have hD := hD0.self (sz := S0.heap.size)
  generalize hAe : va_A (wX g cA t s r c y d k q o m) S0.heap.size = A at hD ⊢
  have hA : ∀ q : Nat, S0.heap.size ≤ q → A q := fun q h => by rw [← hAe]; exact Or.inr h
  have hS : va_S A S0.heap S0.heap [] := va_S.rf
  have k0 := hts (.fieldLink RX12 311 "WordForgeModel" "calls" "I") (List.mem_of_getElem? (i := 1) rfl)
  have inX12 : ∀ w ∈ wsX120, w ∈ wsX12_meet := fun _ h => List.mem_cons_of_mem _ (List.mem_append_right _ h)
  have k2 := hts (.fieldLink RX12 178 "WordForgeModel" "hadStack" "[I") (List.mem_of_getElem? (i := 2) rfl)
  have k3 := hts (.fieldLink RX12 293 "WordForgeModel" "depth" "I") (List.mem_of_getElem? (i := 3) rfl)
  have k4 := hts (.fieldLink RX12 335 "WordForgeModel" "deep" "I") (List.mem_of_getElem? (i := 5) rfl)
  have k5 := hts (.fieldLink RX12 169 "WordForgeModel" "stack" "[I") (List.mem_of_getElem? (i := 4) rfl)
  have k6 := hts (.fieldLink RX12 181 "WordForgeModel" "hadStore" "[I") (List.mem_of_getElem? (i := 6) rfl)
  have k7 := hts (.fieldLink RX12 305 "WordForgeModel" "caught" "I") (List.mem_of_getElem? (i := 8) rfl)
  have k8 := hts (.fieldLink RX12 172 "WordForgeModel" "store" "[I") (List.mem_of_getElem? (i := 7) rfl)
  have hl := lv_entry ([.ref (g 0), .int x1]) (n := 4) (Nat.le_of_ble_eq_true rfl)
  rw [lg_entry_eq]
  generalize (lg_sl ([.ref (g 0), .int x1]) ++ List.replicate (4 - (lg_sl ([.ref (g 0), .int x1])).length) Slot.unset).toArray = ls at hl ⊢
  have hl : lv_has ls 4 [(0, .ref (g 0)), (1, .int x1)] := hl
  have w74 : ∀ (n : Nat), ∀ (y1 : Int32) (y2 : Int32) (y3 : Int32) (s : mS) (r : mR) (c : mC) (y : mY) (d : mD) (k : mK) (q : mP) (m : mM) (H : Heap) (locs : List Loc) (ls : Array Slot), va_P D vwCl (wX g cA t s r c y d k q o m) H → va_D A (wX g cA t s r c y d k q o m) → va_S A S0.heap H locs → lv_has ls 4 [(0, .ref (g 0)), (1, .int y1), (2, .int y2), (3, .int y3)] → b_X12_meet_74 n y1 y2 y3 s r c y d k q m = some u → W PP l EE (headSpec wsX12_meet ({ frames := 1, cells := 0, slots := 0, locals := 21 })).room S0 MM (#[.ref (g 0), .int x1] : Array Value) below meth CC H locs 0 0 (MQ below (cQv D (wX g cA t u.1 u.2.1 u.2.2.1 u.2.2.2.1 u.2.2.2.2.1 u.2.2.2.2.2.1 u.2.2.2.2.2.2.1 o u.2.2.2.2.2.2.2) A) (#[.ref (g 0), .int x1] : Array Value) S0 0 0 A) (F0 MM 74 ls []) := by
    intro  n
    induction n with
    | zero => intros; rename_i hE; exact absurd hE (by simp [b_X12_meet_74])
    | succ n ih74 =>
      intro y1 y2 y3 s r c y d k q m
      intro H locs ls hP hD hS hl hE
      unfold b_X12_meet_74 at hE
      refine lv_iload_n hx hb dX12_meet_74 rfl (lv_at hl 3 rfl) ?_
      refine lv_aload_n hx hb dX12_meet_75 rfl (lv_at hl 0 rfl) ?_
      refine va_get (D := D) (ci := 10) (v := .ref (g 9)) (C := RX12) (T := TX12) (N := 40) hx hb hts inX12 hown hK hP 0 rfl rfl 14 (by decide) k6 (fun _ h9 => h9) rfl dX12_meet_76 ?_
      refine lv_iload_n hx hb dX12_meet_79 rfl (lv_at hl 2 rfl) ?_
      have ⟨c11, hE⟩ := ck_some hE
      refine va_iald hx hb hK hP 9 0 rfl rfl c11 dX12_meet_80 ?_
      refine lv_icmp_ge (tgt := 97) hx hb dX12_meet_81 (by decide) (fun c12 => ?_) (fun c12 => ?_)
      · have hE := if_t c12 hE
        refine lv_aload_n hx hb dX12_meet_97 rfl (lv_at hl 0 rfl) ?_
        refine lv_aload_n hx hb dX12_meet_98 rfl (lv_at hl 0 rfl) ?_
        refine va_get (D := D) (ci := 10) (v := .ref (g 8)) (C := RX12) (T := TX12) (N := 40) hx hb hts inX12 hown hK hP 0 rfl rfl 13 (by decide) k2 (fun _ h9 => h9) rfl dX12_meet_99 ?_
        refine lv_iload_n hx hb dX12_meet_102 rfl (lv_at hl 2 rfl) ?_
        have ⟨c13, hE⟩ := ck_some hE
        refine va_iald hx hb hK hP 8 0 rfl rfl c13 dX12_meet_103 ?_
        refine va_put (D := D) (ci := 10) (v := .int (c.2.2.1 y2.toNatClampNeg)) (ty := .int) (C := RX12) (T := TX12) (N := 40) hx hb hts inX12 tyX12 tyX12_ok nmX12 hown hK hP hD hS 0 rfl rfl 9 (by decide) k3 (fun _ h9 => h9) rfl (by decide +kernel) rfl rfl (Nat.le_of_ble_eq_true rfl) dX12_meet_104 (fun H locs hP hD hS => ?_)
        have hP : va_P D vwCl (wX g cA t ((c.2.2.1 y2.toNatClampNeg, s.2)) r c y d k q o m) H := hP
        have hD : va_D A (wX g cA t ((c.2.2.1 y2.toNatClampNeg, s.2)) r c y d k q o m) := hD
        refine lv_aload_n hx hb dX12_meet_107 rfl (lv_at hl 0 rfl) ?_
        refine lv_aload_n hx hb dX12_meet_108 rfl (lv_at hl 0 rfl) ?_
        refine va_get (D := D) (ci := 10) (v := .ref (g 9)) (C := RX12) (T := TX12) (N := 40) hx hb hts inX12 hown hK hP 0 rfl rfl 14 (by decide) k6 (fun _ h9 => h9) rfl dX12_meet_109 ?_
        refine lv_iload_n hx hb dX12_meet_112 rfl (lv_at hl 2 rfl) ?_
        have ⟨c14, hE⟩ := ck_some hE
        refine va_iald hx hb hK hP 9 0 rfl rfl c14 dX12_meet_113 ?_
        refine va_put (D := D) (ci := 10) (v := .int (c.2.2.2 y2.toNatClampNeg)) (ty := .int) (C := RX12) (T := TX12) (N := 40) hx hb hts inX12 tyX12 tyX12_ok nmX12 hown hK hP hD hS 0 rfl rfl 11 (by decide) k4 (fun _ h9 => h9) rfl (by decide +kernel) rfl rfl (Nat.le_of_ble_eq_true rfl) dX12_meet_114 (fun H locs hP hD hS => ?_)
        have hP : va_P D vwCl (wX g cA t ((c.2.2.1 y2.toNatClampNeg, s.2)) ((c.2.2.2 y2.toNatClampNeg, r.2)) c y d k q o m) H := hP
        have hD : va_D A (wX g cA t ((c.2.2.1 y2.toNatClampNeg, s.2)) ((c.2.2.2 y2.toNatClampNeg, r.2)) c y d k q o m) := hD
        refine lv_aload_n hx hb dX12_meet_117 rfl (lv_at hl 0 rfl) ?_
        refine lv_iload_n hx hb dX12_meet_118 rfl (lv_at hl 2 rfl) ?_
        refine va_put (D := D) (ci := 10) (v := .int y2) (ty := .int) (C := RX12) (T := TX12) (N := 40) hx hb hts inX12 tyX12 tyX12_ok nmX12 hown hK hP hD hS 0 rfl rfl 15 (by decide) k0 (fun _ h9 => h9) rfl (by decide +kernel) rfl rfl (Nat.le_of_ble_eq_true rfl) dX12_meet_119 (fun H locs hP hD hS => ?_)
        have hP : va_P D vwCl (wX g cA t ((c.2.2.1 y2.toNatClampNeg, s.2)) ((c.2.2.2 y2.toNatClampNeg, r.2)) ((y2, c.2.1, c.2.2.1, c.2.2.2)) y d k q o m) H := hP
        have hD : va_D A (wX g cA t ((c.2.2.1 y2.toNatClampNeg, s.2)) ((c.2.2.2 y2.toNatClampNeg, r.2)) ((y2, c.2.1, c.2.2.1, c.2.2.2)) y d k q o m) := hD
        refine lv_aload_n hx hb dX12_meet_122 rfl (lv_at hl 0 rfl) ?_
        refine lv_iload_n hx hb dX12_meet_123 rfl (lv_at hl 1 rfl) ?_
        obtain ⟨u15, h16, hE⟩ := bd_some hE
        refine cw_i (As := [.int y1]) (rest := []) (r := u15.1) (wc := (wX g cA t (((c.2.2.1 y2.toNatClampNeg, s.2))) (((c.2.2.2 y2.toNatClampNeg, r.2))) (((y2, c.2.1, c.2.2.1, c.2.2.2))) y d k q o m)) ⟨hx, hb, hml, hown, hts⟩ (c_X12_push l D cA g H.size y1 t ((c.2.2.1 y2.toNatClampNeg, s.2)) ((c.2.2.2 y2.toNatClampNeg, r.2)) ((y2, c.2.1, c.2.2.1, c.2.2.2)) y d k q o m u15 h16) (cwV 1 hts hX12_meet_X12_push_296 rfl rfl rfl (by decide +kernel) ⟨Nat.le_of_ble_eq_true rfl, Nat.le_of_ble_eq_true rfl⟩) rfl hl.1 rfl (Nat.le_of_ble_eq_true rfl) dX12_meet_124 ⟨Nat.zero_le _, Nat.zero_le _⟩ hK hP hD hS hA (va_recv hK hP (ci := 10) (q0 := 0) rfl rfl) [g 0, g 1, g 2, g 3, g 4, g 5, g 6, g 7, g 8, g 9, g 10, g 11, g 12, g 13, g 14, g 15, g 16, g 17, g 18, g 19] rfl rfl (fun _ _ _ _ h => h) (fun _ _ _ => trivial) (fun H locs hP hD hS => ?_)
        have hP : va_P D vwCl (wX g cA t u15.2 ((c.2.2.2 y2.toNatClampNeg, r.2)) ((y2, c.2.1, c.2.2.1, c.2.2.2)) y d k q o m) H := hP
        have hD : va_D A (wX g cA t u15.2 ((c.2.2.2 y2.toNatClampNeg, r.2)) ((y2, c.2.1, c.2.2.1, c.2.2.2)) y d k q o m) := hD
        refine lv_pop hx hb dX12_meet_127 rfl ?_
        refine lv_aload_n hx hb dX12_meet_128 rfl (lv_at hl 0 rfl) ?_
        refine lv_dup hx hb dX12_meet_129 rfl ?_
        refine va_get (D := D) (ci := 10) (v := .int m.2.2.2.1) (C := RX12) (T := TX12) (N := 40) hx hb hts inX12 hown hK hP 0 rfl rfl 36 (by decide) k7 (fun _ h9 => h9) rfl dX12_meet_130 ?_
        refine lv_iconst (v := 1) hx hb dX12_meet_133 (by decide +kernel) ?_
        refine lv_iadd hx hb dX12_meet_134 ?_
        refine va_put (D := D) (ci := 10) (v := .int (m.2.2.2.1 + 1)) (ty := .int) (C := RX12) (T := TX12) (N := 40) hx hb hts inX12 tyX12 tyX12_ok nmX12 hown hK hP hD hS 0 rfl rfl 36 (by decide) k7 (fun _ h9 => h9) rfl (by decide +kernel) rfl rfl (Nat.le_of_ble_eq_true rfl) dX12_meet_135 (fun H locs hP hD hS => ?_)
        have hP : va_P D vwCl (wX g cA t u15.2 ((c.2.2.2 y2.toNatClampNeg, r.2)) ((y2, c.2.1, c.2.2.1, c.2.2.2)) y d k q o ((m.1, m.2.1, m.2.2.1, m.2.2.2.1 + 1, m.2.2.2.2.1, m.2.2.2.2.2.1, m.2.2.2.2.2.2))) H := hP
        have hD : va_D A (wX g cA t u15.2 ((c.2.2.2 y2.toNatClampNeg, r.2)) ((y2, c.2.1, c.2.2.1, c.2.2.2)) y d k q o ((m.1, m.2.1, m.2.2.1, m.2.2.2.1 + 1, m.2.2.2.2.1, m.2.2.2.2.2.1, m.2.2.2.2.2.2))) := hD
        obtain rfl := Option.some.inj hE
        exact rt_v hx hb hr hP hS hlocks dX12_meet_138
      · have hE := if_f c12 hE
        refine lv_aload_n hx hb dX12_meet_84 rfl (lv_at hl 0 rfl) ?_
        refine va_get (D := D) (ci := 10) (v := .ref (g 6)) (C := RX12) (T := TX12) (N := 40) hx hb hts inX12 hown hK hP 0 rfl rfl 10 (by decide) k8 (fun _ h9 => h9) rfl dX12_meet_85 ?_
        refine lv_iload_n hx hb dX12_meet_88 rfl (lv_at hl 3 rfl) ?_
        refine lv_iconst (v := 0) hx hb dX12_meet_89 (by decide +kernel) ?_
        have ⟨c17, hE⟩ := ck_some hE
        refine va_iast hx hb hK hP hD hS 6 0 rfl rfl c17 dX12_meet_90 (fun H locs hP hD hS => ?_)
        have hP : va_P D vwCl (wX g cA t s ((r.1, upd r.2 y3.toNatClampNeg 0)) c y d k q o m) H := hP
        have hD : va_D A (wX g cA t s ((r.1, upd r.2 y3.toNatClampNeg 0)) c y d k q o m) := hD
        refine lv_iinc (v := y3 + 1) (lv' := [(3, .int (y3 + 1)), (0, .ref (g 0)), (1, .int y1), (2, .int y2)]) hx hb dX12_meet_91 hl (k := 3) rfl rfl (by decide) rfl (fun ls hl => ?_)
        refine lv_goto (tgt := 74) hx hb dX12_meet_94 (by decide) ?_
        exact ih74 y1 y2 (y3 + 1) s ((r.1, upd r.2 y3.toNatClampNeg 0)) c y d k q m H locs ls hP hD hS (lv_sub hl [1, 2, 3, 0] rfl) hE
  have w46 : ∀ (n : Nat), ∀ (y1 : Int32) (y2 : Int32) (y3 : Int32) (s : mS) (r : mR) (c : mC) (y : mY) (d : mD) (k : mK) (q : mP) (m : mM) (H : Heap) (locs : List Loc) (ls : Array Slot), va_P D vwCl (wX g cA t s r c y d k q o m) H → va_D A (wX g cA t s r c y d k q o m) → va_S A S0.heap H locs → lv_has ls 4 [(0, .ref (g 0)), (1, .int y1), (2, .int y2), (3, .int y3)] → b_X12_meet_46 n y1 y2 y3 s r c y d k q m = some u → W PP l EE (headSpec wsX12_meet ({ frames := 1, cells := 0, slots := 0, locals := 21 })).room S0 MM (#[.ref (g 0), .int x1] : Array Value) below meth CC H locs 0 0 (MQ below (cQv D (wX g cA t u.1 u.2.1 u.2.2.1 u.2.2.2.1 u.2.2.2.2.1 u.2.2.2.2.2.1 u.2.2.2.2.2.2.1 o u.2.2.2.2.2.2.2) A) (#[.ref (g 0), .int x1] : Array Value) S0 0 0 A) (F0 MM 46 ls []) := by
    intro  n
    induction n with
    | zero => intros; rename_i hE; exact absurd hE (by simp [b_X12_meet_46])
    | succ n ih46 =>
      intro y1 y2 y3 s r c y d k q m
      intro H locs ls hP hD hS hl hE
      unfold b_X12_meet_46 at hE
      refine lv_iload_n hx hb dX12_meet_46 rfl (lv_at hl 3 rfl) ?_
      refine lv_aload_n hx hb dX12_meet_47 rfl (lv_at hl 0 rfl) ?_
      refine va_get (D := D) (ci := 10) (v := .ref (g 8)) (C := RX12) (T := TX12) (N := 40) hx hb hts inX12 hown hK hP 0 rfl rfl 13 (by decide) k2 (fun _ h9 => h9) rfl dX12_meet_48 ?_
      refine lv_iload_n hx hb dX12_meet_51 rfl (lv_at hl 2 rfl) ?_
      have ⟨c8, hE⟩ := ck_some hE
      refine va_iald hx hb hK hP 8 0 rfl rfl c8 dX12_meet_52 ?_
      refine lv_icmp_ge (tgt := 69) hx hb dX12_meet_53 (by decide) (fun c9 => ?_) (fun c9 => ?_)
      · have hE := if_t c9 hE
        refine lv_aload_n hx hb dX12_meet_69 rfl (lv_at hl 0 rfl) ?_
        refine va_get (D := D) (ci := 10) (v := .int r.1) (C := RX12) (T := TX12) (N := 40) hx hb hts inX12 hown hK hP 0 rfl rfl 11 (by decide) k4 (fun _ h9 => h9) rfl dX12_meet_70 ?_
        refine lv_istore_n (lv' := [(3, .int r.1), (0, .ref (g 0)), (1, .int y1), (2, .int y2)]) hx hb dX12_meet_73 rfl hl (by decide) rfl (fun ls hl => ?_)
        exact w74 FU y1 y2 r.1 s r c y d k q m H locs ls hP hD hS (lv_sub hl [1, 2, 3, 0] rfl) hE
      · have hE := if_f c9 hE
        refine lv_aload_n hx hb dX12_meet_56 rfl (lv_at hl 0 rfl) ?_
        refine va_get (D := D) (ci := 10) (v := .ref (g 5)) (C := RX12) (T := TX12) (N := 40) hx hb hts inX12 hown hK hP 0 rfl rfl 8 (by decide) k5 (fun _ h9 => h9) rfl dX12_meet_57 ?_
        refine lv_iload_n hx hb dX12_meet_60 rfl (lv_at hl 3 rfl) ?_
        refine lv_iconst (v := 0) hx hb dX12_meet_61 (by decide +kernel) ?_
        have ⟨c10, hE⟩ := ck_some hE
        refine va_iast hx hb hK hP hD hS 5 0 rfl rfl c10 dX12_meet_62 (fun H locs hP hD hS => ?_)
        have hP : va_P D vwCl (wX g cA t ((s.1, upd s.2 y3.toNatClampNeg 0)) r c y d k q o m) H := hP
        have hD : va_D A (wX g cA t ((s.1, upd s.2 y3.toNatClampNeg 0)) r c y d k q o m) := hD
        refine lv_iinc (v := y3 + 1) (lv' := [(3, .int (y3 + 1)), (0, .ref (g 0)), (1, .int y1), (2, .int y2)]) hx hb dX12_meet_63 hl (k := 3) rfl rfl (by decide) rfl (fun ls hl => ?_)
        refine lv_goto (tgt := 46) hx hb dX12_meet_66 (by decide) ?_
        exact ih46 y1 y2 (y3 + 1) ((s.1, upd s.2 y3.toNatClampNeg 0)) r c y d k q m H locs ls hP hD hS (lv_sub hl [1, 2, 3, 0] rfl) hE
  have w31 : ∀ (y1 : Int32) (y2 : Int32) (s : mS) (r : mR) (c : mC) (y : mY) (d : mD) (k : mK) (q : mP) (m : mM) (H : Heap) (locs : List Loc) (ls : Array Slot), va_P D vwCl (wX g cA t s r c y d k q o m) H → va_D A (wX g cA t s r c y d k q o m) → va_S A S0.heap H locs → lv_has ls 4 [(0, .ref (g 0)), (1, .int y1), (2, .int y2)] → b_X12_meet_31  y1 y2 s r c y d k q m = some u → W PP l EE (headSpec wsX12_meet ({ frames := 1, cells := 0, slots := 0, locals := 21 })).room S0 MM (#[.ref (g 0), .int x1] : Array Value) below meth CC H locs 0 0 (MQ below (cQv D (wX g cA t u.1 u.2.1 u.2.2.1 u.2.2.2.1 u.2.2.2.2.1 u.2.2.2.2.2.1 u.2.2.2.2.2.2.1 o u.2.2.2.2.2.2.2) A) (#[.ref (g 0), .int x1] : Array Value) S0 0 0 A) (F0 MM 31 ls []) := by
    intro y1 y2 s r c y d k q m
    intro H locs ls hP hD hS hl hE
    unfold b_X12_meet_31 at hE
    refine lv_iload_n hx hb dX12_meet_31 rfl (lv_at hl 2 rfl) ?_
    refine lv_if_ge (tgt := 41) hx hb dX12_meet_32 (by decide) (fun c5 => ?_) (fun c5 => ?_)
    · have hE := if_t c5 hE
      refine lv_aload_n hx hb dX12_meet_41 rfl (lv_at hl 0 rfl) ?_
      refine va_get (D := D) (ci := 10) (v := .int s.1) (C := RX12) (T := TX12) (N := 40) hx hb hts inX12 hown hK hP 0 rfl rfl 9 (by decide) k3 (fun _ h9 => h9) rfl dX12_meet_42 ?_
      refine lv_istore_n (lv' := [(3, .int s.1), (0, .ref (g 0)), (1, .int y1), (2, .int y2)]) hx hb dX12_meet_45 rfl hl (by decide) rfl (fun ls hl => ?_)
      exact w46 FU y1 y2 s.1 s r c y d k q m H locs ls hP hD hS (lv_sub hl [1, 2, 3, 0] rfl) hE
    · have hE := if_f c5 hE
      refine lv_aload_n hx hb dX12_meet_35 rfl (lv_at hl 0 rfl) ?_
      refine lv_iload_n hx hb dX12_meet_36 rfl (lv_at hl 1 rfl) ?_
      obtain ⟨u6, h7, hE⟩ := bd_some hE
      refine cw_v (As := [.int y1]) (rest := []) (wc := (wX g cA t s r c y d k q o m)) ⟨hx, hb, hml, hown, hts⟩ (c_X12_ends l D cA g H.size y1 t s r c y d k q o m u6 h7) (cwV 1 hts hX12_meet_X12_ends_329 rfl rfl rfl (by decide +kernel) ⟨Nat.le_of_ble_eq_true rfl, Nat.le_of_ble_eq_true rfl⟩) rfl hl.1 rfl (Nat.le_of_ble_eq_true rfl) dX12_meet_37 ⟨Nat.zero_le _, Nat.zero_le _⟩ hK hP hD hS hA (va_recv hK hP (ci := 10) (q0 := 0) rfl rfl) [g 0, g 1, g 2, g 3, g 4, g 5, g 6, g 7, g 8, g 9, g 10, g 11, g 12, g 13, g 14, g 15, g 16, g 17, g 18, g 19] rfl rfl (fun _ _ _ _ h => h) (fun _ _ _ => trivial) (fun H locs hP hD hS => ?_)
      have hP : va_P D vwCl (wX g cA t u6.1 u6.2.1 u6.2.2.1 u6.2.2.2.1 u6.2.2.2.2.1 u6.2.2.2.2.2.1 u6.2.2.2.2.2.2.1 o u6.2.2.2.2.2.2.2) H := hP
      have hD : va_D A (wX g cA t u6.1 u6.2.1 u6.2.2.1 u6.2.2.2.1 u6.2.2.2.2.1 u6.2.2.2.2.2.1 u6.2.2.2.2.2.2.1 o u6.2.2.2.2.2.2.2) := hD
      obtain rfl := Option.some.inj hE
      exact rt_v hx hb hr hP hS hlocks dX12_meet_40
  have w12 : ∀ (n : Nat), ∀ (y1 : Int32) (y2 : Int32) (s : mS) (r : mR) (c : mC) (y : mY) (d : mD) (k : mK) (q : mP) (m : mM) (H : Heap) (locs : List Loc) (ls : Array Slot), va_P D vwCl (wX g cA t s r c y d k q o m) H → va_D A (wX g cA t s r c y d k q o m) → va_S A S0.heap H locs → lv_has ls 4 [(0, .ref (g 0)), (1, .int y1), (2, .int y2)] → b_X12_meet_12 n y1 y2 s r c y d k q m = some u → W PP l EE (headSpec wsX12_meet ({ frames := 1, cells := 0, slots := 0, locals := 21 })).room S0 MM (#[.ref (g 0), .int x1] : Array Value) below meth CC H locs 0 0 (MQ below (cQv D (wX g cA t u.1 u.2.1 u.2.2.1 u.2.2.2.1 u.2.2.2.2.1 u.2.2.2.2.2.1 u.2.2.2.2.2.2.1 o u.2.2.2.2.2.2.2) A) (#[.ref (g 0), .int x1] : Array Value) S0 0 0 A) (F0 MM 12 ls []) := by
    intro  n
    induction n with
    | zero => intros; rename_i hE; exact absurd hE (by simp [b_X12_meet_12])
    | succ n ih12 =>
      intro y1 y2 s r c y d k q m
      intro H locs ls hP hD hS hl hE
      unfold b_X12_meet_12 at hE
      refine lv_iload_n hx hb dX12_meet_12 rfl (lv_at hl 2 rfl) ?_
      refine lv_if_lt (tgt := 31) hx hb dX12_meet_13 (by decide) (fun c2 => ?_) (fun c2 => ?_)
      · have hE := if_t c2 hE
        exact w31  y1 y2 s r c y d k q m H locs ls hP hD hS (lv_sub hl [0, 1, 2] rfl) hE
      · have hE := if_f c2 hE
        refine lv_aload_n hx hb dX12_meet_16 rfl (lv_at hl 0 rfl) ?_
        refine va_get (D := D) (ci := 10) (v := .ref (g 8)) (C := RX12) (T := TX12) (N := 40) hx hb hts inX12 hown hK hP 0 rfl rfl 13 (by decide) k2 (fun _ h9 => h9) rfl dX12_meet_17 ?_
        refine lv_iload_n hx hb dX12_meet_20 rfl (lv_at hl 2 rfl) ?_
        have ⟨c3, hE⟩ := ck_some hE
        refine va_iald hx hb hK hP 8 0 rfl rfl c3 dX12_meet_21 ?_
        refine lv_if_ge (tgt := 31) hx hb dX12_meet_22 (by decide) (fun c4 => ?_) (fun c4 => ?_)
        · have hE := if_t c4 hE
          exact w31  y1 y2 s r c y d k q m H locs ls hP hD hS (lv_sub hl [0, 1, 2] rfl) hE
        · have hE := if_f c4 hE
          refine lv_iinc (v := y2 + (-1)) (lv' := [(2, .int (y2 + (-1))), (0, .ref (g 0)), (1, .int y1)]) hx hb dX12_meet_25 hl (k := 2) rfl rfl (by decide) rfl (fun ls hl => ?_)
          refine lv_goto (tgt := 12) hx hb dX12_meet_28 (by decide) ?_
          exact ih12 y1 (y2 + (-1)) s r c y d k q m H locs ls hP hD hS (lv_sub hl [1, 2, 0] rfl) hE
  unfold f_X12_meet at hE
  suffices main : ∀ (H : Heap) (locs : List Loc) (ls : Array Slot), va_P D vwCl (wX g cA t s r c y d k q o m) H → va_D A (wX g cA t s r c y d k q o m) → va_S A S0.heap H locs → lv_has ls 4 [(0, .ref (g 0)), (1, .int x1)] → W PP l EE (headSpec wsX12_meet ({ frames := 1, cells := 0, slots := 0, locals := 21 })).room S0 MM (#[.ref (g 0), .int x1] : Array Value) below meth CC H locs 0 0 (MQ below (cQv D (wX g cA t u.1 u.2.1 u.2.2.1 u.2.2.2.1 u.2.2.2.2.1 u.2.2.2.2.2.1 u.2.2.2.2.2.2.1 o u.2.2.2.2.2.2.2) A) (#[.ref (g 0), .int x1] : Array Value) S0 0 0 A) (F0 MM 0 ls []) from main _ _ _ hP hD hS hl
  intro H locs ls hP hD hS hl
  refine lv_iload_n hx hb dX12_meet_0 rfl (lv_at hl 1 rfl) ?_
  refine lv_if_ne (tgt := 5) hx hb dX12_meet_1 (by decide) (fun c1 => ?_) (fun c1 => ?_)
  · have hE := if_f c1 hE
    refine lv_aload_n hx hb dX12_meet_5 rfl (lv_at hl 0 rfl) ?_
    refine va_get (D := D) (ci := 10) (v := .int c.1) (C := RX12) (T := TX12) (N := 40) hx hb hts inX12 hown hK hP 0 rfl rfl 15 (by decide) k0 (fun _ h9 => h9) rfl dX12_meet_6 ?_
    refine lv_iconst (v := 1) hx hb dX12_meet_9 (by decide +kernel) ?_
    refine lv_isub hx hb dX12_meet_10 ?_
    refine lv_istore_n (lv' := [(2, .int (c.1 - 1)), (0, .ref (g 0)), (1, .int x1)]) hx hb dX12_meet_11 rfl hl (by decide) rfl (fun ls hl => ?_)
    exact w12 FU x1 (c.1 - 1) s r c y d k q m H locs ls hP hD hS (lv_sub hl [1, 2, 0] rfl) hE
  · have hE := if_t c1 hE
    obtain rfl := Option.some.inj hE
    exact rt_v hx hb hr hP hS hlocks dX12_meet_4
set_option maxHeartbeats 4000000 in
set_option maxRecDepth 100000 in
theorem c_X12_call (l : Launch) (D : va_G) (cA : Nat → ClassId) (g : Nat → Nat) (sz : Nat) (x1 : Int32) (x2 : Int32) (x3 : Int32) (t : mT) (s : mS) (r : mR) (c : mC) (y : mY) (d : mD) (k : mK) (q : mP) (o : mO) (m : mM) (u : Int32 × mC) (hE : f_X12_call x1 x2 x3 c = some u) : Met l yX12_call wsX12_call ({ frames := 0, cells := 0, slots := 0, locals := 0 }) (va_Pc [.ref (g 0), .int x1, .int x2, .int x3] (PRE D cA (wX g cA t s r c y d k q o m) sz (fun _ => True))) (cQi D (wX g cA t s r u.2 y d k q o m) (va_A (wX g cA t s r c y d k q o m) sz) u.1) 0 0 (va_A (wX g cA t s r c y d k q o m) sz) := by
  refine Met.ofW (cc := cX12_call) (maxL := 4) (ret := (some .int)) (by decide) rfl ?_
  intro PP EE S0 MM args below meth CC S1 B hml hv
  obtain ⟨rfl, hsz, hP, hK, hD0, hX⟩ := hv
  have hx := B.exec
  have hb := B.bytes
  have hr := B.returns
  have hts := atoms_spec (ws := wsX12_call) B.pre
  have hown : S0.vm.findClass RX12 = some MM.cls := findClass_of_methodNamed B.named
  have hlocks := B.notSynchronized
  subst hsz
  have hD := hD0.self (sz := S0.heap.size)
  generalize hAe : va_A (wX g cA t s r c y d k q o m) S0.heap.size = A at hD ⊢
  have hA : ∀ q : Nat, S0.heap.size ≤ q → A q := fun q h => by rw [← hAe]; exact Or.inr h
  have hS : va_S A S0.heap S0.heap [] := va_S.rf
  have k0 := hts (.fieldLink RX12 175 "WordForgeModel" "callAt" "[I") (List.mem_of_getElem? (i := 1) rfl)
  have inX12 : ∀ w ∈ wsX120, w ∈ wsX12_call := fun _ h => List.mem_cons_of_mem _ (List.mem_append_right _ h)
  have k2 := hts (.fieldLink RX12 311 "WordForgeModel" "calls" "I") (List.mem_of_getElem? (i := 2) rfl)
  have k3 := hts (.fieldLink RX12 178 "WordForgeModel" "hadStack" "[I") (List.mem_of_getElem? (i := 3) rfl)
  have k4 := hts (.fieldLink RX12 181 "WordForgeModel" "hadStore" "[I") (List.mem_of_getElem? (i := 4) rfl)
  have hl := lv_entry ([.ref (g 0), .int x1, .int x2, .int x3]) (n := 4) (Nat.le_of_ble_eq_true rfl)
  rw [lg_entry_eq]
  generalize (lg_sl ([.ref (g 0), .int x1, .int x2, .int x3]) ++ List.replicate (4 - (lg_sl ([.ref (g 0), .int x1, .int x2, .int x3])).length) Slot.unset).toArray = ls at hl ⊢
  have hl : lv_has ls 4 [(0, .ref (g 0)), (1, .int x1), (2, .int x2), (3, .int x3)] := hl
  unfold f_X12_call at hE
  suffices main : ∀ (H : Heap) (locs : List Loc) (ls : Array Slot), va_P D vwCl (wX g cA t s r c y d k q o m) H → va_D A (wX g cA t s r c y d k q o m) → va_S A S0.heap H locs → lv_has ls 4 [(0, .ref (g 0)), (1, .int x1), (2, .int x2), (3, .int x3)] → W PP l EE (headSpec wsX12_call ({ frames := 0, cells := 0, slots := 0, locals := 0 })).room S0 MM (#[.ref (g 0), .int x1, .int x2, .int x3] : Array Value) below meth CC H locs 0 0 (MQ below (cQi D (wX g cA t s r u.2 y d k q o m) A u.1) (#[.ref (g 0), .int x1, .int x2, .int x3] : Array Value) S0 0 0 A) (F0 MM 0 ls []) from main _ _ _ hP hD hS hl
  intro H locs ls hP hD hS hl
  refine lv_aload_n hx hb dX12_call_0 rfl (lv_at hl 0 rfl) ?_
  refine va_get (D := D) (ci := 10) (v := .ref (g 7)) (C := RX12) (T := TX12) (N := 40) hx hb hts inX12 hown hK hP 0 rfl rfl 12 (by decide) k0 (fun _ h9 => h9) rfl dX12_call_1 ?_
  refine lv_aload_n hx hb dX12_call_4 rfl (lv_at hl 0 rfl) ?_
  refine va_get (D := D) (ci := 10) (v := .int c.1) (C := RX12) (T := TX12) (N := 40) hx hb hts inX12 hown hK hP 0 rfl rfl 15 (by decide) k2 (fun _ h9 => h9) rfl dX12_call_5 ?_
  refine lv_iload_n hx hb dX12_call_8 rfl (lv_at hl 1 rfl) ?_
  have ⟨c1, hE⟩ := ck_some hE
  refine va_iast hx hb hK hP hD hS 7 0 rfl rfl c1 dX12_call_9 (fun H locs hP hD hS => ?_)
  have hP : va_P D vwCl (wX g cA t s r ((c.1, upd c.2.1 c.1.toNatClampNeg x1, c.2.2.1, c.2.2.2)) y d k q o m) H := hP
  have hD : va_D A (wX g cA t s r ((c.1, upd c.2.1 c.1.toNatClampNeg x1, c.2.2.1, c.2.2.2)) y d k q o m) := hD
  refine lv_aload_n hx hb dX12_call_10 rfl (lv_at hl 0 rfl) ?_
  refine va_get (D := D) (ci := 10) (v := .ref (g 8)) (C := RX12) (T := TX12) (N := 40) hx hb hts inX12 hown hK hP 0 rfl rfl 13 (by decide) k3 (fun _ h9 => h9) rfl dX12_call_11 ?_
  refine lv_aload_n hx hb dX12_call_14 rfl (lv_at hl 0 rfl) ?_
  refine va_get (D := D) (ci := 10) (v := .int c.1) (C := RX12) (T := TX12) (N := 40) hx hb hts inX12 hown hK hP 0 rfl rfl 15 (by decide) k2 (fun _ h9 => h9) rfl dX12_call_15 ?_
  refine lv_iload_n hx hb dX12_call_18 rfl (lv_at hl 2 rfl) ?_
  have ⟨c2, hE⟩ := ck_some hE
  refine va_iast hx hb hK hP hD hS 8 0 rfl rfl c2 dX12_call_19 (fun H locs hP hD hS => ?_)
  have hP : va_P D vwCl (wX g cA t s r ((c.1, upd c.2.1 c.1.toNatClampNeg x1, upd c.2.2.1 c.1.toNatClampNeg x2, c.2.2.2)) y d k q o m) H := hP
  have hD : va_D A (wX g cA t s r ((c.1, upd c.2.1 c.1.toNatClampNeg x1, upd c.2.2.1 c.1.toNatClampNeg x2, c.2.2.2)) y d k q o m) := hD
  refine lv_aload_n hx hb dX12_call_20 rfl (lv_at hl 0 rfl) ?_
  refine va_get (D := D) (ci := 10) (v := .ref (g 9)) (C := RX12) (T := TX12) (N := 40) hx hb hts inX12 hown hK hP 0 rfl rfl 14 (by decide) k4 (fun _ h9 => h9) rfl dX12_call_21 ?_
  refine lv_aload_n hx hb dX12_call_24 rfl (lv_at hl 0 rfl) ?_
  refine va_get (D := D) (ci := 10) (v := .int c.1) (C := RX12) (T := TX12) (N := 40) hx hb hts inX12 hown hK hP 0 rfl rfl 15 (by decide) k2 (fun _ h9 => h9) rfl dX12_call_25 ?_
  refine lv_iload_n hx hb dX12_call_28 rfl (lv_at hl 3 rfl) ?_
  have ⟨c3, hE⟩ := ck_some hE
  refine va_iast hx hb hK hP hD hS 9 0 rfl rfl c3 dX12_call_29 (fun H locs hP hD hS => ?_)
  have hP : va_P D vwCl (wX g cA t s r ((c.1, upd c.2.1 c.1.toNatClampNeg x1, upd c.2.2.1 c.1.toNatClampNeg x2, upd c.2.2.2 c.1.toNatClampNeg x3)) y d k q o m) H := hP
  have hD : va_D A (wX g cA t s r ((c.1, upd c.2.1 c.1.toNatClampNeg x1, upd c.2.2.1 c.1.toNatClampNeg x2, upd c.2.2.2 c.1.toNatClampNeg x3)) y d k q o m) := hD
  refine lv_aload_n hx hb dX12_call_30 rfl (lv_at hl 0 rfl) ?_
  refine lv_dup hx hb dX12_call_31 rfl ?_
  refine va_get (D := D) (ci := 10) (v := .int c.1) (C := RX12) (T := TX12) (N := 40) hx hb hts inX12 hown hK hP 0 rfl rfl 15 (by decide) k2 (fun _ h9 => h9) rfl dX12_call_32 ?_
  refine lv_iconst (v := 1) hx hb dX12_call_35 (by decide +kernel) ?_
  refine lv_iadd hx hb dX12_call_36 ?_
  refine va_put (D := D) (ci := 10) (v := .int (c.1 + 1)) (ty := .int) (C := RX12) (T := TX12) (N := 40) hx hb hts inX12 tyX12 tyX12_ok nmX12 hown hK hP hD hS 0 rfl rfl 15 (by decide) k2 (fun _ h9 => h9) rfl (by decide +kernel) rfl rfl (Nat.le_of_ble_eq_true rfl) dX12_call_37 (fun H locs hP hD hS => ?_)
  have hP : va_P D vwCl (wX g cA t s r ((c.1 + 1, upd c.2.1 c.1.toNatClampNeg x1, upd c.2.2.1 c.1.toNatClampNeg x2, upd c.2.2.2 c.1.toNatClampNeg x3)) y d k q o m) H := hP
  have hD : va_D A (wX g cA t s r ((c.1 + 1, upd c.2.1 c.1.toNatClampNeg x1, upd c.2.2.1 c.1.toNatClampNeg x2, upd c.2.2.2 c.1.toNatClampNeg x3)) y d k q o m) := hD
  refine lv_iconst (v := 0) hx hb dX12_call_40 (by decide +kernel) ?_
  obtain rfl := Option.some.inj hE
  exact rt_i hx hb hr hP hS rfl hlocks dX12_call_41
set_option maxRecDepth 20000 in
theorem hX12_madeWord_X12_call_386 : GoodIn wsX12_madeWord (wsV RX12 386 RX12 yX12_call wsX12_call) := goodIn_r _ [7, 8, 9, 10, 11, 12, 2, 13, 14, 20, 21, 22, 23, 24, 25, 26, 27, 28, 29, 30, 31, 32, 33, 34, 35, 36, 37, 38, 39, 40, 41, 42, 43, 44, 45, 46, 47, 48, 49, 50, 51, 52, 53, 54, 55, 56, 57, 58, 59] rfl (by decide +kernel)
set_option maxRecDepth 20000 in
theorem hX12_madeWord_X12_push_296 : GoodIn wsX12_madeWord (wsV RX12 296 RX12 yX12_push wsX12_push) := goodIn_r _ [15, 16, 17, 10, 18, 19, 4, 20, 21, 22, 23, 24, 25, 26, 27, 28, 29, 30, 31, 32, 33, 34, 35, 36, 37, 38, 39, 40, 41, 42, 43, 44, 45, 46, 47, 48, 49, 50, 51, 52, 53, 54, 55, 56, 57, 58, 59] rfl (by decide +kernel)
set_option maxHeartbeats 4000000 in
set_option maxRecDepth 100000 in
theorem c_X12_madeWord (l : Launch) (D : va_G) (cA : Nat → ClassId) (g : Nat → Nat) (sz : Nat) (x1 : Int32) (t : mT) (s : mS) (r : mR) (c : mC) (y : mY) (d : mD) (k : mK) (q : mP) (o : mO) (m : mM) (u : Int32 × mS × mC) (hE : f_X12_madeWord x1 s c y d = some u) : Met l yX12_madeWord wsX12_madeWord ({ frames := 1, cells := 0, slots := 0, locals := 23 }) (va_Pc [.ref (g 0), .int x1] (PRE D cA (wX g cA t s r c y d k q o m) sz (fun _ => True))) (cQi D (wX g cA t u.2.1 r u.2.2 y d k q o m) (va_A (wX g cA t s r c y d k q o m) sz) u.1) 0 0 (va_A (wX g cA t s r c y d k q o m) sz) := by
  refine Met.ofW (cc := cX12_madeWord) (maxL := 2) (ret := (some .int)) (by decide) rfl ?_
  intro PP EE S0 MM args below meth CC S1 B hml hv
  obtain ⟨rfl, hsz, hP, hK, hD0, hX⟩ := hv
  have hx := B.exec
  have hb := B.bytes
  have hr := B.returns
  have hts := atoms_spec (ws := wsX12_madeWord) B.pre
  have hown : S0.vm.findClass RX12 = some MM.cls := findClass_of_methodNamed B.named
  have hlocks := B.notSynchronized
  subst hsz
  have hD := hD0.self (sz := S0.heap.size)
  generalize hAe : va_A (wX g cA t s r c y d k q o m) S0.heap.size = A at hD ⊢
  have hA : ∀ q : Nat, S0.heap.size ≤ q → A q := fun q h => by rw [← hAe]; exact Or.inr h
  have hS : va_S A S0.heap S0.heap [] := va_S.rf
  have k0 := hts (.fieldLink RX12 190 "WordForgeModel" "sort" "[I") (List.mem_of_getElem? (i := 1) rfl)
  have inX12 : ∀ w ∈ wsX120, w ∈ wsX12_madeWord := fun _ h => List.mem_cons_of_mem _ (List.mem_append_right _ h)
  have k2 := hts (.fieldLink RX12 293 "WordForgeModel" "depth" "I") (List.mem_of_getElem? (i := 4) rfl)
  have k3 := hts (.fieldLink RX12 193 "WordForgeModel" "behaviour" "[I") (List.mem_of_getElem? (i := 6) rfl)
  have k4 := hts (.fieldLink RX12 311 "WordForgeModel" "calls" "I") (List.mem_of_getElem? (i := 2) rfl)
  have k5 := hts (.fieldLink RX12 184 "WordForgeModel" "cells" "[I") (List.mem_of_getElem? (i := 5) rfl)
  have k6 := hts (.fieldLink RX12 187 "WordForgeModel" "place" "[I") (List.mem_of_getElem? (i := 3) rfl)
  have hl := lv_entry ([.ref (g 0), .int x1]) (n := 2) (Nat.le_of_ble_eq_true rfl)
  rw [lg_entry_eq]
  generalize (lg_sl ([.ref (g 0), .int x1]) ++ List.replicate (2 - (lg_sl ([.ref (g 0), .int x1])).length) Slot.unset).toArray = ls at hl ⊢
  have hl : lv_has ls 2 [(0, .ref (g 0)), (1, .int x1)] := hl
  have w96 : ∀ (y1 : Int32) (s : mS) (c : mC) (y : mY) (d : mD) (H : Heap) (locs : List Loc) (ls : Array Slot), va_P D vwCl (wX g cA t s r c y d k q o m) H → va_D A (wX g cA t s r c y d k q o m) → va_S A S0.heap H locs → lv_has ls 2 [(0, .ref (g 0)), (1, .int y1)] → b_X12_madeWord_96  y1 s c y d = some u → W PP l EE (headSpec wsX12_madeWord ({ frames := 1, cells := 0, slots := 0, locals := 23 })).room S0 MM (#[.ref (g 0), .int x1] : Array Value) below meth CC H locs 0 0 (MQ below (cQi D (wX g cA t u.2.1 r u.2.2 y d k q o m) A u.1) (#[.ref (g 0), .int x1] : Array Value) S0 0 0 A) (F0 MM 96 ls []) := by
    intro y1 s c y d
    intro H locs ls hP hD hS hl hE
    unfold b_X12_madeWord_96 at hE
    refine lv_aload_n hx hb dX12_madeWord_96 rfl (lv_at hl 0 rfl) ?_
    refine lv_aload_n hx hb dX12_madeWord_97 rfl (lv_at hl 0 rfl) ?_
    refine va_get (D := D) (ci := 10) (v := .ref (g 11)) (C := RX12) (T := TX12) (N := 40) hx hb hts inX12 hown hK hP 0 rfl rfl 18 (by decide) k6 (fun _ h9 => h9) rfl dX12_madeWord_98 ?_
    refine lv_iload_n hx hb dX12_madeWord_101 rfl (lv_at hl 1 rfl) ?_
    have ⟨c17, hE⟩ := ck_some hE
    refine va_iald hx hb hK hP 11 0 rfl rfl c17 dX12_madeWord_102 ?_
    obtain ⟨u18, h19, hE⟩ := bd_some hE
    refine cw_i (As := [.int (d.2.2.2.1 y1.toNatClampNeg)]) (rest := []) (r := u18.1) (wc := (wX g cA t s r c y d k q o m)) ⟨hx, hb, hml, hown, hts⟩ (c_X12_push l D cA g H.size (d.2.2.2.1 y1.toNatClampNeg) t s r c y d k q o m u18 h19) (cwV 1 hts hX12_madeWord_X12_push_296 rfl rfl rfl (by decide +kernel) ⟨Nat.le_of_ble_eq_true rfl, Nat.le_of_ble_eq_true rfl⟩) rfl hl.1 rfl (Nat.le_of_ble_eq_true rfl) dX12_madeWord_103 ⟨Nat.zero_le _, Nat.zero_le _⟩ hK hP hD hS hA (va_recv hK hP (ci := 10) (q0 := 0) rfl rfl) [g 0, g 1, g 2, g 3, g 4, g 5, g 6, g 7, g 8, g 9, g 10, g 11, g 12, g 13, g 14, g 15, g 16, g 17, g 18, g 19] rfl rfl (fun _ _ _ _ h => h) (fun _ _ _ => trivial) (fun H locs hP hD hS => ?_)
    have hP : va_P D vwCl (wX g cA t u18.2 r c y d k q o m) H := hP
    have hD : va_D A (wX g cA t u18.2 r c y d k q o m) := hD
    refine lv_pop hx hb dX12_madeWord_106 rfl ?_
    refine lv_aload_n hx hb dX12_madeWord_107 rfl (lv_at hl 0 rfl) ?_
    refine va_get (D := D) (ci := 10) (v := .ref (g 13)) (C := RX12) (T := TX12) (N := 40) hx hb hts inX12 hown hK hP 0 rfl rfl 20 (by decide) k3 (fun _ h9 => h9) rfl dX12_madeWord_108 ?_
    refine lv_iload_n hx hb dX12_madeWord_111 rfl (lv_at hl 1 rfl) ?_
    have ⟨c20, hE⟩ := ck_some hE
    refine va_iald hx hb hK hP 13 0 rfl rfl c20 dX12_madeWord_112 ?_
    refine lv_if_lt (tgt := 131) hx hb dX12_madeWord_113 (by decide) (fun c21 => ?_) (fun c21 => ?_)
    · have hE := if_t c21 hE
      refine lv_iconst (v := 0) hx hb dX12_madeWord_131 (by decide +kernel) ?_
      obtain rfl := Option.some.inj hE
      exact rt_i hx hb hr hP hS rfl hlocks dX12_madeWord_132
    · have hE := if_f c21 hE
      refine lv_aload_n hx hb dX12_madeWord_116 rfl (lv_at hl 0 rfl) ?_
      refine lv_aload_n hx hb dX12_madeWord_117 rfl (lv_at hl 0 rfl) ?_
      refine va_get (D := D) (ci := 10) (v := .ref (g 13)) (C := RX12) (T := TX12) (N := 40) hx hb hts inX12 hown hK hP 0 rfl rfl 20 (by decide) k3 (fun _ h9 => h9) rfl dX12_madeWord_118 ?_
      refine lv_iload_n hx hb dX12_madeWord_121 rfl (lv_at hl 1 rfl) ?_
      have ⟨c22, hE⟩ := ck_some hE
      refine va_iald hx hb hK hP 13 0 rfl rfl c22 dX12_madeWord_122 ?_
      refine lv_iconst (v := (-1)) hx hb dX12_madeWord_123 (by decide +kernel) ?_
      refine lv_iconst (v := (-1)) hx hb dX12_madeWord_124 (by decide +kernel) ?_
      obtain ⟨u23, h24, hE⟩ := bd_some hE
      refine cw_i (As := [.int (d.2.2.2.2.2.1 y1.toNatClampNeg), .int ((-1)), .int ((-1))]) (rest := []) (r := u23.1) (wc := (wX g cA t u18.2 r c y d k q o m)) ⟨hx, hb, hml, hown, hts⟩ (c_X12_call l D cA g H.size (d.2.2.2.2.2.1 y1.toNatClampNeg) ((-1)) ((-1)) t u18.2 r c y d k q o m u23 h24) (cwV 3 hts hX12_madeWord_X12_call_386 rfl rfl rfl (by decide +kernel) ⟨Nat.le_of_ble_eq_true rfl, Nat.le_of_ble_eq_true rfl⟩) rfl hl.1 rfl (Nat.le_of_ble_eq_true rfl) dX12_madeWord_125 ⟨Nat.zero_le _, Nat.zero_le _⟩ hK hP hD hS hA (va_recv hK hP (ci := 10) (q0 := 0) rfl rfl) [g 0, g 1, g 2, g 3, g 4, g 5, g 6, g 7, g 8, g 9, g 10, g 11, g 12, g 13, g 14, g 15, g 16, g 17, g 18, g 19] rfl rfl (fun _ _ _ _ h => h) (fun _ _ _ => trivial) (fun H locs hP hD hS => ?_)
      have hP : va_P D vwCl (wX g cA t u18.2 r u23.2 y d k q o m) H := hP
      have hD : va_D A (wX g cA t u18.2 r u23.2 y d k q o m) := hD
      refine lv_goto (tgt := 132) hx hb dX12_madeWord_128 (by decide) ?_
      obtain rfl := Option.some.inj hE
      exact rt_i hx hb hr hP hS rfl hlocks dX12_madeWord_132
  unfold f_X12_madeWord at hE
  suffices main : ∀ (H : Heap) (locs : List Loc) (ls : Array Slot), va_P D vwCl (wX g cA t s r c y d k q o m) H → va_D A (wX g cA t s r c y d k q o m) → va_S A S0.heap H locs → lv_has ls 2 [(0, .ref (g 0)), (1, .int x1)] → W PP l EE (headSpec wsX12_madeWord ({ frames := 1, cells := 0, slots := 0, locals := 23 })).room S0 MM (#[.ref (g 0), .int x1] : Array Value) below meth CC H locs 0 0 (MQ below (cQi D (wX g cA t u.2.1 r u.2.2 y d k q o m) A u.1) (#[.ref (g 0), .int x1] : Array Value) S0 0 0 A) (F0 MM 0 ls []) from main _ _ _ hP hD hS hl
  intro H locs ls hP hD hS hl
  refine lv_aload_n hx hb dX12_madeWord_0 rfl (lv_at hl 0 rfl) ?_
  refine va_get (D := D) (ci := 10) (v := .ref (g 12)) (C := RX12) (T := TX12) (N := 40) hx hb hts inX12 hown hK hP 0 rfl rfl 19 (by decide) k0 (fun _ h9 => h9) rfl dX12_madeWord_1 ?_
  refine lv_iload_n hx hb dX12_madeWord_4 rfl (lv_at hl 1 rfl) ?_
  have ⟨c1, hE⟩ := ck_some hE
  refine va_iald hx hb hK hP 12 0 rfl rfl c1 dX12_madeWord_5 ?_
  refine lv_iconst (v := 1) hx hb dX12_madeWord_6 (by decide +kernel) ?_
  refine lv_icmp_ne (tgt := 37) hx hb dX12_madeWord_7 (by decide) (fun c2 => ?_) (fun c2 => ?_)
  · have hE := if_f c2 hE
    refine lv_aload_n hx hb dX12_madeWord_37 rfl (lv_at hl 0 rfl) ?_
    refine va_get (D := D) (ci := 10) (v := .int s.1) (C := RX12) (T := TX12) (N := 40) hx hb hts inX12 hown hK hP 0 rfl rfl 9 (by decide) k2 (fun _ h9 => h9) rfl dX12_madeWord_38 ?_
    refine lv_bipush (v := 30) hx hb dX12_madeWord_41 (by decide +kernel) ?_
    refine lv_icmp_ne (tgt := 49) hx hb dX12_madeWord_43 (by decide) (fun c3 => ?_) (fun c3 => ?_)
    · have hE := if_f c3 hE
      refine lv_aload_n hx hb dX12_madeWord_49 rfl (lv_at hl 0 rfl) ?_
      refine va_get (D := D) (ci := 10) (v := .ref (g 12)) (C := RX12) (T := TX12) (N := 40) hx hb hts inX12 hown hK hP 0 rfl rfl 19 (by decide) k0 (fun _ h9 => h9) rfl dX12_madeWord_50 ?_
      refine lv_iload_n hx hb dX12_madeWord_53 rfl (lv_at hl 1 rfl) ?_
      have ⟨c4, hE⟩ := ck_some hE
      refine va_iald hx hb hK hP 12 0 rfl rfl c4 dX12_madeWord_54 ?_
      refine lv_iconst (v := 3) hx hb dX12_madeWord_55 (by decide +kernel) ?_
      refine lv_icmp_ne (tgt := 75) hx hb dX12_madeWord_56 (by decide) (fun c5 => ?_) (fun c5 => ?_)
      · have hE := if_f c5 hE
        refine lv_aload_n hx hb dX12_madeWord_75 rfl (lv_at hl 0 rfl) ?_
        refine va_get (D := D) (ci := 10) (v := .ref (g 13)) (C := RX12) (T := TX12) (N := 40) hx hb hts inX12 hown hK hP 0 rfl rfl 20 (by decide) k3 (fun _ h9 => h9) rfl dX12_madeWord_76 ?_
        refine lv_iload_n hx hb dX12_madeWord_79 rfl (lv_at hl 1 rfl) ?_
        have ⟨c6, hE⟩ := ck_some hE
        refine va_iald hx hb hK hP 13 0 rfl rfl c6 dX12_madeWord_80 ?_
        refine lv_if_lt (tgt := 96) hx hb dX12_madeWord_81 (by decide) (fun c7 => ?_) (fun c7 => ?_)
        · have hE := if_t c7 hE
          exact w96  x1 s c y d H locs ls hP hD hS (lv_sub hl [0, 1] rfl) hE
        · have hE := if_f c7 hE
          refine lv_aload_n hx hb dX12_madeWord_84 rfl (lv_at hl 0 rfl) ?_
          refine va_get (D := D) (ci := 10) (v := .int c.1) (C := RX12) (T := TX12) (N := 40) hx hb hts inX12 hown hK hP 0 rfl rfl 15 (by decide) k4 (fun _ h9 => h9) rfl dX12_madeWord_85 ?_
          refine lv_bipush (v := 30) hx hb dX12_madeWord_88 (by decide +kernel) ?_
          refine lv_icmp_ne (tgt := 96) hx hb dX12_madeWord_90 (by decide) (fun c8 => ?_) (fun c8 => ?_)
          · have hE := if_f c8 hE
            exact w96  x1 s c y d H locs ls hP hD hS (lv_sub hl [0, 1] rfl) hE
          · have hE := if_t c8 hE
            refine lv_bipush (v := (-5)) hx hb dX12_madeWord_93 (by decide +kernel) ?_
            obtain rfl := Option.some.inj hE
            exact rt_i hx hb hr hP hS rfl hlocks dX12_madeWord_95
      · have hE := if_t c5 hE
        refine lv_aload_n hx hb dX12_madeWord_59 rfl (lv_at hl 0 rfl) ?_
        refine lv_aload_n hx hb dX12_madeWord_60 rfl (lv_at hl 0 rfl) ?_
        refine va_get (D := D) (ci := 10) (v := .ref (g 10)) (C := RX12) (T := TX12) (N := 40) hx hb hts inX12 hown hK hP 0 rfl rfl 16 (by decide) k5 (fun _ h9 => h9) rfl dX12_madeWord_61 ?_
        refine lv_aload_n hx hb dX12_madeWord_64 rfl (lv_at hl 0 rfl) ?_
        refine va_get (D := D) (ci := 10) (v := .ref (g 11)) (C := RX12) (T := TX12) (N := 40) hx hb hts inX12 hown hK hP 0 rfl rfl 18 (by decide) k6 (fun _ h9 => h9) rfl dX12_madeWord_65 ?_
        refine lv_iload_n hx hb dX12_madeWord_68 rfl (lv_at hl 1 rfl) ?_
        have ⟨c9, hE⟩ := ck_some hE
        refine va_iald hx hb hK hP 11 0 rfl rfl c9 dX12_madeWord_69 ?_
        have ⟨c10, hE⟩ := ck_some hE
        refine va_iald hx hb hK hP 10 0 rfl rfl c10 dX12_madeWord_70 ?_
        obtain ⟨u11, h12, hE⟩ := bd_some hE
        refine cw_i (As := [.int (y.2 ((d.2.2.2.1 x1.toNatClampNeg).toNatClampNeg))]) (rest := []) (r := u11.1) (wc := (wX g cA t s r c y d k q o m)) ⟨hx, hb, hml, hown, hts⟩ (c_X12_push l D cA g H.size (y.2 ((d.2.2.2.1 x1.toNatClampNeg).toNatClampNeg)) t s r c y d k q o m u11 h12) (cwV 1 hts hX12_madeWord_X12_push_296 rfl rfl rfl (by decide +kernel) ⟨Nat.le_of_ble_eq_true rfl, Nat.le_of_ble_eq_true rfl⟩) rfl hl.1 rfl (Nat.le_of_ble_eq_true rfl) dX12_madeWord_71 ⟨Nat.zero_le _, Nat.zero_le _⟩ hK hP hD hS hA (va_recv hK hP (ci := 10) (q0 := 0) rfl rfl) [g 0, g 1, g 2, g 3, g 4, g 5, g 6, g 7, g 8, g 9, g 10, g 11, g 12, g 13, g 14, g 15, g 16, g 17, g 18, g 19] rfl rfl (fun _ _ _ _ h => h) (fun _ _ _ => trivial) (fun H locs hP hD hS => ?_)
        have hP : va_P D vwCl (wX g cA t u11.2 r c y d k q o m) H := hP
        have hD : va_D A (wX g cA t u11.2 r c y d k q o m) := hD
        obtain rfl := Option.some.inj hE
        exact rt_i hx hb hr hP hS rfl hlocks dX12_madeWord_74
    · have hE := if_t c3 hE
      refine lv_bipush (v := (-3)) hx hb dX12_madeWord_46 (by decide +kernel) ?_
      obtain rfl := Option.some.inj hE
      exact rt_i hx hb hr hP hS rfl hlocks dX12_madeWord_48
  · have hE := if_t c2 hE
    refine lv_aload_n hx hb dX12_madeWord_10 rfl (lv_at hl 0 rfl) ?_
    refine va_get (D := D) (ci := 10) (v := .int c.1) (C := RX12) (T := TX12) (N := 40) hx hb hts inX12 hown hK hP 0 rfl rfl 15 (by decide) k4 (fun _ h9 => h9) rfl dX12_madeWord_11 ?_
    refine lv_bipush (v := 30) hx hb dX12_madeWord_14 (by decide +kernel) ?_
    refine lv_icmp_ne (tgt := 24) hx hb dX12_madeWord_16 (by decide) (fun c13 => ?_) (fun c13 => ?_)
    · have hE := if_f c13 hE
      refine lv_aload_n hx hb dX12_madeWord_24 rfl (lv_at hl 0 rfl) ?_
      refine lv_aload_n hx hb dX12_madeWord_25 rfl (lv_at hl 0 rfl) ?_
      refine va_get (D := D) (ci := 10) (v := .ref (g 11)) (C := RX12) (T := TX12) (N := 40) hx hb hts inX12 hown hK hP 0 rfl rfl 18 (by decide) k6 (fun _ h9 => h9) rfl dX12_madeWord_26 ?_
      refine lv_iload_n hx hb dX12_madeWord_29 rfl (lv_at hl 1 rfl) ?_
      have ⟨c14, hE⟩ := ck_some hE
      refine va_iald hx hb hK hP 11 0 rfl rfl c14 dX12_madeWord_30 ?_
      refine lv_iconst (v := (-1)) hx hb dX12_madeWord_31 (by decide +kernel) ?_
      refine lv_iconst (v := (-1)) hx hb dX12_madeWord_32 (by decide +kernel) ?_
      obtain ⟨u15, h16, hE⟩ := bd_some hE
      refine cw_i (As := [.int (d.2.2.2.1 x1.toNatClampNeg), .int ((-1)), .int ((-1))]) (rest := []) (r := u15.1) (wc := (wX g cA t s r c y d k q o m)) ⟨hx, hb, hml, hown, hts⟩ (c_X12_call l D cA g H.size (d.2.2.2.1 x1.toNatClampNeg) ((-1)) ((-1)) t s r c y d k q o m u15 h16) (cwV 3 hts hX12_madeWord_X12_call_386 rfl rfl rfl (by decide +kernel) ⟨Nat.le_of_ble_eq_true rfl, Nat.le_of_ble_eq_true rfl⟩) rfl hl.1 rfl (Nat.le_of_ble_eq_true rfl) dX12_madeWord_33 ⟨Nat.zero_le _, Nat.zero_le _⟩ hK hP hD hS hA (va_recv hK hP (ci := 10) (q0 := 0) rfl rfl) [g 0, g 1, g 2, g 3, g 4, g 5, g 6, g 7, g 8, g 9, g 10, g 11, g 12, g 13, g 14, g 15, g 16, g 17, g 18, g 19] rfl rfl (fun _ _ _ _ h => h) (fun _ _ _ => trivial) (fun H locs hP hD hS => ?_)
      have hP : va_P D vwCl (wX g cA t s r u15.2 y d k q o m) H := hP
      have hD : va_D A (wX g cA t s r u15.2 y d k q o m) := hD
      obtain rfl := Option.some.inj hE
      exact rt_i hx hb hr hP hS rfl hlocks dX12_madeWord_36
    · have hE := if_t c13 hE
      refine lv_bipush (v := (-5)) hx hb dX12_madeWord_19 (by decide +kernel) ?_
      refine lv_goto (tgt := 36) hx hb dX12_madeWord_21 (by decide) ?_
      obtain rfl := Option.some.inj hE
      exact rt_i hx hb hr hP hS rfl hlocks dX12_madeWord_36
set_option maxHeartbeats 4000000 in
set_option maxRecDepth 100000 in
theorem c_X12_isStarred (l : Launch) (x0 : Int32) (sz : Nat) (u : Int32) (hE : f_X12_isStarred x0 = some u) : Met l yX12_isStarred wsX12_isStarred ({ frames := 0, cells := 0, slots := 0, locals := 0 }) (va_Pc [.int x0] (fun _ => True)) (va_Qi (fun (r0 : Int32) (_ : Unit) => r0 = u) (fun _ _ => True) (fun q => sz ≤ q)) 0 0 (fun q => sz ≤ q) := by
  refine Met.ofW (cc := cX12_isStarred) (maxL := 1) (ret := (some .boolean)) (by decide) rfl ?_
  intro PP EE S0 MM args below meth CC S1 B hml hv
  obtain ⟨rfl, hsz⟩ := hv
  have hx := B.exec
  have hb := B.bytes
  have hr := B.returns
  have hts := atoms_spec (ws := wsX12_isStarred) B.pre
  have hown : S0.vm.findClass RX12 = some MM.cls := findClass_of_methodNamed B.named
  have hlocks := B.notSynchronized
  have hl := lv_entry ([.int x0]) (n := 1) (Nat.le_of_ble_eq_true rfl)
  rw [lg_entry_eq]
  generalize (lg_sl ([.int x0]) ++ List.replicate (1 - (lg_sl ([.int x0])).length) Slot.unset).toArray = ls at hl ⊢
  have hl : lv_has ls 1 [(0, .int x0)] := hl
  have w42 : ∀ (ls : Array Slot), lv_has ls 1 [] → b_X12_isStarred_42   = some u → W PP l EE (headSpec wsX12_isStarred ({ frames := 0, cells := 0, slots := 0, locals := 0 })).room S0 MM (#[.int x0] : Array Value) below meth CC S0.heap [] 0 0 (MQ below (va_Qi (fun (r0 : Int32) (_ : Unit) => r0 = u) (fun _ _ => True) (fun q => sz ≤ q)) (#[.int x0] : Array Value) S0 0 0 (fun q => sz ≤ q)) (F0 MM 42 ls []) := by
    intro ls hl hE
    unfold b_X12_isStarred_42 at hE
    refine lv_iconst (v := 1) hx hb dX12_isStarred_42 (by decide +kernel) ?_
    refine lv_goto (tgt := 47) hx hb dX12_isStarred_43 (by decide) ?_
    obtain rfl := Option.some.inj hE
    exact rs_j hx hb hr (by decide +kernel) rfl rfl hlocks dX12_isStarred_47
  unfold f_X12_isStarred at hE
  refine lv_iload_n hx hb dX12_isStarred_0 rfl (lv_at hl 0 rfl) ?_
  refine lv_bipush (v := 54) hx hb dX12_isStarred_1 (by decide +kernel) ?_
  refine lv_icmp_eq (tgt := 42) hx hb dX12_isStarred_3 (by decide) (fun c1 => ?_) (fun c1 => ?_)
  · have hE := if_t c1 hE
    exact w42   ls (lv_sub hl [] rfl) hE
  · have hE := if_f c1 hE
    refine lv_iload_n hx hb dX12_isStarred_6 rfl (lv_at hl 0 rfl) ?_
    refine lv_bipush (v := 58) hx hb dX12_isStarred_7 (by decide +kernel) ?_
    refine lv_icmp_eq (tgt := 42) hx hb dX12_isStarred_9 (by decide) (fun c2 => ?_) (fun c2 => ?_)
    · have hE := if_t c2 hE
      exact w42   ls (lv_sub hl [] rfl) hE
    · have hE := if_f c2 hE
      refine lv_iload_n hx hb dX12_isStarred_12 rfl (lv_at hl 0 rfl) ?_
      refine lv_bipush (v := 61) hx hb dX12_isStarred_13 (by decide +kernel) ?_
      refine lv_icmp_eq (tgt := 42) hx hb dX12_isStarred_15 (by decide) (fun c3 => ?_) (fun c3 => ?_)
      · have hE := if_t c3 hE
        exact w42   ls (lv_sub hl [] rfl) hE
      · have hE := if_f c3 hE
        refine lv_iload_n hx hb dX12_isStarred_18 rfl (lv_at hl 0 rfl) ?_
        refine lv_bipush (v := 64) hx hb dX12_isStarred_19 (by decide +kernel) ?_
        refine lv_icmp_eq (tgt := 42) hx hb dX12_isStarred_21 (by decide) (fun c4 => ?_) (fun c4 => ?_)
        · have hE := if_t c4 hE
          exact w42   ls (lv_sub hl [] rfl) hE
        · have hE := if_f c4 hE
          refine lv_iload_n hx hb dX12_isStarred_24 rfl (lv_at hl 0 rfl) ?_
          refine lv_bipush (v := 65) hx hb dX12_isStarred_25 (by decide +kernel) ?_
          refine lv_icmp_eq (tgt := 42) hx hb dX12_isStarred_27 (by decide) (fun c5 => ?_) (fun c5 => ?_)
          · have hE := if_t c5 hE
            exact w42   ls (lv_sub hl [] rfl) hE
          · have hE := if_f c5 hE
            refine lv_iload_n hx hb dX12_isStarred_30 rfl (lv_at hl 0 rfl) ?_
            refine lv_bipush (v := 68) hx hb dX12_isStarred_31 (by decide +kernel) ?_
            refine lv_icmp_lt (tgt := 46) hx hb dX12_isStarred_33 (by decide) (fun c6 => ?_) (fun c6 => ?_)
            · have hE := if_t c6 hE
              refine lv_iconst (v := 0) hx hb dX12_isStarred_46 (by decide +kernel) ?_
              obtain rfl := Option.some.inj hE
              exact rs_j hx hb hr (by decide +kernel) rfl rfl hlocks dX12_isStarred_47
            · have hE := if_f c6 hE
              refine lv_iload_n hx hb dX12_isStarred_36 rfl (lv_at hl 0 rfl) ?_
              refine lv_bipush (v := 78) hx hb dX12_isStarred_37 (by decide +kernel) ?_
              refine lv_icmp_gt (tgt := 46) hx hb dX12_isStarred_39 (by decide) (fun c7 => ?_) (fun c7 => ?_)
              · have hE := if_t c7 hE
                refine lv_iconst (v := 0) hx hb dX12_isStarred_46 (by decide +kernel) ?_
                obtain rfl := Option.some.inj hE
                exact rs_j hx hb hr (by decide +kernel) rfl rfl hlocks dX12_isStarred_47
              · have hE := if_f c7 hE
                exact w42   ls (lv_sub hl [] rfl) hE
set_option maxHeartbeats 4000000 in
set_option maxRecDepth 100000 in
theorem c_X12_wants (l : Launch) (x0 : Int32) (sz : Nat) (u : Int32) (hE : f_X12_wants x0 = some u) : Met l yX12_wants wsX12_wants ({ frames := 0, cells := 0, slots := 0, locals := 0 }) (va_Pc [.int x0] (fun _ => True)) (va_Qi (fun (r0 : Int32) (_ : Unit) => r0 = u) (fun _ _ => True) (fun q => sz ≤ q)) 0 0 (fun q => sz ≤ q) := by
  refine Met.ofW (cc := cX12_wants) (maxL := 1) (ret := (some .int)) (by decide) rfl ?_
  intro PP EE S0 MM args below meth CC S1 B hml hv
  obtain ⟨rfl, hsz⟩ := hv
  have hx := B.exec
  have hb := B.bytes
  have hr := B.returns
  have hts := atoms_spec (ws := wsX12_wants) B.pre
  have hown : S0.vm.findClass RX12 = some MM.cls := findClass_of_methodNamed B.named
  have hlocks := B.notSynchronized
  have hl := lv_entry ([.int x0]) (n := 1) (Nat.le_of_ble_eq_true rfl)
  rw [lg_entry_eq]
  generalize (lg_sl ([.int x0]) ++ List.replicate (1 - (lg_sl ([.int x0])).length) Slot.unset).toArray = ls at hl ⊢
  have hl : lv_has ls 1 [(0, .int x0)] := hl
  unfold f_X12_wants at hE
  refine lv_iload_n hx hb dX12_wants_0 rfl (lv_at hl 0 rfl) ?_
  by_cases c1 : x0 = 3
  · have hE := if_t c1 hE
    refine lv_tableIn (tgt := 332) (off := 331) hx hb dX12_wants_1 (by rw [c1]; decide +kernel) (by rw [c1]; decide +kernel) (by rw [c1]; decide +kernel) (by decide) ?_
    refine lv_iconst (v := 1) hx hb dX12_wants_332 (by decide +kernel) ?_
    obtain rfl := Option.some.inj hE
    exact rs_j hx hb hr rfl rfl rfl hlocks dX12_wants_333
  have hE := if_f c1 hE
  by_cases c2 : x0 = 4
  · have hE := if_t c2 hE
    refine lv_tableIn (tgt := 330) (off := 329) hx hb dX12_wants_1 (by rw [c2]; decide +kernel) (by rw [c2]; decide +kernel) (by rw [c2]; decide +kernel) (by decide) ?_
    refine lv_iconst (v := 2) hx hb dX12_wants_330 (by decide +kernel) ?_
    obtain rfl := Option.some.inj hE
    exact rs_j hx hb hr rfl rfl rfl hlocks dX12_wants_331
  have hE := if_f c2 hE
  by_cases c3 : x0 = 6
  · have hE := if_t c3 hE
    refine lv_tableIn (tgt := 332) (off := 331) hx hb dX12_wants_1 (by rw [c3]; decide +kernel) (by rw [c3]; decide +kernel) (by rw [c3]; decide +kernel) (by decide) ?_
    refine lv_iconst (v := 1) hx hb dX12_wants_332 (by decide +kernel) ?_
    obtain rfl := Option.some.inj hE
    exact rs_j hx hb hr rfl rfl rfl hlocks dX12_wants_333
  have hE := if_f c3 hE
  by_cases c4 : x0 = 8
  · have hE := if_t c4 hE
    refine lv_tableIn (tgt := 332) (off := 331) hx hb dX12_wants_1 (by rw [c4]; decide +kernel) (by rw [c4]; decide +kernel) (by rw [c4]; decide +kernel) (by decide) ?_
    refine lv_iconst (v := 1) hx hb dX12_wants_332 (by decide +kernel) ?_
    obtain rfl := Option.some.inj hE
    exact rs_j hx hb hr rfl rfl rfl hlocks dX12_wants_333
  have hE := if_f c4 hE
  by_cases c5 : x0 = 9
  · have hE := if_t c5 hE
    refine lv_tableIn (tgt := 332) (off := 331) hx hb dX12_wants_1 (by rw [c5]; decide +kernel) (by rw [c5]; decide +kernel) (by rw [c5]; decide +kernel) (by decide) ?_
    refine lv_iconst (v := 1) hx hb dX12_wants_332 (by decide +kernel) ?_
    obtain rfl := Option.some.inj hE
    exact rs_j hx hb hr rfl rfl rfl hlocks dX12_wants_333
  have hE := if_f c5 hE
  by_cases c6 : x0 = 10
  · have hE := if_t c6 hE
    refine lv_tableIn (tgt := 330) (off := 329) hx hb dX12_wants_1 (by rw [c6]; decide +kernel) (by rw [c6]; decide +kernel) (by rw [c6]; decide +kernel) (by decide) ?_
    refine lv_iconst (v := 2) hx hb dX12_wants_330 (by decide +kernel) ?_
    obtain rfl := Option.some.inj hE
    exact rs_j hx hb hr rfl rfl rfl hlocks dX12_wants_331
  have hE := if_f c6 hE
  by_cases c7 : x0 = 11
  · have hE := if_t c7 hE
    refine lv_tableIn (tgt := 330) (off := 329) hx hb dX12_wants_1 (by rw [c7]; decide +kernel) (by rw [c7]; decide +kernel) (by rw [c7]; decide +kernel) (by decide) ?_
    refine lv_iconst (v := 2) hx hb dX12_wants_330 (by decide +kernel) ?_
    obtain rfl := Option.some.inj hE
    exact rs_j hx hb hr rfl rfl rfl hlocks dX12_wants_331
  have hE := if_f c7 hE
  by_cases c8 : x0 = 12
  · have hE := if_t c8 hE
    refine lv_tableIn (tgt := 328) (off := 327) hx hb dX12_wants_1 (by rw [c8]; decide +kernel) (by rw [c8]; decide +kernel) (by rw [c8]; decide +kernel) (by decide) ?_
    refine lv_iconst (v := 3) hx hb dX12_wants_328 (by decide +kernel) ?_
    obtain rfl := Option.some.inj hE
    exact rs_j hx hb hr rfl rfl rfl hlocks dX12_wants_329
  have hE := if_f c8 hE
  by_cases c9 : x0 = 13
  · have hE := if_t c9 hE
    refine lv_tableIn (tgt := 330) (off := 329) hx hb dX12_wants_1 (by rw [c9]; decide +kernel) (by rw [c9]; decide +kernel) (by rw [c9]; decide +kernel) (by decide) ?_
    refine lv_iconst (v := 2) hx hb dX12_wants_330 (by decide +kernel) ?_
    obtain rfl := Option.some.inj hE
    exact rs_j hx hb hr rfl rfl rfl hlocks dX12_wants_331
  have hE := if_f c9 hE
  by_cases c10 : x0 = 14
  · have hE := if_t c10 hE
    refine lv_tableIn (tgt := 332) (off := 331) hx hb dX12_wants_1 (by rw [c10]; decide +kernel) (by rw [c10]; decide +kernel) (by rw [c10]; decide +kernel) (by decide) ?_
    refine lv_iconst (v := 1) hx hb dX12_wants_332 (by decide +kernel) ?_
    obtain rfl := Option.some.inj hE
    exact rs_j hx hb hr rfl rfl rfl hlocks dX12_wants_333
  have hE := if_f c10 hE
  by_cases c11 : x0 = 16
  · have hE := if_t c11 hE
    refine lv_tableIn (tgt := 332) (off := 331) hx hb dX12_wants_1 (by rw [c11]; decide +kernel) (by rw [c11]; decide +kernel) (by rw [c11]; decide +kernel) (by decide) ?_
    refine lv_iconst (v := 1) hx hb dX12_wants_332 (by decide +kernel) ?_
    obtain rfl := Option.some.inj hE
    exact rs_j hx hb hr rfl rfl rfl hlocks dX12_wants_333
  have hE := if_f c11 hE
  by_cases c12 : x0 = 17
  · have hE := if_t c12 hE
    refine lv_tableIn (tgt := 332) (off := 331) hx hb dX12_wants_1 (by rw [c12]; decide +kernel) (by rw [c12]; decide +kernel) (by rw [c12]; decide +kernel) (by decide) ?_
    refine lv_iconst (v := 1) hx hb dX12_wants_332 (by decide +kernel) ?_
    obtain rfl := Option.some.inj hE
    exact rs_j hx hb hr rfl rfl rfl hlocks dX12_wants_333
  have hE := if_f c12 hE
  by_cases c13 : x0 = 28
  · have hE := if_t c13 hE
    refine lv_tableIn (tgt := 332) (off := 331) hx hb dX12_wants_1 (by rw [c13]; decide +kernel) (by rw [c13]; decide +kernel) (by rw [c13]; decide +kernel) (by decide) ?_
    refine lv_iconst (v := 1) hx hb dX12_wants_332 (by decide +kernel) ?_
    obtain rfl := Option.some.inj hE
    exact rs_j hx hb hr rfl rfl rfl hlocks dX12_wants_333
  have hE := if_f c13 hE
  by_cases c14 : x0 = 29
  · have hE := if_t c14 hE
    refine lv_tableIn (tgt := 332) (off := 331) hx hb dX12_wants_1 (by rw [c14]; decide +kernel) (by rw [c14]; decide +kernel) (by rw [c14]; decide +kernel) (by decide) ?_
    refine lv_iconst (v := 1) hx hb dX12_wants_332 (by decide +kernel) ?_
    obtain rfl := Option.some.inj hE
    exact rs_j hx hb hr rfl rfl rfl hlocks dX12_wants_333
  have hE := if_f c14 hE
  by_cases c15 : x0 = 35
  · have hE := if_t c15 hE
    refine lv_tableIn (tgt := 332) (off := 331) hx hb dX12_wants_1 (by rw [c15]; decide +kernel) (by rw [c15]; decide +kernel) (by rw [c15]; decide +kernel) (by decide) ?_
    refine lv_iconst (v := 1) hx hb dX12_wants_332 (by decide +kernel) ?_
    obtain rfl := Option.some.inj hE
    exact rs_j hx hb hr rfl rfl rfl hlocks dX12_wants_333
  have hE := if_f c15 hE
  by_cases c16 : x0 = 36
  · have hE := if_t c16 hE
    refine lv_tableIn (tgt := 330) (off := 329) hx hb dX12_wants_1 (by rw [c16]; decide +kernel) (by rw [c16]; decide +kernel) (by rw [c16]; decide +kernel) (by decide) ?_
    refine lv_iconst (v := 2) hx hb dX12_wants_330 (by decide +kernel) ?_
    obtain rfl := Option.some.inj hE
    exact rs_j hx hb hr rfl rfl rfl hlocks dX12_wants_331
  have hE := if_f c16 hE
  by_cases c17 : x0 = 37
  · have hE := if_t c17 hE
    refine lv_tableIn (tgt := 330) (off := 329) hx hb dX12_wants_1 (by rw [c17]; decide +kernel) (by rw [c17]; decide +kernel) (by rw [c17]; decide +kernel) (by decide) ?_
    refine lv_iconst (v := 2) hx hb dX12_wants_330 (by decide +kernel) ?_
    obtain rfl := Option.some.inj hE
    exact rs_j hx hb hr rfl rfl rfl hlocks dX12_wants_331
  have hE := if_f c17 hE
  by_cases c18 : x0 = 38
  · have hE := if_t c18 hE
    refine lv_tableIn (tgt := 330) (off := 329) hx hb dX12_wants_1 (by rw [c18]; decide +kernel) (by rw [c18]; decide +kernel) (by rw [c18]; decide +kernel) (by decide) ?_
    refine lv_iconst (v := 2) hx hb dX12_wants_330 (by decide +kernel) ?_
    obtain rfl := Option.some.inj hE
    exact rs_j hx hb hr rfl rfl rfl hlocks dX12_wants_331
  have hE := if_f c18 hE
  by_cases c19 : x0 = 39
  · have hE := if_t c19 hE
    refine lv_tableIn (tgt := 332) (off := 331) hx hb dX12_wants_1 (by rw [c19]; decide +kernel) (by rw [c19]; decide +kernel) (by rw [c19]; decide +kernel) (by decide) ?_
    refine lv_iconst (v := 1) hx hb dX12_wants_332 (by decide +kernel) ?_
    obtain rfl := Option.some.inj hE
    exact rs_j hx hb hr rfl rfl rfl hlocks dX12_wants_333
  have hE := if_f c19 hE
  by_cases c20 : x0 = 40
  · have hE := if_t c20 hE
    refine lv_tableIn (tgt := 332) (off := 331) hx hb dX12_wants_1 (by rw [c20]; decide +kernel) (by rw [c20]; decide +kernel) (by rw [c20]; decide +kernel) (by decide) ?_
    refine lv_iconst (v := 1) hx hb dX12_wants_332 (by decide +kernel) ?_
    obtain rfl := Option.some.inj hE
    exact rs_j hx hb hr rfl rfl rfl hlocks dX12_wants_333
  have hE := if_f c20 hE
  by_cases c21 : x0 = 41
  · have hE := if_t c21 hE
    refine lv_tableIn (tgt := 332) (off := 331) hx hb dX12_wants_1 (by rw [c21]; decide +kernel) (by rw [c21]; decide +kernel) (by rw [c21]; decide +kernel) (by decide) ?_
    refine lv_iconst (v := 1) hx hb dX12_wants_332 (by decide +kernel) ?_
    obtain rfl := Option.some.inj hE
    exact rs_j hx hb hr rfl rfl rfl hlocks dX12_wants_333
  have hE := if_f c21 hE
  by_cases c22 : x0 = 42
  · have hE := if_t c22 hE
    refine lv_tableIn (tgt := 332) (off := 331) hx hb dX12_wants_1 (by rw [c22]; decide +kernel) (by rw [c22]; decide +kernel) (by rw [c22]; decide +kernel) (by decide) ?_
    refine lv_iconst (v := 1) hx hb dX12_wants_332 (by decide +kernel) ?_
    obtain rfl := Option.some.inj hE
    exact rs_j hx hb hr rfl rfl rfl hlocks dX12_wants_333
  have hE := if_f c22 hE
  by_cases c23 : x0 = 43
  · have hE := if_t c23 hE
    refine lv_tableIn (tgt := 332) (off := 331) hx hb dX12_wants_1 (by rw [c23]; decide +kernel) (by rw [c23]; decide +kernel) (by rw [c23]; decide +kernel) (by decide) ?_
    refine lv_iconst (v := 1) hx hb dX12_wants_332 (by decide +kernel) ?_
    obtain rfl := Option.some.inj hE
    exact rs_j hx hb hr rfl rfl rfl hlocks dX12_wants_333
  have hE := if_f c23 hE
  by_cases c24 : x0 = 44
  · have hE := if_t c24 hE
    refine lv_tableIn (tgt := 332) (off := 331) hx hb dX12_wants_1 (by rw [c24]; decide +kernel) (by rw [c24]; decide +kernel) (by rw [c24]; decide +kernel) (by decide) ?_
    refine lv_iconst (v := 1) hx hb dX12_wants_332 (by decide +kernel) ?_
    obtain rfl := Option.some.inj hE
    exact rs_j hx hb hr rfl rfl rfl hlocks dX12_wants_333
  have hE := if_f c24 hE
  by_cases c25 : x0 = 45
  · have hE := if_t c25 hE
    refine lv_tableIn (tgt := 330) (off := 329) hx hb dX12_wants_1 (by rw [c25]; decide +kernel) (by rw [c25]; decide +kernel) (by rw [c25]; decide +kernel) (by decide) ?_
    refine lv_iconst (v := 2) hx hb dX12_wants_330 (by decide +kernel) ?_
    obtain rfl := Option.some.inj hE
    exact rs_j hx hb hr rfl rfl rfl hlocks dX12_wants_331
  have hE := if_f c25 hE
  by_cases c26 : x0 = 46
  · have hE := if_t c26 hE
    refine lv_tableIn (tgt := 330) (off := 329) hx hb dX12_wants_1 (by rw [c26]; decide +kernel) (by rw [c26]; decide +kernel) (by rw [c26]; decide +kernel) (by decide) ?_
    refine lv_iconst (v := 2) hx hb dX12_wants_330 (by decide +kernel) ?_
    obtain rfl := Option.some.inj hE
    exact rs_j hx hb hr rfl rfl rfl hlocks dX12_wants_331
  have hE := if_f c26 hE
  by_cases c27 : x0 = 47
  · have hE := if_t c27 hE
    refine lv_tableIn (tgt := 332) (off := 331) hx hb dX12_wants_1 (by rw [c27]; decide +kernel) (by rw [c27]; decide +kernel) (by rw [c27]; decide +kernel) (by decide) ?_
    refine lv_iconst (v := 1) hx hb dX12_wants_332 (by decide +kernel) ?_
    obtain rfl := Option.some.inj hE
    exact rs_j hx hb hr rfl rfl rfl hlocks dX12_wants_333
  have hE := if_f c27 hE
  by_cases c28 : x0 = 49
  · have hE := if_t c28 hE
    refine lv_tableIn (tgt := 332) (off := 331) hx hb dX12_wants_1 (by rw [c28]; decide +kernel) (by rw [c28]; decide +kernel) (by rw [c28]; decide +kernel) (by decide) ?_
    refine lv_iconst (v := 1) hx hb dX12_wants_332 (by decide +kernel) ?_
    obtain rfl := Option.some.inj hE
    exact rs_j hx hb hr rfl rfl rfl hlocks dX12_wants_333
  have hE := if_f c28 hE
  by_cases c29 : x0 = 50
  · have hE := if_t c29 hE
    refine lv_tableIn (tgt := 332) (off := 331) hx hb dX12_wants_1 (by rw [c29]; decide +kernel) (by rw [c29]; decide +kernel) (by rw [c29]; decide +kernel) (by decide) ?_
    refine lv_iconst (v := 1) hx hb dX12_wants_332 (by decide +kernel) ?_
    obtain rfl := Option.some.inj hE
    exact rs_j hx hb hr rfl rfl rfl hlocks dX12_wants_333
  have hE := if_f c29 hE
  by_cases c30 : x0 = 51
  · have hE := if_t c30 hE
    refine lv_tableIn (tgt := 332) (off := 331) hx hb dX12_wants_1 (by rw [c30]; decide +kernel) (by rw [c30]; decide +kernel) (by rw [c30]; decide +kernel) (by decide) ?_
    refine lv_iconst (v := 1) hx hb dX12_wants_332 (by decide +kernel) ?_
    obtain rfl := Option.some.inj hE
    exact rs_j hx hb hr rfl rfl rfl hlocks dX12_wants_333
  have hE := if_f c30 hE
  by_cases c31 : x0 = 55
  · have hE := if_t c31 hE
    refine lv_tableIn (tgt := 332) (off := 331) hx hb dX12_wants_1 (by rw [c31]; decide +kernel) (by rw [c31]; decide +kernel) (by rw [c31]; decide +kernel) (by decide) ?_
    refine lv_iconst (v := 1) hx hb dX12_wants_332 (by decide +kernel) ?_
    obtain rfl := Option.some.inj hE
    exact rs_j hx hb hr rfl rfl rfl hlocks dX12_wants_333
  have hE := if_f c31 hE
  by_cases c32 : x0 = 62
  · have hE := if_t c32 hE
    refine lv_tableIn (tgt := 332) (off := 331) hx hb dX12_wants_1 (by rw [c32]; decide +kernel) (by rw [c32]; decide +kernel) (by rw [c32]; decide +kernel) (by decide) ?_
    refine lv_iconst (v := 1) hx hb dX12_wants_332 (by decide +kernel) ?_
    obtain rfl := Option.some.inj hE
    exact rs_j hx hb hr rfl rfl rfl hlocks dX12_wants_333
  have hE := if_f c32 hE
  by_cases c33 : x0 = 63
  · have hE := if_t c33 hE
    refine lv_tableIn (tgt := 332) (off := 331) hx hb dX12_wants_1 (by rw [c33]; decide +kernel) (by rw [c33]; decide +kernel) (by rw [c33]; decide +kernel) (by decide) ?_
    refine lv_iconst (v := 1) hx hb dX12_wants_332 (by decide +kernel) ?_
    obtain rfl := Option.some.inj hE
    exact rs_j hx hb hr rfl rfl rfl hlocks dX12_wants_333
  have hE := if_f c33 hE
  by_cases c34 : x0 = 64
  · have hE := if_t c34 hE
    refine lv_tableIn (tgt := 332) (off := 331) hx hb dX12_wants_1 (by rw [c34]; decide +kernel) (by rw [c34]; decide +kernel) (by rw [c34]; decide +kernel) (by decide) ?_
    refine lv_iconst (v := 1) hx hb dX12_wants_332 (by decide +kernel) ?_
    obtain rfl := Option.some.inj hE
    exact rs_j hx hb hr rfl rfl rfl hlocks dX12_wants_333
  have hE := if_f c34 hE
  by_cases c35 : x0 = 79
  · have hE := if_t c35 hE
    refine lv_tableIn (tgt := 332) (off := 331) hx hb dX12_wants_1 (by rw [c35]; decide +kernel) (by rw [c35]; decide +kernel) (by rw [c35]; decide +kernel) (by decide) ?_
    refine lv_iconst (v := 1) hx hb dX12_wants_332 (by decide +kernel) ?_
    obtain rfl := Option.some.inj hE
    exact rs_j hx hb hr rfl rfl rfl hlocks dX12_wants_333
  have hE := if_f c35 hE
  by_cases c36 : x0 = 80
  · have hE := if_t c36 hE
    refine lv_tableIn (tgt := 332) (off := 331) hx hb dX12_wants_1 (by rw [c36]; decide +kernel) (by rw [c36]; decide +kernel) (by rw [c36]; decide +kernel) (by decide) ?_
    refine lv_iconst (v := 1) hx hb dX12_wants_332 (by decide +kernel) ?_
    obtain rfl := Option.some.inj hE
    exact rs_j hx hb hr rfl rfl rfl hlocks dX12_wants_333
  have hE := if_f c36 hE
  by_cases c39 : x0 = 5
  · refine lv_tableIn (tgt := 334) (off := 333) hx hb dX12_wants_1 (by rw [c39]; decide +kernel) (by rw [c39]; decide +kernel) (by rw [c39]; decide +kernel) (by decide) ?_
    refine lv_iload_n hx hb dX12_wants_334 rfl (lv_at hl 0 rfl) ?_
    refine lv_bipush (v := 23) hx hb dX12_wants_335 (by decide +kernel) ?_
    refine lv_icmp_lt (tgt := 350) hx hb dX12_wants_337 (by decide) (fun c40 => ?_) (fun c40 => ?_)
    · have hE := if_t c40 hE
      refine lv_iconst (v := 0) hx hb dX12_wants_350 (by decide +kernel) ?_
      obtain rfl := Option.some.inj hE
      exact rs_j hx hb hr rfl rfl rfl hlocks dX12_wants_351
    · have hE := if_f c40 hE
      refine lv_iload_n hx hb dX12_wants_340 rfl (lv_at hl 0 rfl) ?_
      refine lv_bipush (v := 34) hx hb dX12_wants_341 (by decide +kernel) ?_
      refine lv_icmp_gt (tgt := 350) hx hb dX12_wants_343 (by decide) (fun c41 => ?_) (fun c41 => ?_)
      · have hE := if_t c41 hE
        refine lv_iconst (v := 0) hx hb dX12_wants_350 (by decide +kernel) ?_
        obtain rfl := Option.some.inj hE
        exact rs_j hx hb hr rfl rfl rfl hlocks dX12_wants_351
      · have hE := if_f c41 hE
        refine lv_iconst (v := 2) hx hb dX12_wants_346 (by decide +kernel) ?_
        refine lv_goto (tgt := 351) hx hb dX12_wants_347 (by decide) ?_
        obtain rfl := Option.some.inj hE
        exact rs_j hx hb hr rfl rfl rfl hlocks dX12_wants_351
  by_cases c42 : x0 = 7
  · refine lv_tableIn (tgt := 334) (off := 333) hx hb dX12_wants_1 (by rw [c42]; decide +kernel) (by rw [c42]; decide +kernel) (by rw [c42]; decide +kernel) (by decide) ?_
    refine lv_iload_n hx hb dX12_wants_334 rfl (lv_at hl 0 rfl) ?_
    refine lv_bipush (v := 23) hx hb dX12_wants_335 (by decide +kernel) ?_
    refine lv_icmp_lt (tgt := 350) hx hb dX12_wants_337 (by decide) (fun c43 => ?_) (fun c43 => ?_)
    · have hE := if_t c43 hE
      refine lv_iconst (v := 0) hx hb dX12_wants_350 (by decide +kernel) ?_
      obtain rfl := Option.some.inj hE
      exact rs_j hx hb hr rfl rfl rfl hlocks dX12_wants_351
    · have hE := if_f c43 hE
      refine lv_iload_n hx hb dX12_wants_340 rfl (lv_at hl 0 rfl) ?_
      refine lv_bipush (v := 34) hx hb dX12_wants_341 (by decide +kernel) ?_
      refine lv_icmp_gt (tgt := 350) hx hb dX12_wants_343 (by decide) (fun c44 => ?_) (fun c44 => ?_)
      · have hE := if_t c44 hE
        refine lv_iconst (v := 0) hx hb dX12_wants_350 (by decide +kernel) ?_
        obtain rfl := Option.some.inj hE
        exact rs_j hx hb hr rfl rfl rfl hlocks dX12_wants_351
      · have hE := if_f c44 hE
        refine lv_iconst (v := 2) hx hb dX12_wants_346 (by decide +kernel) ?_
        refine lv_goto (tgt := 351) hx hb dX12_wants_347 (by decide) ?_
        obtain rfl := Option.some.inj hE
        exact rs_j hx hb hr rfl rfl rfl hlocks dX12_wants_351
  by_cases c45 : x0 = 15
  · refine lv_tableIn (tgt := 334) (off := 333) hx hb dX12_wants_1 (by rw [c45]; decide +kernel) (by rw [c45]; decide +kernel) (by rw [c45]; decide +kernel) (by decide) ?_
    refine lv_iload_n hx hb dX12_wants_334 rfl (lv_at hl 0 rfl) ?_
    refine lv_bipush (v := 23) hx hb dX12_wants_335 (by decide +kernel) ?_
    refine lv_icmp_lt (tgt := 350) hx hb dX12_wants_337 (by decide) (fun c46 => ?_) (fun c46 => ?_)
    · have hE := if_t c46 hE
      refine lv_iconst (v := 0) hx hb dX12_wants_350 (by decide +kernel) ?_
      obtain rfl := Option.some.inj hE
      exact rs_j hx hb hr rfl rfl rfl hlocks dX12_wants_351
    · have hE := if_f c46 hE
      refine lv_iload_n hx hb dX12_wants_340 rfl (lv_at hl 0 rfl) ?_
      refine lv_bipush (v := 34) hx hb dX12_wants_341 (by decide +kernel) ?_
      refine lv_icmp_gt (tgt := 350) hx hb dX12_wants_343 (by decide) (fun c47 => ?_) (fun c47 => ?_)
      · have hE := if_t c47 hE
        refine lv_iconst (v := 0) hx hb dX12_wants_350 (by decide +kernel) ?_
        obtain rfl := Option.some.inj hE
        exact rs_j hx hb hr rfl rfl rfl hlocks dX12_wants_351
      · have hE := if_f c47 hE
        refine lv_iconst (v := 2) hx hb dX12_wants_346 (by decide +kernel) ?_
        refine lv_goto (tgt := 351) hx hb dX12_wants_347 (by decide) ?_
        obtain rfl := Option.some.inj hE
        exact rs_j hx hb hr rfl rfl rfl hlocks dX12_wants_351
  by_cases c48 : x0 = 18
  · refine lv_tableIn (tgt := 334) (off := 333) hx hb dX12_wants_1 (by rw [c48]; decide +kernel) (by rw [c48]; decide +kernel) (by rw [c48]; decide +kernel) (by decide) ?_
    refine lv_iload_n hx hb dX12_wants_334 rfl (lv_at hl 0 rfl) ?_
    refine lv_bipush (v := 23) hx hb dX12_wants_335 (by decide +kernel) ?_
    refine lv_icmp_lt (tgt := 350) hx hb dX12_wants_337 (by decide) (fun c49 => ?_) (fun c49 => ?_)
    · have hE := if_t c49 hE
      refine lv_iconst (v := 0) hx hb dX12_wants_350 (by decide +kernel) ?_
      obtain rfl := Option.some.inj hE
      exact rs_j hx hb hr rfl rfl rfl hlocks dX12_wants_351
    · have hE := if_f c49 hE
      refine lv_iload_n hx hb dX12_wants_340 rfl (lv_at hl 0 rfl) ?_
      refine lv_bipush (v := 34) hx hb dX12_wants_341 (by decide +kernel) ?_
      refine lv_icmp_gt (tgt := 350) hx hb dX12_wants_343 (by decide) (fun c50 => ?_) (fun c50 => ?_)
      · have hE := if_t c50 hE
        refine lv_iconst (v := 0) hx hb dX12_wants_350 (by decide +kernel) ?_
        obtain rfl := Option.some.inj hE
        exact rs_j hx hb hr rfl rfl rfl hlocks dX12_wants_351
      · have hE := if_f c50 hE
        refine lv_iconst (v := 2) hx hb dX12_wants_346 (by decide +kernel) ?_
        refine lv_goto (tgt := 351) hx hb dX12_wants_347 (by decide) ?_
        obtain rfl := Option.some.inj hE
        exact rs_j hx hb hr rfl rfl rfl hlocks dX12_wants_351
  by_cases c51 : x0 = 19
  · refine lv_tableIn (tgt := 334) (off := 333) hx hb dX12_wants_1 (by rw [c51]; decide +kernel) (by rw [c51]; decide +kernel) (by rw [c51]; decide +kernel) (by decide) ?_
    refine lv_iload_n hx hb dX12_wants_334 rfl (lv_at hl 0 rfl) ?_
    refine lv_bipush (v := 23) hx hb dX12_wants_335 (by decide +kernel) ?_
    refine lv_icmp_lt (tgt := 350) hx hb dX12_wants_337 (by decide) (fun c52 => ?_) (fun c52 => ?_)
    · have hE := if_t c52 hE
      refine lv_iconst (v := 0) hx hb dX12_wants_350 (by decide +kernel) ?_
      obtain rfl := Option.some.inj hE
      exact rs_j hx hb hr rfl rfl rfl hlocks dX12_wants_351
    · have hE := if_f c52 hE
      refine lv_iload_n hx hb dX12_wants_340 rfl (lv_at hl 0 rfl) ?_
      refine lv_bipush (v := 34) hx hb dX12_wants_341 (by decide +kernel) ?_
      refine lv_icmp_gt (tgt := 350) hx hb dX12_wants_343 (by decide) (fun c53 => ?_) (fun c53 => ?_)
      · have hE := if_t c53 hE
        refine lv_iconst (v := 0) hx hb dX12_wants_350 (by decide +kernel) ?_
        obtain rfl := Option.some.inj hE
        exact rs_j hx hb hr rfl rfl rfl hlocks dX12_wants_351
      · have hE := if_f c53 hE
        refine lv_iconst (v := 2) hx hb dX12_wants_346 (by decide +kernel) ?_
        refine lv_goto (tgt := 351) hx hb dX12_wants_347 (by decide) ?_
        obtain rfl := Option.some.inj hE
        exact rs_j hx hb hr rfl rfl rfl hlocks dX12_wants_351
  by_cases c54 : x0 = 20
  · refine lv_tableIn (tgt := 334) (off := 333) hx hb dX12_wants_1 (by rw [c54]; decide +kernel) (by rw [c54]; decide +kernel) (by rw [c54]; decide +kernel) (by decide) ?_
    refine lv_iload_n hx hb dX12_wants_334 rfl (lv_at hl 0 rfl) ?_
    refine lv_bipush (v := 23) hx hb dX12_wants_335 (by decide +kernel) ?_
    refine lv_icmp_lt (tgt := 350) hx hb dX12_wants_337 (by decide) (fun c55 => ?_) (fun c55 => ?_)
    · have hE := if_t c55 hE
      refine lv_iconst (v := 0) hx hb dX12_wants_350 (by decide +kernel) ?_
      obtain rfl := Option.some.inj hE
      exact rs_j hx hb hr rfl rfl rfl hlocks dX12_wants_351
    · have hE := if_f c55 hE
      refine lv_iload_n hx hb dX12_wants_340 rfl (lv_at hl 0 rfl) ?_
      refine lv_bipush (v := 34) hx hb dX12_wants_341 (by decide +kernel) ?_
      refine lv_icmp_gt (tgt := 350) hx hb dX12_wants_343 (by decide) (fun c56 => ?_) (fun c56 => ?_)
      · have hE := if_t c56 hE
        refine lv_iconst (v := 0) hx hb dX12_wants_350 (by decide +kernel) ?_
        obtain rfl := Option.some.inj hE
        exact rs_j hx hb hr rfl rfl rfl hlocks dX12_wants_351
      · have hE := if_f c56 hE
        refine lv_iconst (v := 2) hx hb dX12_wants_346 (by decide +kernel) ?_
        refine lv_goto (tgt := 351) hx hb dX12_wants_347 (by decide) ?_
        obtain rfl := Option.some.inj hE
        exact rs_j hx hb hr rfl rfl rfl hlocks dX12_wants_351
  by_cases c57 : x0 = 21
  · refine lv_tableIn (tgt := 334) (off := 333) hx hb dX12_wants_1 (by rw [c57]; decide +kernel) (by rw [c57]; decide +kernel) (by rw [c57]; decide +kernel) (by decide) ?_
    refine lv_iload_n hx hb dX12_wants_334 rfl (lv_at hl 0 rfl) ?_
    refine lv_bipush (v := 23) hx hb dX12_wants_335 (by decide +kernel) ?_
    refine lv_icmp_lt (tgt := 350) hx hb dX12_wants_337 (by decide) (fun c58 => ?_) (fun c58 => ?_)
    · have hE := if_t c58 hE
      refine lv_iconst (v := 0) hx hb dX12_wants_350 (by decide +kernel) ?_
      obtain rfl := Option.some.inj hE
      exact rs_j hx hb hr rfl rfl rfl hlocks dX12_wants_351
    · have hE := if_f c58 hE
      refine lv_iload_n hx hb dX12_wants_340 rfl (lv_at hl 0 rfl) ?_
      refine lv_bipush (v := 34) hx hb dX12_wants_341 (by decide +kernel) ?_
      refine lv_icmp_gt (tgt := 350) hx hb dX12_wants_343 (by decide) (fun c59 => ?_) (fun c59 => ?_)
      · have hE := if_t c59 hE
        refine lv_iconst (v := 0) hx hb dX12_wants_350 (by decide +kernel) ?_
        obtain rfl := Option.some.inj hE
        exact rs_j hx hb hr rfl rfl rfl hlocks dX12_wants_351
      · have hE := if_f c59 hE
        refine lv_iconst (v := 2) hx hb dX12_wants_346 (by decide +kernel) ?_
        refine lv_goto (tgt := 351) hx hb dX12_wants_347 (by decide) ?_
        obtain rfl := Option.some.inj hE
        exact rs_j hx hb hr rfl rfl rfl hlocks dX12_wants_351
  by_cases c60 : x0 = 22
  · refine lv_tableIn (tgt := 334) (off := 333) hx hb dX12_wants_1 (by rw [c60]; decide +kernel) (by rw [c60]; decide +kernel) (by rw [c60]; decide +kernel) (by decide) ?_
    refine lv_iload_n hx hb dX12_wants_334 rfl (lv_at hl 0 rfl) ?_
    refine lv_bipush (v := 23) hx hb dX12_wants_335 (by decide +kernel) ?_
    refine lv_icmp_lt (tgt := 350) hx hb dX12_wants_337 (by decide) (fun c61 => ?_) (fun c61 => ?_)
    · have hE := if_t c61 hE
      refine lv_iconst (v := 0) hx hb dX12_wants_350 (by decide +kernel) ?_
      obtain rfl := Option.some.inj hE
      exact rs_j hx hb hr rfl rfl rfl hlocks dX12_wants_351
    · have hE := if_f c61 hE
      refine lv_iload_n hx hb dX12_wants_340 rfl (lv_at hl 0 rfl) ?_
      refine lv_bipush (v := 34) hx hb dX12_wants_341 (by decide +kernel) ?_
      refine lv_icmp_gt (tgt := 350) hx hb dX12_wants_343 (by decide) (fun c62 => ?_) (fun c62 => ?_)
      · have hE := if_t c62 hE
        refine lv_iconst (v := 0) hx hb dX12_wants_350 (by decide +kernel) ?_
        obtain rfl := Option.some.inj hE
        exact rs_j hx hb hr rfl rfl rfl hlocks dX12_wants_351
      · have hE := if_f c62 hE
        refine lv_iconst (v := 2) hx hb dX12_wants_346 (by decide +kernel) ?_
        refine lv_goto (tgt := 351) hx hb dX12_wants_347 (by decide) ?_
        obtain rfl := Option.some.inj hE
        exact rs_j hx hb hr rfl rfl rfl hlocks dX12_wants_351
  by_cases c63 : x0 = 23
  · refine lv_tableIn (tgt := 334) (off := 333) hx hb dX12_wants_1 (by rw [c63]; decide +kernel) (by rw [c63]; decide +kernel) (by rw [c63]; decide +kernel) (by decide) ?_
    refine lv_iload_n hx hb dX12_wants_334 rfl (lv_at hl 0 rfl) ?_
    refine lv_bipush (v := 23) hx hb dX12_wants_335 (by decide +kernel) ?_
    refine lv_icmp_lt (tgt := 350) hx hb dX12_wants_337 (by decide) (fun c64 => ?_) (fun c64 => ?_)
    · have hE := if_t c64 hE
      refine lv_iconst (v := 0) hx hb dX12_wants_350 (by decide +kernel) ?_
      obtain rfl := Option.some.inj hE
      exact rs_j hx hb hr rfl rfl rfl hlocks dX12_wants_351
    · have hE := if_f c64 hE
      refine lv_iload_n hx hb dX12_wants_340 rfl (lv_at hl 0 rfl) ?_
      refine lv_bipush (v := 34) hx hb dX12_wants_341 (by decide +kernel) ?_
      refine lv_icmp_gt (tgt := 350) hx hb dX12_wants_343 (by decide) (fun c65 => ?_) (fun c65 => ?_)
      · have hE := if_t c65 hE
        refine lv_iconst (v := 0) hx hb dX12_wants_350 (by decide +kernel) ?_
        obtain rfl := Option.some.inj hE
        exact rs_j hx hb hr rfl rfl rfl hlocks dX12_wants_351
      · have hE := if_f c65 hE
        refine lv_iconst (v := 2) hx hb dX12_wants_346 (by decide +kernel) ?_
        refine lv_goto (tgt := 351) hx hb dX12_wants_347 (by decide) ?_
        obtain rfl := Option.some.inj hE
        exact rs_j hx hb hr rfl rfl rfl hlocks dX12_wants_351
  by_cases c66 : x0 = 24
  · refine lv_tableIn (tgt := 334) (off := 333) hx hb dX12_wants_1 (by rw [c66]; decide +kernel) (by rw [c66]; decide +kernel) (by rw [c66]; decide +kernel) (by decide) ?_
    refine lv_iload_n hx hb dX12_wants_334 rfl (lv_at hl 0 rfl) ?_
    refine lv_bipush (v := 23) hx hb dX12_wants_335 (by decide +kernel) ?_
    refine lv_icmp_lt (tgt := 350) hx hb dX12_wants_337 (by decide) (fun c67 => ?_) (fun c67 => ?_)
    · have hE := if_t c67 hE
      refine lv_iconst (v := 0) hx hb dX12_wants_350 (by decide +kernel) ?_
      obtain rfl := Option.some.inj hE
      exact rs_j hx hb hr rfl rfl rfl hlocks dX12_wants_351
    · have hE := if_f c67 hE
      refine lv_iload_n hx hb dX12_wants_340 rfl (lv_at hl 0 rfl) ?_
      refine lv_bipush (v := 34) hx hb dX12_wants_341 (by decide +kernel) ?_
      refine lv_icmp_gt (tgt := 350) hx hb dX12_wants_343 (by decide) (fun c68 => ?_) (fun c68 => ?_)
      · have hE := if_t c68 hE
        refine lv_iconst (v := 0) hx hb dX12_wants_350 (by decide +kernel) ?_
        obtain rfl := Option.some.inj hE
        exact rs_j hx hb hr rfl rfl rfl hlocks dX12_wants_351
      · have hE := if_f c68 hE
        refine lv_iconst (v := 2) hx hb dX12_wants_346 (by decide +kernel) ?_
        refine lv_goto (tgt := 351) hx hb dX12_wants_347 (by decide) ?_
        obtain rfl := Option.some.inj hE
        exact rs_j hx hb hr rfl rfl rfl hlocks dX12_wants_351
  by_cases c69 : x0 = 25
  · refine lv_tableIn (tgt := 334) (off := 333) hx hb dX12_wants_1 (by rw [c69]; decide +kernel) (by rw [c69]; decide +kernel) (by rw [c69]; decide +kernel) (by decide) ?_
    refine lv_iload_n hx hb dX12_wants_334 rfl (lv_at hl 0 rfl) ?_
    refine lv_bipush (v := 23) hx hb dX12_wants_335 (by decide +kernel) ?_
    refine lv_icmp_lt (tgt := 350) hx hb dX12_wants_337 (by decide) (fun c70 => ?_) (fun c70 => ?_)
    · have hE := if_t c70 hE
      refine lv_iconst (v := 0) hx hb dX12_wants_350 (by decide +kernel) ?_
      obtain rfl := Option.some.inj hE
      exact rs_j hx hb hr rfl rfl rfl hlocks dX12_wants_351
    · have hE := if_f c70 hE
      refine lv_iload_n hx hb dX12_wants_340 rfl (lv_at hl 0 rfl) ?_
      refine lv_bipush (v := 34) hx hb dX12_wants_341 (by decide +kernel) ?_
      refine lv_icmp_gt (tgt := 350) hx hb dX12_wants_343 (by decide) (fun c71 => ?_) (fun c71 => ?_)
      · have hE := if_t c71 hE
        refine lv_iconst (v := 0) hx hb dX12_wants_350 (by decide +kernel) ?_
        obtain rfl := Option.some.inj hE
        exact rs_j hx hb hr rfl rfl rfl hlocks dX12_wants_351
      · have hE := if_f c71 hE
        refine lv_iconst (v := 2) hx hb dX12_wants_346 (by decide +kernel) ?_
        refine lv_goto (tgt := 351) hx hb dX12_wants_347 (by decide) ?_
        obtain rfl := Option.some.inj hE
        exact rs_j hx hb hr rfl rfl rfl hlocks dX12_wants_351
  by_cases c72 : x0 = 26
  · refine lv_tableIn (tgt := 334) (off := 333) hx hb dX12_wants_1 (by rw [c72]; decide +kernel) (by rw [c72]; decide +kernel) (by rw [c72]; decide +kernel) (by decide) ?_
    refine lv_iload_n hx hb dX12_wants_334 rfl (lv_at hl 0 rfl) ?_
    refine lv_bipush (v := 23) hx hb dX12_wants_335 (by decide +kernel) ?_
    refine lv_icmp_lt (tgt := 350) hx hb dX12_wants_337 (by decide) (fun c73 => ?_) (fun c73 => ?_)
    · have hE := if_t c73 hE
      refine lv_iconst (v := 0) hx hb dX12_wants_350 (by decide +kernel) ?_
      obtain rfl := Option.some.inj hE
      exact rs_j hx hb hr rfl rfl rfl hlocks dX12_wants_351
    · have hE := if_f c73 hE
      refine lv_iload_n hx hb dX12_wants_340 rfl (lv_at hl 0 rfl) ?_
      refine lv_bipush (v := 34) hx hb dX12_wants_341 (by decide +kernel) ?_
      refine lv_icmp_gt (tgt := 350) hx hb dX12_wants_343 (by decide) (fun c74 => ?_) (fun c74 => ?_)
      · have hE := if_t c74 hE
        refine lv_iconst (v := 0) hx hb dX12_wants_350 (by decide +kernel) ?_
        obtain rfl := Option.some.inj hE
        exact rs_j hx hb hr rfl rfl rfl hlocks dX12_wants_351
      · have hE := if_f c74 hE
        refine lv_iconst (v := 2) hx hb dX12_wants_346 (by decide +kernel) ?_
        refine lv_goto (tgt := 351) hx hb dX12_wants_347 (by decide) ?_
        obtain rfl := Option.some.inj hE
        exact rs_j hx hb hr rfl rfl rfl hlocks dX12_wants_351
  by_cases c75 : x0 = 27
  · refine lv_tableIn (tgt := 334) (off := 333) hx hb dX12_wants_1 (by rw [c75]; decide +kernel) (by rw [c75]; decide +kernel) (by rw [c75]; decide +kernel) (by decide) ?_
    refine lv_iload_n hx hb dX12_wants_334 rfl (lv_at hl 0 rfl) ?_
    refine lv_bipush (v := 23) hx hb dX12_wants_335 (by decide +kernel) ?_
    refine lv_icmp_lt (tgt := 350) hx hb dX12_wants_337 (by decide) (fun c76 => ?_) (fun c76 => ?_)
    · have hE := if_t c76 hE
      refine lv_iconst (v := 0) hx hb dX12_wants_350 (by decide +kernel) ?_
      obtain rfl := Option.some.inj hE
      exact rs_j hx hb hr rfl rfl rfl hlocks dX12_wants_351
    · have hE := if_f c76 hE
      refine lv_iload_n hx hb dX12_wants_340 rfl (lv_at hl 0 rfl) ?_
      refine lv_bipush (v := 34) hx hb dX12_wants_341 (by decide +kernel) ?_
      refine lv_icmp_gt (tgt := 350) hx hb dX12_wants_343 (by decide) (fun c77 => ?_) (fun c77 => ?_)
      · have hE := if_t c77 hE
        refine lv_iconst (v := 0) hx hb dX12_wants_350 (by decide +kernel) ?_
        obtain rfl := Option.some.inj hE
        exact rs_j hx hb hr rfl rfl rfl hlocks dX12_wants_351
      · have hE := if_f c77 hE
        refine lv_iconst (v := 2) hx hb dX12_wants_346 (by decide +kernel) ?_
        refine lv_goto (tgt := 351) hx hb dX12_wants_347 (by decide) ?_
        obtain rfl := Option.some.inj hE
        exact rs_j hx hb hr rfl rfl rfl hlocks dX12_wants_351
  by_cases c78 : x0 = 30
  · refine lv_tableIn (tgt := 334) (off := 333) hx hb dX12_wants_1 (by rw [c78]; decide +kernel) (by rw [c78]; decide +kernel) (by rw [c78]; decide +kernel) (by decide) ?_
    refine lv_iload_n hx hb dX12_wants_334 rfl (lv_at hl 0 rfl) ?_
    refine lv_bipush (v := 23) hx hb dX12_wants_335 (by decide +kernel) ?_
    refine lv_icmp_lt (tgt := 350) hx hb dX12_wants_337 (by decide) (fun c79 => ?_) (fun c79 => ?_)
    · have hE := if_t c79 hE
      refine lv_iconst (v := 0) hx hb dX12_wants_350 (by decide +kernel) ?_
      obtain rfl := Option.some.inj hE
      exact rs_j hx hb hr rfl rfl rfl hlocks dX12_wants_351
    · have hE := if_f c79 hE
      refine lv_iload_n hx hb dX12_wants_340 rfl (lv_at hl 0 rfl) ?_
      refine lv_bipush (v := 34) hx hb dX12_wants_341 (by decide +kernel) ?_
      refine lv_icmp_gt (tgt := 350) hx hb dX12_wants_343 (by decide) (fun c80 => ?_) (fun c80 => ?_)
      · have hE := if_t c80 hE
        refine lv_iconst (v := 0) hx hb dX12_wants_350 (by decide +kernel) ?_
        obtain rfl := Option.some.inj hE
        exact rs_j hx hb hr rfl rfl rfl hlocks dX12_wants_351
      · have hE := if_f c80 hE
        refine lv_iconst (v := 2) hx hb dX12_wants_346 (by decide +kernel) ?_
        refine lv_goto (tgt := 351) hx hb dX12_wants_347 (by decide) ?_
        obtain rfl := Option.some.inj hE
        exact rs_j hx hb hr rfl rfl rfl hlocks dX12_wants_351
  by_cases c81 : x0 = 31
  · refine lv_tableIn (tgt := 334) (off := 333) hx hb dX12_wants_1 (by rw [c81]; decide +kernel) (by rw [c81]; decide +kernel) (by rw [c81]; decide +kernel) (by decide) ?_
    refine lv_iload_n hx hb dX12_wants_334 rfl (lv_at hl 0 rfl) ?_
    refine lv_bipush (v := 23) hx hb dX12_wants_335 (by decide +kernel) ?_
    refine lv_icmp_lt (tgt := 350) hx hb dX12_wants_337 (by decide) (fun c82 => ?_) (fun c82 => ?_)
    · have hE := if_t c82 hE
      refine lv_iconst (v := 0) hx hb dX12_wants_350 (by decide +kernel) ?_
      obtain rfl := Option.some.inj hE
      exact rs_j hx hb hr rfl rfl rfl hlocks dX12_wants_351
    · have hE := if_f c82 hE
      refine lv_iload_n hx hb dX12_wants_340 rfl (lv_at hl 0 rfl) ?_
      refine lv_bipush (v := 34) hx hb dX12_wants_341 (by decide +kernel) ?_
      refine lv_icmp_gt (tgt := 350) hx hb dX12_wants_343 (by decide) (fun c83 => ?_) (fun c83 => ?_)
      · have hE := if_t c83 hE
        refine lv_iconst (v := 0) hx hb dX12_wants_350 (by decide +kernel) ?_
        obtain rfl := Option.some.inj hE
        exact rs_j hx hb hr rfl rfl rfl hlocks dX12_wants_351
      · have hE := if_f c83 hE
        refine lv_iconst (v := 2) hx hb dX12_wants_346 (by decide +kernel) ?_
        refine lv_goto (tgt := 351) hx hb dX12_wants_347 (by decide) ?_
        obtain rfl := Option.some.inj hE
        exact rs_j hx hb hr rfl rfl rfl hlocks dX12_wants_351
  by_cases c84 : x0 = 32
  · refine lv_tableIn (tgt := 334) (off := 333) hx hb dX12_wants_1 (by rw [c84]; decide +kernel) (by rw [c84]; decide +kernel) (by rw [c84]; decide +kernel) (by decide) ?_
    refine lv_iload_n hx hb dX12_wants_334 rfl (lv_at hl 0 rfl) ?_
    refine lv_bipush (v := 23) hx hb dX12_wants_335 (by decide +kernel) ?_
    refine lv_icmp_lt (tgt := 350) hx hb dX12_wants_337 (by decide) (fun c85 => ?_) (fun c85 => ?_)
    · have hE := if_t c85 hE
      refine lv_iconst (v := 0) hx hb dX12_wants_350 (by decide +kernel) ?_
      obtain rfl := Option.some.inj hE
      exact rs_j hx hb hr rfl rfl rfl hlocks dX12_wants_351
    · have hE := if_f c85 hE
      refine lv_iload_n hx hb dX12_wants_340 rfl (lv_at hl 0 rfl) ?_
      refine lv_bipush (v := 34) hx hb dX12_wants_341 (by decide +kernel) ?_
      refine lv_icmp_gt (tgt := 350) hx hb dX12_wants_343 (by decide) (fun c86 => ?_) (fun c86 => ?_)
      · have hE := if_t c86 hE
        refine lv_iconst (v := 0) hx hb dX12_wants_350 (by decide +kernel) ?_
        obtain rfl := Option.some.inj hE
        exact rs_j hx hb hr rfl rfl rfl hlocks dX12_wants_351
      · have hE := if_f c86 hE
        refine lv_iconst (v := 2) hx hb dX12_wants_346 (by decide +kernel) ?_
        refine lv_goto (tgt := 351) hx hb dX12_wants_347 (by decide) ?_
        obtain rfl := Option.some.inj hE
        exact rs_j hx hb hr rfl rfl rfl hlocks dX12_wants_351
  by_cases c87 : x0 = 33
  · refine lv_tableIn (tgt := 334) (off := 333) hx hb dX12_wants_1 (by rw [c87]; decide +kernel) (by rw [c87]; decide +kernel) (by rw [c87]; decide +kernel) (by decide) ?_
    refine lv_iload_n hx hb dX12_wants_334 rfl (lv_at hl 0 rfl) ?_
    refine lv_bipush (v := 23) hx hb dX12_wants_335 (by decide +kernel) ?_
    refine lv_icmp_lt (tgt := 350) hx hb dX12_wants_337 (by decide) (fun c88 => ?_) (fun c88 => ?_)
    · have hE := if_t c88 hE
      refine lv_iconst (v := 0) hx hb dX12_wants_350 (by decide +kernel) ?_
      obtain rfl := Option.some.inj hE
      exact rs_j hx hb hr rfl rfl rfl hlocks dX12_wants_351
    · have hE := if_f c88 hE
      refine lv_iload_n hx hb dX12_wants_340 rfl (lv_at hl 0 rfl) ?_
      refine lv_bipush (v := 34) hx hb dX12_wants_341 (by decide +kernel) ?_
      refine lv_icmp_gt (tgt := 350) hx hb dX12_wants_343 (by decide) (fun c89 => ?_) (fun c89 => ?_)
      · have hE := if_t c89 hE
        refine lv_iconst (v := 0) hx hb dX12_wants_350 (by decide +kernel) ?_
        obtain rfl := Option.some.inj hE
        exact rs_j hx hb hr rfl rfl rfl hlocks dX12_wants_351
      · have hE := if_f c89 hE
        refine lv_iconst (v := 2) hx hb dX12_wants_346 (by decide +kernel) ?_
        refine lv_goto (tgt := 351) hx hb dX12_wants_347 (by decide) ?_
        obtain rfl := Option.some.inj hE
        exact rs_j hx hb hr rfl rfl rfl hlocks dX12_wants_351
  by_cases c90 : x0 = 34
  · refine lv_tableIn (tgt := 334) (off := 333) hx hb dX12_wants_1 (by rw [c90]; decide +kernel) (by rw [c90]; decide +kernel) (by rw [c90]; decide +kernel) (by decide) ?_
    refine lv_iload_n hx hb dX12_wants_334 rfl (lv_at hl 0 rfl) ?_
    refine lv_bipush (v := 23) hx hb dX12_wants_335 (by decide +kernel) ?_
    refine lv_icmp_lt (tgt := 350) hx hb dX12_wants_337 (by decide) (fun c91 => ?_) (fun c91 => ?_)
    · have hE := if_t c91 hE
      refine lv_iconst (v := 0) hx hb dX12_wants_350 (by decide +kernel) ?_
      obtain rfl := Option.some.inj hE
      exact rs_j hx hb hr rfl rfl rfl hlocks dX12_wants_351
    · have hE := if_f c91 hE
      refine lv_iload_n hx hb dX12_wants_340 rfl (lv_at hl 0 rfl) ?_
      refine lv_bipush (v := 34) hx hb dX12_wants_341 (by decide +kernel) ?_
      refine lv_icmp_gt (tgt := 350) hx hb dX12_wants_343 (by decide) (fun c92 => ?_) (fun c92 => ?_)
      · have hE := if_t c92 hE
        refine lv_iconst (v := 0) hx hb dX12_wants_350 (by decide +kernel) ?_
        obtain rfl := Option.some.inj hE
        exact rs_j hx hb hr rfl rfl rfl hlocks dX12_wants_351
      · have hE := if_f c92 hE
        refine lv_iconst (v := 2) hx hb dX12_wants_346 (by decide +kernel) ?_
        refine lv_goto (tgt := 351) hx hb dX12_wants_347 (by decide) ?_
        obtain rfl := Option.some.inj hE
        exact rs_j hx hb hr rfl rfl rfl hlocks dX12_wants_351
  by_cases c93 : x0 = 48
  · refine lv_tableIn (tgt := 334) (off := 333) hx hb dX12_wants_1 (by rw [c93]; decide +kernel) (by rw [c93]; decide +kernel) (by rw [c93]; decide +kernel) (by decide) ?_
    refine lv_iload_n hx hb dX12_wants_334 rfl (lv_at hl 0 rfl) ?_
    refine lv_bipush (v := 23) hx hb dX12_wants_335 (by decide +kernel) ?_
    refine lv_icmp_lt (tgt := 350) hx hb dX12_wants_337 (by decide) (fun c94 => ?_) (fun c94 => ?_)
    · have hE := if_t c94 hE
      refine lv_iconst (v := 0) hx hb dX12_wants_350 (by decide +kernel) ?_
      obtain rfl := Option.some.inj hE
      exact rs_j hx hb hr rfl rfl rfl hlocks dX12_wants_351
    · have hE := if_f c94 hE
      refine lv_iload_n hx hb dX12_wants_340 rfl (lv_at hl 0 rfl) ?_
      refine lv_bipush (v := 34) hx hb dX12_wants_341 (by decide +kernel) ?_
      refine lv_icmp_gt (tgt := 350) hx hb dX12_wants_343 (by decide) (fun c95 => ?_) (fun c95 => ?_)
      · have hE := if_t c95 hE
        refine lv_iconst (v := 0) hx hb dX12_wants_350 (by decide +kernel) ?_
        obtain rfl := Option.some.inj hE
        exact rs_j hx hb hr rfl rfl rfl hlocks dX12_wants_351
      · have hE := if_f c95 hE
        refine lv_iconst (v := 2) hx hb dX12_wants_346 (by decide +kernel) ?_
        refine lv_goto (tgt := 351) hx hb dX12_wants_347 (by decide) ?_
        obtain rfl := Option.some.inj hE
        exact rs_j hx hb hr rfl rfl rfl hlocks dX12_wants_351
  by_cases c96 : x0 = 52
  · refine lv_tableIn (tgt := 334) (off := 333) hx hb dX12_wants_1 (by rw [c96]; decide +kernel) (by rw [c96]; decide +kernel) (by rw [c96]; decide +kernel) (by decide) ?_
    refine lv_iload_n hx hb dX12_wants_334 rfl (lv_at hl 0 rfl) ?_
    refine lv_bipush (v := 23) hx hb dX12_wants_335 (by decide +kernel) ?_
    refine lv_icmp_lt (tgt := 350) hx hb dX12_wants_337 (by decide) (fun c97 => ?_) (fun c97 => ?_)
    · have hE := if_t c97 hE
      refine lv_iconst (v := 0) hx hb dX12_wants_350 (by decide +kernel) ?_
      obtain rfl := Option.some.inj hE
      exact rs_j hx hb hr rfl rfl rfl hlocks dX12_wants_351
    · have hE := if_f c97 hE
      refine lv_iload_n hx hb dX12_wants_340 rfl (lv_at hl 0 rfl) ?_
      refine lv_bipush (v := 34) hx hb dX12_wants_341 (by decide +kernel) ?_
      refine lv_icmp_gt (tgt := 350) hx hb dX12_wants_343 (by decide) (fun c98 => ?_) (fun c98 => ?_)
      · have hE := if_t c98 hE
        refine lv_iconst (v := 0) hx hb dX12_wants_350 (by decide +kernel) ?_
        obtain rfl := Option.some.inj hE
        exact rs_j hx hb hr rfl rfl rfl hlocks dX12_wants_351
      · have hE := if_f c98 hE
        refine lv_iconst (v := 2) hx hb dX12_wants_346 (by decide +kernel) ?_
        refine lv_goto (tgt := 351) hx hb dX12_wants_347 (by decide) ?_
        obtain rfl := Option.some.inj hE
        exact rs_j hx hb hr rfl rfl rfl hlocks dX12_wants_351
  by_cases c99 : x0 = 53
  · refine lv_tableIn (tgt := 334) (off := 333) hx hb dX12_wants_1 (by rw [c99]; decide +kernel) (by rw [c99]; decide +kernel) (by rw [c99]; decide +kernel) (by decide) ?_
    refine lv_iload_n hx hb dX12_wants_334 rfl (lv_at hl 0 rfl) ?_
    refine lv_bipush (v := 23) hx hb dX12_wants_335 (by decide +kernel) ?_
    refine lv_icmp_lt (tgt := 350) hx hb dX12_wants_337 (by decide) (fun c100 => ?_) (fun c100 => ?_)
    · have hE := if_t c100 hE
      refine lv_iconst (v := 0) hx hb dX12_wants_350 (by decide +kernel) ?_
      obtain rfl := Option.some.inj hE
      exact rs_j hx hb hr rfl rfl rfl hlocks dX12_wants_351
    · have hE := if_f c100 hE
      refine lv_iload_n hx hb dX12_wants_340 rfl (lv_at hl 0 rfl) ?_
      refine lv_bipush (v := 34) hx hb dX12_wants_341 (by decide +kernel) ?_
      refine lv_icmp_gt (tgt := 350) hx hb dX12_wants_343 (by decide) (fun c101 => ?_) (fun c101 => ?_)
      · have hE := if_t c101 hE
        refine lv_iconst (v := 0) hx hb dX12_wants_350 (by decide +kernel) ?_
        obtain rfl := Option.some.inj hE
        exact rs_j hx hb hr rfl rfl rfl hlocks dX12_wants_351
      · have hE := if_f c101 hE
        refine lv_iconst (v := 2) hx hb dX12_wants_346 (by decide +kernel) ?_
        refine lv_goto (tgt := 351) hx hb dX12_wants_347 (by decide) ?_
        obtain rfl := Option.some.inj hE
        exact rs_j hx hb hr rfl rfl rfl hlocks dX12_wants_351
  by_cases c102 : x0 = 54
  · refine lv_tableIn (tgt := 334) (off := 333) hx hb dX12_wants_1 (by rw [c102]; decide +kernel) (by rw [c102]; decide +kernel) (by rw [c102]; decide +kernel) (by decide) ?_
    refine lv_iload_n hx hb dX12_wants_334 rfl (lv_at hl 0 rfl) ?_
    refine lv_bipush (v := 23) hx hb dX12_wants_335 (by decide +kernel) ?_
    refine lv_icmp_lt (tgt := 350) hx hb dX12_wants_337 (by decide) (fun c103 => ?_) (fun c103 => ?_)
    · have hE := if_t c103 hE
      refine lv_iconst (v := 0) hx hb dX12_wants_350 (by decide +kernel) ?_
      obtain rfl := Option.some.inj hE
      exact rs_j hx hb hr rfl rfl rfl hlocks dX12_wants_351
    · have hE := if_f c103 hE
      refine lv_iload_n hx hb dX12_wants_340 rfl (lv_at hl 0 rfl) ?_
      refine lv_bipush (v := 34) hx hb dX12_wants_341 (by decide +kernel) ?_
      refine lv_icmp_gt (tgt := 350) hx hb dX12_wants_343 (by decide) (fun c104 => ?_) (fun c104 => ?_)
      · have hE := if_t c104 hE
        refine lv_iconst (v := 0) hx hb dX12_wants_350 (by decide +kernel) ?_
        obtain rfl := Option.some.inj hE
        exact rs_j hx hb hr rfl rfl rfl hlocks dX12_wants_351
      · have hE := if_f c104 hE
        refine lv_iconst (v := 2) hx hb dX12_wants_346 (by decide +kernel) ?_
        refine lv_goto (tgt := 351) hx hb dX12_wants_347 (by decide) ?_
        obtain rfl := Option.some.inj hE
        exact rs_j hx hb hr rfl rfl rfl hlocks dX12_wants_351
  by_cases c105 : x0 = 56
  · refine lv_tableIn (tgt := 334) (off := 333) hx hb dX12_wants_1 (by rw [c105]; decide +kernel) (by rw [c105]; decide +kernel) (by rw [c105]; decide +kernel) (by decide) ?_
    refine lv_iload_n hx hb dX12_wants_334 rfl (lv_at hl 0 rfl) ?_
    refine lv_bipush (v := 23) hx hb dX12_wants_335 (by decide +kernel) ?_
    refine lv_icmp_lt (tgt := 350) hx hb dX12_wants_337 (by decide) (fun c106 => ?_) (fun c106 => ?_)
    · have hE := if_t c106 hE
      refine lv_iconst (v := 0) hx hb dX12_wants_350 (by decide +kernel) ?_
      obtain rfl := Option.some.inj hE
      exact rs_j hx hb hr rfl rfl rfl hlocks dX12_wants_351
    · have hE := if_f c106 hE
      refine lv_iload_n hx hb dX12_wants_340 rfl (lv_at hl 0 rfl) ?_
      refine lv_bipush (v := 34) hx hb dX12_wants_341 (by decide +kernel) ?_
      refine lv_icmp_gt (tgt := 350) hx hb dX12_wants_343 (by decide) (fun c107 => ?_) (fun c107 => ?_)
      · have hE := if_t c107 hE
        refine lv_iconst (v := 0) hx hb dX12_wants_350 (by decide +kernel) ?_
        obtain rfl := Option.some.inj hE
        exact rs_j hx hb hr rfl rfl rfl hlocks dX12_wants_351
      · have hE := if_f c107 hE
        refine lv_iconst (v := 2) hx hb dX12_wants_346 (by decide +kernel) ?_
        refine lv_goto (tgt := 351) hx hb dX12_wants_347 (by decide) ?_
        obtain rfl := Option.some.inj hE
        exact rs_j hx hb hr rfl rfl rfl hlocks dX12_wants_351
  by_cases c108 : x0 = 57
  · refine lv_tableIn (tgt := 334) (off := 333) hx hb dX12_wants_1 (by rw [c108]; decide +kernel) (by rw [c108]; decide +kernel) (by rw [c108]; decide +kernel) (by decide) ?_
    refine lv_iload_n hx hb dX12_wants_334 rfl (lv_at hl 0 rfl) ?_
    refine lv_bipush (v := 23) hx hb dX12_wants_335 (by decide +kernel) ?_
    refine lv_icmp_lt (tgt := 350) hx hb dX12_wants_337 (by decide) (fun c109 => ?_) (fun c109 => ?_)
    · have hE := if_t c109 hE
      refine lv_iconst (v := 0) hx hb dX12_wants_350 (by decide +kernel) ?_
      obtain rfl := Option.some.inj hE
      exact rs_j hx hb hr rfl rfl rfl hlocks dX12_wants_351
    · have hE := if_f c109 hE
      refine lv_iload_n hx hb dX12_wants_340 rfl (lv_at hl 0 rfl) ?_
      refine lv_bipush (v := 34) hx hb dX12_wants_341 (by decide +kernel) ?_
      refine lv_icmp_gt (tgt := 350) hx hb dX12_wants_343 (by decide) (fun c110 => ?_) (fun c110 => ?_)
      · have hE := if_t c110 hE
        refine lv_iconst (v := 0) hx hb dX12_wants_350 (by decide +kernel) ?_
        obtain rfl := Option.some.inj hE
        exact rs_j hx hb hr rfl rfl rfl hlocks dX12_wants_351
      · have hE := if_f c110 hE
        refine lv_iconst (v := 2) hx hb dX12_wants_346 (by decide +kernel) ?_
        refine lv_goto (tgt := 351) hx hb dX12_wants_347 (by decide) ?_
        obtain rfl := Option.some.inj hE
        exact rs_j hx hb hr rfl rfl rfl hlocks dX12_wants_351
  by_cases c111 : x0 = 58
  · refine lv_tableIn (tgt := 334) (off := 333) hx hb dX12_wants_1 (by rw [c111]; decide +kernel) (by rw [c111]; decide +kernel) (by rw [c111]; decide +kernel) (by decide) ?_
    refine lv_iload_n hx hb dX12_wants_334 rfl (lv_at hl 0 rfl) ?_
    refine lv_bipush (v := 23) hx hb dX12_wants_335 (by decide +kernel) ?_
    refine lv_icmp_lt (tgt := 350) hx hb dX12_wants_337 (by decide) (fun c112 => ?_) (fun c112 => ?_)
    · have hE := if_t c112 hE
      refine lv_iconst (v := 0) hx hb dX12_wants_350 (by decide +kernel) ?_
      obtain rfl := Option.some.inj hE
      exact rs_j hx hb hr rfl rfl rfl hlocks dX12_wants_351
    · have hE := if_f c112 hE
      refine lv_iload_n hx hb dX12_wants_340 rfl (lv_at hl 0 rfl) ?_
      refine lv_bipush (v := 34) hx hb dX12_wants_341 (by decide +kernel) ?_
      refine lv_icmp_gt (tgt := 350) hx hb dX12_wants_343 (by decide) (fun c113 => ?_) (fun c113 => ?_)
      · have hE := if_t c113 hE
        refine lv_iconst (v := 0) hx hb dX12_wants_350 (by decide +kernel) ?_
        obtain rfl := Option.some.inj hE
        exact rs_j hx hb hr rfl rfl rfl hlocks dX12_wants_351
      · have hE := if_f c113 hE
        refine lv_iconst (v := 2) hx hb dX12_wants_346 (by decide +kernel) ?_
        refine lv_goto (tgt := 351) hx hb dX12_wants_347 (by decide) ?_
        obtain rfl := Option.some.inj hE
        exact rs_j hx hb hr rfl rfl rfl hlocks dX12_wants_351
  by_cases c114 : x0 = 59
  · refine lv_tableIn (tgt := 334) (off := 333) hx hb dX12_wants_1 (by rw [c114]; decide +kernel) (by rw [c114]; decide +kernel) (by rw [c114]; decide +kernel) (by decide) ?_
    refine lv_iload_n hx hb dX12_wants_334 rfl (lv_at hl 0 rfl) ?_
    refine lv_bipush (v := 23) hx hb dX12_wants_335 (by decide +kernel) ?_
    refine lv_icmp_lt (tgt := 350) hx hb dX12_wants_337 (by decide) (fun c115 => ?_) (fun c115 => ?_)
    · have hE := if_t c115 hE
      refine lv_iconst (v := 0) hx hb dX12_wants_350 (by decide +kernel) ?_
      obtain rfl := Option.some.inj hE
      exact rs_j hx hb hr rfl rfl rfl hlocks dX12_wants_351
    · have hE := if_f c115 hE
      refine lv_iload_n hx hb dX12_wants_340 rfl (lv_at hl 0 rfl) ?_
      refine lv_bipush (v := 34) hx hb dX12_wants_341 (by decide +kernel) ?_
      refine lv_icmp_gt (tgt := 350) hx hb dX12_wants_343 (by decide) (fun c116 => ?_) (fun c116 => ?_)
      · have hE := if_t c116 hE
        refine lv_iconst (v := 0) hx hb dX12_wants_350 (by decide +kernel) ?_
        obtain rfl := Option.some.inj hE
        exact rs_j hx hb hr rfl rfl rfl hlocks dX12_wants_351
      · have hE := if_f c116 hE
        refine lv_iconst (v := 2) hx hb dX12_wants_346 (by decide +kernel) ?_
        refine lv_goto (tgt := 351) hx hb dX12_wants_347 (by decide) ?_
        obtain rfl := Option.some.inj hE
        exact rs_j hx hb hr rfl rfl rfl hlocks dX12_wants_351
  by_cases c117 : x0 = 60
  · refine lv_tableIn (tgt := 334) (off := 333) hx hb dX12_wants_1 (by rw [c117]; decide +kernel) (by rw [c117]; decide +kernel) (by rw [c117]; decide +kernel) (by decide) ?_
    refine lv_iload_n hx hb dX12_wants_334 rfl (lv_at hl 0 rfl) ?_
    refine lv_bipush (v := 23) hx hb dX12_wants_335 (by decide +kernel) ?_
    refine lv_icmp_lt (tgt := 350) hx hb dX12_wants_337 (by decide) (fun c118 => ?_) (fun c118 => ?_)
    · have hE := if_t c118 hE
      refine lv_iconst (v := 0) hx hb dX12_wants_350 (by decide +kernel) ?_
      obtain rfl := Option.some.inj hE
      exact rs_j hx hb hr rfl rfl rfl hlocks dX12_wants_351
    · have hE := if_f c118 hE
      refine lv_iload_n hx hb dX12_wants_340 rfl (lv_at hl 0 rfl) ?_
      refine lv_bipush (v := 34) hx hb dX12_wants_341 (by decide +kernel) ?_
      refine lv_icmp_gt (tgt := 350) hx hb dX12_wants_343 (by decide) (fun c119 => ?_) (fun c119 => ?_)
      · have hE := if_t c119 hE
        refine lv_iconst (v := 0) hx hb dX12_wants_350 (by decide +kernel) ?_
        obtain rfl := Option.some.inj hE
        exact rs_j hx hb hr rfl rfl rfl hlocks dX12_wants_351
      · have hE := if_f c119 hE
        refine lv_iconst (v := 2) hx hb dX12_wants_346 (by decide +kernel) ?_
        refine lv_goto (tgt := 351) hx hb dX12_wants_347 (by decide) ?_
        obtain rfl := Option.some.inj hE
        exact rs_j hx hb hr rfl rfl rfl hlocks dX12_wants_351
  by_cases c120 : x0 = 61
  · refine lv_tableIn (tgt := 334) (off := 333) hx hb dX12_wants_1 (by rw [c120]; decide +kernel) (by rw [c120]; decide +kernel) (by rw [c120]; decide +kernel) (by decide) ?_
    refine lv_iload_n hx hb dX12_wants_334 rfl (lv_at hl 0 rfl) ?_
    refine lv_bipush (v := 23) hx hb dX12_wants_335 (by decide +kernel) ?_
    refine lv_icmp_lt (tgt := 350) hx hb dX12_wants_337 (by decide) (fun c121 => ?_) (fun c121 => ?_)
    · have hE := if_t c121 hE
      refine lv_iconst (v := 0) hx hb dX12_wants_350 (by decide +kernel) ?_
      obtain rfl := Option.some.inj hE
      exact rs_j hx hb hr rfl rfl rfl hlocks dX12_wants_351
    · have hE := if_f c121 hE
      refine lv_iload_n hx hb dX12_wants_340 rfl (lv_at hl 0 rfl) ?_
      refine lv_bipush (v := 34) hx hb dX12_wants_341 (by decide +kernel) ?_
      refine lv_icmp_gt (tgt := 350) hx hb dX12_wants_343 (by decide) (fun c122 => ?_) (fun c122 => ?_)
      · have hE := if_t c122 hE
        refine lv_iconst (v := 0) hx hb dX12_wants_350 (by decide +kernel) ?_
        obtain rfl := Option.some.inj hE
        exact rs_j hx hb hr rfl rfl rfl hlocks dX12_wants_351
      · have hE := if_f c122 hE
        refine lv_iconst (v := 2) hx hb dX12_wants_346 (by decide +kernel) ?_
        refine lv_goto (tgt := 351) hx hb dX12_wants_347 (by decide) ?_
        obtain rfl := Option.some.inj hE
        exact rs_j hx hb hr rfl rfl rfl hlocks dX12_wants_351
  by_cases c123 : x0 = 65
  · refine lv_tableIn (tgt := 334) (off := 333) hx hb dX12_wants_1 (by rw [c123]; decide +kernel) (by rw [c123]; decide +kernel) (by rw [c123]; decide +kernel) (by decide) ?_
    refine lv_iload_n hx hb dX12_wants_334 rfl (lv_at hl 0 rfl) ?_
    refine lv_bipush (v := 23) hx hb dX12_wants_335 (by decide +kernel) ?_
    refine lv_icmp_lt (tgt := 350) hx hb dX12_wants_337 (by decide) (fun c124 => ?_) (fun c124 => ?_)
    · have hE := if_t c124 hE
      refine lv_iconst (v := 0) hx hb dX12_wants_350 (by decide +kernel) ?_
      obtain rfl := Option.some.inj hE
      exact rs_j hx hb hr rfl rfl rfl hlocks dX12_wants_351
    · have hE := if_f c124 hE
      refine lv_iload_n hx hb dX12_wants_340 rfl (lv_at hl 0 rfl) ?_
      refine lv_bipush (v := 34) hx hb dX12_wants_341 (by decide +kernel) ?_
      refine lv_icmp_gt (tgt := 350) hx hb dX12_wants_343 (by decide) (fun c125 => ?_) (fun c125 => ?_)
      · have hE := if_t c125 hE
        refine lv_iconst (v := 0) hx hb dX12_wants_350 (by decide +kernel) ?_
        obtain rfl := Option.some.inj hE
        exact rs_j hx hb hr rfl rfl rfl hlocks dX12_wants_351
      · have hE := if_f c125 hE
        refine lv_iconst (v := 2) hx hb dX12_wants_346 (by decide +kernel) ?_
        refine lv_goto (tgt := 351) hx hb dX12_wants_347 (by decide) ?_
        obtain rfl := Option.some.inj hE
        exact rs_j hx hb hr rfl rfl rfl hlocks dX12_wants_351
  by_cases c126 : x0 = 66
  · refine lv_tableIn (tgt := 334) (off := 333) hx hb dX12_wants_1 (by rw [c126]; decide +kernel) (by rw [c126]; decide +kernel) (by rw [c126]; decide +kernel) (by decide) ?_
    refine lv_iload_n hx hb dX12_wants_334 rfl (lv_at hl 0 rfl) ?_
    refine lv_bipush (v := 23) hx hb dX12_wants_335 (by decide +kernel) ?_
    refine lv_icmp_lt (tgt := 350) hx hb dX12_wants_337 (by decide) (fun c127 => ?_) (fun c127 => ?_)
    · have hE := if_t c127 hE
      refine lv_iconst (v := 0) hx hb dX12_wants_350 (by decide +kernel) ?_
      obtain rfl := Option.some.inj hE
      exact rs_j hx hb hr rfl rfl rfl hlocks dX12_wants_351
    · have hE := if_f c127 hE
      refine lv_iload_n hx hb dX12_wants_340 rfl (lv_at hl 0 rfl) ?_
      refine lv_bipush (v := 34) hx hb dX12_wants_341 (by decide +kernel) ?_
      refine lv_icmp_gt (tgt := 350) hx hb dX12_wants_343 (by decide) (fun c128 => ?_) (fun c128 => ?_)
      · have hE := if_t c128 hE
        refine lv_iconst (v := 0) hx hb dX12_wants_350 (by decide +kernel) ?_
        obtain rfl := Option.some.inj hE
        exact rs_j hx hb hr rfl rfl rfl hlocks dX12_wants_351
      · have hE := if_f c128 hE
        refine lv_iconst (v := 2) hx hb dX12_wants_346 (by decide +kernel) ?_
        refine lv_goto (tgt := 351) hx hb dX12_wants_347 (by decide) ?_
        obtain rfl := Option.some.inj hE
        exact rs_j hx hb hr rfl rfl rfl hlocks dX12_wants_351
  by_cases c129 : x0 = 67
  · refine lv_tableIn (tgt := 334) (off := 333) hx hb dX12_wants_1 (by rw [c129]; decide +kernel) (by rw [c129]; decide +kernel) (by rw [c129]; decide +kernel) (by decide) ?_
    refine lv_iload_n hx hb dX12_wants_334 rfl (lv_at hl 0 rfl) ?_
    refine lv_bipush (v := 23) hx hb dX12_wants_335 (by decide +kernel) ?_
    refine lv_icmp_lt (tgt := 350) hx hb dX12_wants_337 (by decide) (fun c130 => ?_) (fun c130 => ?_)
    · have hE := if_t c130 hE
      refine lv_iconst (v := 0) hx hb dX12_wants_350 (by decide +kernel) ?_
      obtain rfl := Option.some.inj hE
      exact rs_j hx hb hr rfl rfl rfl hlocks dX12_wants_351
    · have hE := if_f c130 hE
      refine lv_iload_n hx hb dX12_wants_340 rfl (lv_at hl 0 rfl) ?_
      refine lv_bipush (v := 34) hx hb dX12_wants_341 (by decide +kernel) ?_
      refine lv_icmp_gt (tgt := 350) hx hb dX12_wants_343 (by decide) (fun c131 => ?_) (fun c131 => ?_)
      · have hE := if_t c131 hE
        refine lv_iconst (v := 0) hx hb dX12_wants_350 (by decide +kernel) ?_
        obtain rfl := Option.some.inj hE
        exact rs_j hx hb hr rfl rfl rfl hlocks dX12_wants_351
      · have hE := if_f c131 hE
        refine lv_iconst (v := 2) hx hb dX12_wants_346 (by decide +kernel) ?_
        refine lv_goto (tgt := 351) hx hb dX12_wants_347 (by decide) ?_
        obtain rfl := Option.some.inj hE
        exact rs_j hx hb hr rfl rfl rfl hlocks dX12_wants_351
  by_cases c132 : x0 = 68
  · refine lv_tableIn (tgt := 334) (off := 333) hx hb dX12_wants_1 (by rw [c132]; decide +kernel) (by rw [c132]; decide +kernel) (by rw [c132]; decide +kernel) (by decide) ?_
    refine lv_iload_n hx hb dX12_wants_334 rfl (lv_at hl 0 rfl) ?_
    refine lv_bipush (v := 23) hx hb dX12_wants_335 (by decide +kernel) ?_
    refine lv_icmp_lt (tgt := 350) hx hb dX12_wants_337 (by decide) (fun c133 => ?_) (fun c133 => ?_)
    · have hE := if_t c133 hE
      refine lv_iconst (v := 0) hx hb dX12_wants_350 (by decide +kernel) ?_
      obtain rfl := Option.some.inj hE
      exact rs_j hx hb hr rfl rfl rfl hlocks dX12_wants_351
    · have hE := if_f c133 hE
      refine lv_iload_n hx hb dX12_wants_340 rfl (lv_at hl 0 rfl) ?_
      refine lv_bipush (v := 34) hx hb dX12_wants_341 (by decide +kernel) ?_
      refine lv_icmp_gt (tgt := 350) hx hb dX12_wants_343 (by decide) (fun c134 => ?_) (fun c134 => ?_)
      · have hE := if_t c134 hE
        refine lv_iconst (v := 0) hx hb dX12_wants_350 (by decide +kernel) ?_
        obtain rfl := Option.some.inj hE
        exact rs_j hx hb hr rfl rfl rfl hlocks dX12_wants_351
      · have hE := if_f c134 hE
        refine lv_iconst (v := 2) hx hb dX12_wants_346 (by decide +kernel) ?_
        refine lv_goto (tgt := 351) hx hb dX12_wants_347 (by decide) ?_
        obtain rfl := Option.some.inj hE
        exact rs_j hx hb hr rfl rfl rfl hlocks dX12_wants_351
  by_cases c135 : x0 = 69
  · refine lv_tableIn (tgt := 334) (off := 333) hx hb dX12_wants_1 (by rw [c135]; decide +kernel) (by rw [c135]; decide +kernel) (by rw [c135]; decide +kernel) (by decide) ?_
    refine lv_iload_n hx hb dX12_wants_334 rfl (lv_at hl 0 rfl) ?_
    refine lv_bipush (v := 23) hx hb dX12_wants_335 (by decide +kernel) ?_
    refine lv_icmp_lt (tgt := 350) hx hb dX12_wants_337 (by decide) (fun c136 => ?_) (fun c136 => ?_)
    · have hE := if_t c136 hE
      refine lv_iconst (v := 0) hx hb dX12_wants_350 (by decide +kernel) ?_
      obtain rfl := Option.some.inj hE
      exact rs_j hx hb hr rfl rfl rfl hlocks dX12_wants_351
    · have hE := if_f c136 hE
      refine lv_iload_n hx hb dX12_wants_340 rfl (lv_at hl 0 rfl) ?_
      refine lv_bipush (v := 34) hx hb dX12_wants_341 (by decide +kernel) ?_
      refine lv_icmp_gt (tgt := 350) hx hb dX12_wants_343 (by decide) (fun c137 => ?_) (fun c137 => ?_)
      · have hE := if_t c137 hE
        refine lv_iconst (v := 0) hx hb dX12_wants_350 (by decide +kernel) ?_
        obtain rfl := Option.some.inj hE
        exact rs_j hx hb hr rfl rfl rfl hlocks dX12_wants_351
      · have hE := if_f c137 hE
        refine lv_iconst (v := 2) hx hb dX12_wants_346 (by decide +kernel) ?_
        refine lv_goto (tgt := 351) hx hb dX12_wants_347 (by decide) ?_
        obtain rfl := Option.some.inj hE
        exact rs_j hx hb hr rfl rfl rfl hlocks dX12_wants_351
  by_cases c138 : x0 = 70
  · refine lv_tableIn (tgt := 334) (off := 333) hx hb dX12_wants_1 (by rw [c138]; decide +kernel) (by rw [c138]; decide +kernel) (by rw [c138]; decide +kernel) (by decide) ?_
    refine lv_iload_n hx hb dX12_wants_334 rfl (lv_at hl 0 rfl) ?_
    refine lv_bipush (v := 23) hx hb dX12_wants_335 (by decide +kernel) ?_
    refine lv_icmp_lt (tgt := 350) hx hb dX12_wants_337 (by decide) (fun c139 => ?_) (fun c139 => ?_)
    · have hE := if_t c139 hE
      refine lv_iconst (v := 0) hx hb dX12_wants_350 (by decide +kernel) ?_
      obtain rfl := Option.some.inj hE
      exact rs_j hx hb hr rfl rfl rfl hlocks dX12_wants_351
    · have hE := if_f c139 hE
      refine lv_iload_n hx hb dX12_wants_340 rfl (lv_at hl 0 rfl) ?_
      refine lv_bipush (v := 34) hx hb dX12_wants_341 (by decide +kernel) ?_
      refine lv_icmp_gt (tgt := 350) hx hb dX12_wants_343 (by decide) (fun c140 => ?_) (fun c140 => ?_)
      · have hE := if_t c140 hE
        refine lv_iconst (v := 0) hx hb dX12_wants_350 (by decide +kernel) ?_
        obtain rfl := Option.some.inj hE
        exact rs_j hx hb hr rfl rfl rfl hlocks dX12_wants_351
      · have hE := if_f c140 hE
        refine lv_iconst (v := 2) hx hb dX12_wants_346 (by decide +kernel) ?_
        refine lv_goto (tgt := 351) hx hb dX12_wants_347 (by decide) ?_
        obtain rfl := Option.some.inj hE
        exact rs_j hx hb hr rfl rfl rfl hlocks dX12_wants_351
  by_cases c141 : x0 = 71
  · refine lv_tableIn (tgt := 334) (off := 333) hx hb dX12_wants_1 (by rw [c141]; decide +kernel) (by rw [c141]; decide +kernel) (by rw [c141]; decide +kernel) (by decide) ?_
    refine lv_iload_n hx hb dX12_wants_334 rfl (lv_at hl 0 rfl) ?_
    refine lv_bipush (v := 23) hx hb dX12_wants_335 (by decide +kernel) ?_
    refine lv_icmp_lt (tgt := 350) hx hb dX12_wants_337 (by decide) (fun c142 => ?_) (fun c142 => ?_)
    · have hE := if_t c142 hE
      refine lv_iconst (v := 0) hx hb dX12_wants_350 (by decide +kernel) ?_
      obtain rfl := Option.some.inj hE
      exact rs_j hx hb hr rfl rfl rfl hlocks dX12_wants_351
    · have hE := if_f c142 hE
      refine lv_iload_n hx hb dX12_wants_340 rfl (lv_at hl 0 rfl) ?_
      refine lv_bipush (v := 34) hx hb dX12_wants_341 (by decide +kernel) ?_
      refine lv_icmp_gt (tgt := 350) hx hb dX12_wants_343 (by decide) (fun c143 => ?_) (fun c143 => ?_)
      · have hE := if_t c143 hE
        refine lv_iconst (v := 0) hx hb dX12_wants_350 (by decide +kernel) ?_
        obtain rfl := Option.some.inj hE
        exact rs_j hx hb hr rfl rfl rfl hlocks dX12_wants_351
      · have hE := if_f c143 hE
        refine lv_iconst (v := 2) hx hb dX12_wants_346 (by decide +kernel) ?_
        refine lv_goto (tgt := 351) hx hb dX12_wants_347 (by decide) ?_
        obtain rfl := Option.some.inj hE
        exact rs_j hx hb hr rfl rfl rfl hlocks dX12_wants_351
  by_cases c144 : x0 = 72
  · refine lv_tableIn (tgt := 334) (off := 333) hx hb dX12_wants_1 (by rw [c144]; decide +kernel) (by rw [c144]; decide +kernel) (by rw [c144]; decide +kernel) (by decide) ?_
    refine lv_iload_n hx hb dX12_wants_334 rfl (lv_at hl 0 rfl) ?_
    refine lv_bipush (v := 23) hx hb dX12_wants_335 (by decide +kernel) ?_
    refine lv_icmp_lt (tgt := 350) hx hb dX12_wants_337 (by decide) (fun c145 => ?_) (fun c145 => ?_)
    · have hE := if_t c145 hE
      refine lv_iconst (v := 0) hx hb dX12_wants_350 (by decide +kernel) ?_
      obtain rfl := Option.some.inj hE
      exact rs_j hx hb hr rfl rfl rfl hlocks dX12_wants_351
    · have hE := if_f c145 hE
      refine lv_iload_n hx hb dX12_wants_340 rfl (lv_at hl 0 rfl) ?_
      refine lv_bipush (v := 34) hx hb dX12_wants_341 (by decide +kernel) ?_
      refine lv_icmp_gt (tgt := 350) hx hb dX12_wants_343 (by decide) (fun c146 => ?_) (fun c146 => ?_)
      · have hE := if_t c146 hE
        refine lv_iconst (v := 0) hx hb dX12_wants_350 (by decide +kernel) ?_
        obtain rfl := Option.some.inj hE
        exact rs_j hx hb hr rfl rfl rfl hlocks dX12_wants_351
      · have hE := if_f c146 hE
        refine lv_iconst (v := 2) hx hb dX12_wants_346 (by decide +kernel) ?_
        refine lv_goto (tgt := 351) hx hb dX12_wants_347 (by decide) ?_
        obtain rfl := Option.some.inj hE
        exact rs_j hx hb hr rfl rfl rfl hlocks dX12_wants_351
  by_cases c147 : x0 = 73
  · refine lv_tableIn (tgt := 334) (off := 333) hx hb dX12_wants_1 (by rw [c147]; decide +kernel) (by rw [c147]; decide +kernel) (by rw [c147]; decide +kernel) (by decide) ?_
    refine lv_iload_n hx hb dX12_wants_334 rfl (lv_at hl 0 rfl) ?_
    refine lv_bipush (v := 23) hx hb dX12_wants_335 (by decide +kernel) ?_
    refine lv_icmp_lt (tgt := 350) hx hb dX12_wants_337 (by decide) (fun c148 => ?_) (fun c148 => ?_)
    · have hE := if_t c148 hE
      refine lv_iconst (v := 0) hx hb dX12_wants_350 (by decide +kernel) ?_
      obtain rfl := Option.some.inj hE
      exact rs_j hx hb hr rfl rfl rfl hlocks dX12_wants_351
    · have hE := if_f c148 hE
      refine lv_iload_n hx hb dX12_wants_340 rfl (lv_at hl 0 rfl) ?_
      refine lv_bipush (v := 34) hx hb dX12_wants_341 (by decide +kernel) ?_
      refine lv_icmp_gt (tgt := 350) hx hb dX12_wants_343 (by decide) (fun c149 => ?_) (fun c149 => ?_)
      · have hE := if_t c149 hE
        refine lv_iconst (v := 0) hx hb dX12_wants_350 (by decide +kernel) ?_
        obtain rfl := Option.some.inj hE
        exact rs_j hx hb hr rfl rfl rfl hlocks dX12_wants_351
      · have hE := if_f c149 hE
        refine lv_iconst (v := 2) hx hb dX12_wants_346 (by decide +kernel) ?_
        refine lv_goto (tgt := 351) hx hb dX12_wants_347 (by decide) ?_
        obtain rfl := Option.some.inj hE
        exact rs_j hx hb hr rfl rfl rfl hlocks dX12_wants_351
  by_cases c150 : x0 = 74
  · refine lv_tableIn (tgt := 334) (off := 333) hx hb dX12_wants_1 (by rw [c150]; decide +kernel) (by rw [c150]; decide +kernel) (by rw [c150]; decide +kernel) (by decide) ?_
    refine lv_iload_n hx hb dX12_wants_334 rfl (lv_at hl 0 rfl) ?_
    refine lv_bipush (v := 23) hx hb dX12_wants_335 (by decide +kernel) ?_
    refine lv_icmp_lt (tgt := 350) hx hb dX12_wants_337 (by decide) (fun c151 => ?_) (fun c151 => ?_)
    · have hE := if_t c151 hE
      refine lv_iconst (v := 0) hx hb dX12_wants_350 (by decide +kernel) ?_
      obtain rfl := Option.some.inj hE
      exact rs_j hx hb hr rfl rfl rfl hlocks dX12_wants_351
    · have hE := if_f c151 hE
      refine lv_iload_n hx hb dX12_wants_340 rfl (lv_at hl 0 rfl) ?_
      refine lv_bipush (v := 34) hx hb dX12_wants_341 (by decide +kernel) ?_
      refine lv_icmp_gt (tgt := 350) hx hb dX12_wants_343 (by decide) (fun c152 => ?_) (fun c152 => ?_)
      · have hE := if_t c152 hE
        refine lv_iconst (v := 0) hx hb dX12_wants_350 (by decide +kernel) ?_
        obtain rfl := Option.some.inj hE
        exact rs_j hx hb hr rfl rfl rfl hlocks dX12_wants_351
      · have hE := if_f c152 hE
        refine lv_iconst (v := 2) hx hb dX12_wants_346 (by decide +kernel) ?_
        refine lv_goto (tgt := 351) hx hb dX12_wants_347 (by decide) ?_
        obtain rfl := Option.some.inj hE
        exact rs_j hx hb hr rfl rfl rfl hlocks dX12_wants_351
  by_cases c153 : x0 = 75
  · refine lv_tableIn (tgt := 334) (off := 333) hx hb dX12_wants_1 (by rw [c153]; decide +kernel) (by rw [c153]; decide +kernel) (by rw [c153]; decide +kernel) (by decide) ?_
    refine lv_iload_n hx hb dX12_wants_334 rfl (lv_at hl 0 rfl) ?_
    refine lv_bipush (v := 23) hx hb dX12_wants_335 (by decide +kernel) ?_
    refine lv_icmp_lt (tgt := 350) hx hb dX12_wants_337 (by decide) (fun c154 => ?_) (fun c154 => ?_)
    · have hE := if_t c154 hE
      refine lv_iconst (v := 0) hx hb dX12_wants_350 (by decide +kernel) ?_
      obtain rfl := Option.some.inj hE
      exact rs_j hx hb hr rfl rfl rfl hlocks dX12_wants_351
    · have hE := if_f c154 hE
      refine lv_iload_n hx hb dX12_wants_340 rfl (lv_at hl 0 rfl) ?_
      refine lv_bipush (v := 34) hx hb dX12_wants_341 (by decide +kernel) ?_
      refine lv_icmp_gt (tgt := 350) hx hb dX12_wants_343 (by decide) (fun c155 => ?_) (fun c155 => ?_)
      · have hE := if_t c155 hE
        refine lv_iconst (v := 0) hx hb dX12_wants_350 (by decide +kernel) ?_
        obtain rfl := Option.some.inj hE
        exact rs_j hx hb hr rfl rfl rfl hlocks dX12_wants_351
      · have hE := if_f c155 hE
        refine lv_iconst (v := 2) hx hb dX12_wants_346 (by decide +kernel) ?_
        refine lv_goto (tgt := 351) hx hb dX12_wants_347 (by decide) ?_
        obtain rfl := Option.some.inj hE
        exact rs_j hx hb hr rfl rfl rfl hlocks dX12_wants_351
  by_cases c156 : x0 = 76
  · refine lv_tableIn (tgt := 334) (off := 333) hx hb dX12_wants_1 (by rw [c156]; decide +kernel) (by rw [c156]; decide +kernel) (by rw [c156]; decide +kernel) (by decide) ?_
    refine lv_iload_n hx hb dX12_wants_334 rfl (lv_at hl 0 rfl) ?_
    refine lv_bipush (v := 23) hx hb dX12_wants_335 (by decide +kernel) ?_
    refine lv_icmp_lt (tgt := 350) hx hb dX12_wants_337 (by decide) (fun c157 => ?_) (fun c157 => ?_)
    · have hE := if_t c157 hE
      refine lv_iconst (v := 0) hx hb dX12_wants_350 (by decide +kernel) ?_
      obtain rfl := Option.some.inj hE
      exact rs_j hx hb hr rfl rfl rfl hlocks dX12_wants_351
    · have hE := if_f c157 hE
      refine lv_iload_n hx hb dX12_wants_340 rfl (lv_at hl 0 rfl) ?_
      refine lv_bipush (v := 34) hx hb dX12_wants_341 (by decide +kernel) ?_
      refine lv_icmp_gt (tgt := 350) hx hb dX12_wants_343 (by decide) (fun c158 => ?_) (fun c158 => ?_)
      · have hE := if_t c158 hE
        refine lv_iconst (v := 0) hx hb dX12_wants_350 (by decide +kernel) ?_
        obtain rfl := Option.some.inj hE
        exact rs_j hx hb hr rfl rfl rfl hlocks dX12_wants_351
      · have hE := if_f c158 hE
        refine lv_iconst (v := 2) hx hb dX12_wants_346 (by decide +kernel) ?_
        refine lv_goto (tgt := 351) hx hb dX12_wants_347 (by decide) ?_
        obtain rfl := Option.some.inj hE
        exact rs_j hx hb hr rfl rfl rfl hlocks dX12_wants_351
  by_cases c159 : x0 = 77
  · refine lv_tableIn (tgt := 334) (off := 333) hx hb dX12_wants_1 (by rw [c159]; decide +kernel) (by rw [c159]; decide +kernel) (by rw [c159]; decide +kernel) (by decide) ?_
    refine lv_iload_n hx hb dX12_wants_334 rfl (lv_at hl 0 rfl) ?_
    refine lv_bipush (v := 23) hx hb dX12_wants_335 (by decide +kernel) ?_
    refine lv_icmp_lt (tgt := 350) hx hb dX12_wants_337 (by decide) (fun c160 => ?_) (fun c160 => ?_)
    · have hE := if_t c160 hE
      refine lv_iconst (v := 0) hx hb dX12_wants_350 (by decide +kernel) ?_
      obtain rfl := Option.some.inj hE
      exact rs_j hx hb hr rfl rfl rfl hlocks dX12_wants_351
    · have hE := if_f c160 hE
      refine lv_iload_n hx hb dX12_wants_340 rfl (lv_at hl 0 rfl) ?_
      refine lv_bipush (v := 34) hx hb dX12_wants_341 (by decide +kernel) ?_
      refine lv_icmp_gt (tgt := 350) hx hb dX12_wants_343 (by decide) (fun c161 => ?_) (fun c161 => ?_)
      · have hE := if_t c161 hE
        refine lv_iconst (v := 0) hx hb dX12_wants_350 (by decide +kernel) ?_
        obtain rfl := Option.some.inj hE
        exact rs_j hx hb hr rfl rfl rfl hlocks dX12_wants_351
      · have hE := if_f c161 hE
        refine lv_iconst (v := 2) hx hb dX12_wants_346 (by decide +kernel) ?_
        refine lv_goto (tgt := 351) hx hb dX12_wants_347 (by decide) ?_
        obtain rfl := Option.some.inj hE
        exact rs_j hx hb hr rfl rfl rfl hlocks dX12_wants_351
  by_cases c162 : x0 = 78
  · refine lv_tableIn (tgt := 334) (off := 333) hx hb dX12_wants_1 (by rw [c162]; decide +kernel) (by rw [c162]; decide +kernel) (by rw [c162]; decide +kernel) (by decide) ?_
    refine lv_iload_n hx hb dX12_wants_334 rfl (lv_at hl 0 rfl) ?_
    refine lv_bipush (v := 23) hx hb dX12_wants_335 (by decide +kernel) ?_
    refine lv_icmp_lt (tgt := 350) hx hb dX12_wants_337 (by decide) (fun c163 => ?_) (fun c163 => ?_)
    · have hE := if_t c163 hE
      refine lv_iconst (v := 0) hx hb dX12_wants_350 (by decide +kernel) ?_
      obtain rfl := Option.some.inj hE
      exact rs_j hx hb hr rfl rfl rfl hlocks dX12_wants_351
    · have hE := if_f c163 hE
      refine lv_iload_n hx hb dX12_wants_340 rfl (lv_at hl 0 rfl) ?_
      refine lv_bipush (v := 34) hx hb dX12_wants_341 (by decide +kernel) ?_
      refine lv_icmp_gt (tgt := 350) hx hb dX12_wants_343 (by decide) (fun c164 => ?_) (fun c164 => ?_)
      · have hE := if_t c164 hE
        refine lv_iconst (v := 0) hx hb dX12_wants_350 (by decide +kernel) ?_
        obtain rfl := Option.some.inj hE
        exact rs_j hx hb hr rfl rfl rfl hlocks dX12_wants_351
      · have hE := if_f c164 hE
        refine lv_iconst (v := 2) hx hb dX12_wants_346 (by decide +kernel) ?_
        refine lv_goto (tgt := 351) hx hb dX12_wants_347 (by decide) ?_
        obtain rfl := Option.some.inj hE
        exact rs_j hx hb hr rfl rfl rfl hlocks dX12_wants_351
  have tc1 := lv_neT c1 (show (3 : Int32).toInt = 3 by decide +kernel)
  have tc2 := lv_neT c2 (show (4 : Int32).toInt = 4 by decide +kernel)
  have tc3 := lv_neT c3 (show (6 : Int32).toInt = 6 by decide +kernel)
  have tc4 := lv_neT c4 (show (8 : Int32).toInt = 8 by decide +kernel)
  have tc5 := lv_neT c5 (show (9 : Int32).toInt = 9 by decide +kernel)
  have tc6 := lv_neT c6 (show (10 : Int32).toInt = 10 by decide +kernel)
  have tc7 := lv_neT c7 (show (11 : Int32).toInt = 11 by decide +kernel)
  have tc8 := lv_neT c8 (show (12 : Int32).toInt = 12 by decide +kernel)
  have tc9 := lv_neT c9 (show (13 : Int32).toInt = 13 by decide +kernel)
  have tc10 := lv_neT c10 (show (14 : Int32).toInt = 14 by decide +kernel)
  have tc11 := lv_neT c11 (show (16 : Int32).toInt = 16 by decide +kernel)
  have tc12 := lv_neT c12 (show (17 : Int32).toInt = 17 by decide +kernel)
  have tc13 := lv_neT c13 (show (28 : Int32).toInt = 28 by decide +kernel)
  have tc14 := lv_neT c14 (show (29 : Int32).toInt = 29 by decide +kernel)
  have tc15 := lv_neT c15 (show (35 : Int32).toInt = 35 by decide +kernel)
  have tc16 := lv_neT c16 (show (36 : Int32).toInt = 36 by decide +kernel)
  have tc17 := lv_neT c17 (show (37 : Int32).toInt = 37 by decide +kernel)
  have tc18 := lv_neT c18 (show (38 : Int32).toInt = 38 by decide +kernel)
  have tc19 := lv_neT c19 (show (39 : Int32).toInt = 39 by decide +kernel)
  have tc20 := lv_neT c20 (show (40 : Int32).toInt = 40 by decide +kernel)
  have tc21 := lv_neT c21 (show (41 : Int32).toInt = 41 by decide +kernel)
  have tc22 := lv_neT c22 (show (42 : Int32).toInt = 42 by decide +kernel)
  have tc23 := lv_neT c23 (show (43 : Int32).toInt = 43 by decide +kernel)
  have tc24 := lv_neT c24 (show (44 : Int32).toInt = 44 by decide +kernel)
  have tc25 := lv_neT c25 (show (45 : Int32).toInt = 45 by decide +kernel)
  have tc26 := lv_neT c26 (show (46 : Int32).toInt = 46 by decide +kernel)
  have tc27 := lv_neT c27 (show (47 : Int32).toInt = 47 by decide +kernel)
  have tc28 := lv_neT c28 (show (49 : Int32).toInt = 49 by decide +kernel)
  have tc29 := lv_neT c29 (show (50 : Int32).toInt = 50 by decide +kernel)
  have tc30 := lv_neT c30 (show (51 : Int32).toInt = 51 by decide +kernel)
  have tc31 := lv_neT c31 (show (55 : Int32).toInt = 55 by decide +kernel)
  have tc32 := lv_neT c32 (show (62 : Int32).toInt = 62 by decide +kernel)
  have tc33 := lv_neT c33 (show (63 : Int32).toInt = 63 by decide +kernel)
  have tc34 := lv_neT c34 (show (64 : Int32).toInt = 64 by decide +kernel)
  have tc35 := lv_neT c35 (show (79 : Int32).toInt = 79 by decide +kernel)
  have tc36 := lv_neT c36 (show (80 : Int32).toInt = 80 by decide +kernel)
  have tc39 := lv_neT c39 (show (5 : Int32).toInt = 5 by decide +kernel)
  have tc42 := lv_neT c42 (show (7 : Int32).toInt = 7 by decide +kernel)
  have tc45 := lv_neT c45 (show (15 : Int32).toInt = 15 by decide +kernel)
  have tc48 := lv_neT c48 (show (18 : Int32).toInt = 18 by decide +kernel)
  have tc51 := lv_neT c51 (show (19 : Int32).toInt = 19 by decide +kernel)
  have tc54 := lv_neT c54 (show (20 : Int32).toInt = 20 by decide +kernel)
  have tc57 := lv_neT c57 (show (21 : Int32).toInt = 21 by decide +kernel)
  have tc60 := lv_neT c60 (show (22 : Int32).toInt = 22 by decide +kernel)
  have tc63 := lv_neT c63 (show (23 : Int32).toInt = 23 by decide +kernel)
  have tc66 := lv_neT c66 (show (24 : Int32).toInt = 24 by decide +kernel)
  have tc69 := lv_neT c69 (show (25 : Int32).toInt = 25 by decide +kernel)
  have tc72 := lv_neT c72 (show (26 : Int32).toInt = 26 by decide +kernel)
  have tc75 := lv_neT c75 (show (27 : Int32).toInt = 27 by decide +kernel)
  have tc78 := lv_neT c78 (show (30 : Int32).toInt = 30 by decide +kernel)
  have tc81 := lv_neT c81 (show (31 : Int32).toInt = 31 by decide +kernel)
  have tc84 := lv_neT c84 (show (32 : Int32).toInt = 32 by decide +kernel)
  have tc87 := lv_neT c87 (show (33 : Int32).toInt = 33 by decide +kernel)
  have tc90 := lv_neT c90 (show (34 : Int32).toInt = 34 by decide +kernel)
  have tc93 := lv_neT c93 (show (48 : Int32).toInt = 48 by decide +kernel)
  have tc96 := lv_neT c96 (show (52 : Int32).toInt = 52 by decide +kernel)
  have tc99 := lv_neT c99 (show (53 : Int32).toInt = 53 by decide +kernel)
  have tc102 := lv_neT c102 (show (54 : Int32).toInt = 54 by decide +kernel)
  have tc105 := lv_neT c105 (show (56 : Int32).toInt = 56 by decide +kernel)
  have tc108 := lv_neT c108 (show (57 : Int32).toInt = 57 by decide +kernel)
  have tc111 := lv_neT c111 (show (58 : Int32).toInt = 58 by decide +kernel)
  have tc114 := lv_neT c114 (show (59 : Int32).toInt = 59 by decide +kernel)
  have tc117 := lv_neT c117 (show (60 : Int32).toInt = 60 by decide +kernel)
  have tc120 := lv_neT c120 (show (61 : Int32).toInt = 61 by decide +kernel)
  have tc123 := lv_neT c123 (show (65 : Int32).toInt = 65 by decide +kernel)
  have tc126 := lv_neT c126 (show (66 : Int32).toInt = 66 by decide +kernel)
  have tc129 := lv_neT c129 (show (67 : Int32).toInt = 67 by decide +kernel)
  have tc132 := lv_neT c132 (show (68 : Int32).toInt = 68 by decide +kernel)
  have tc135 := lv_neT c135 (show (69 : Int32).toInt = 69 by decide +kernel)
  have tc138 := lv_neT c138 (show (70 : Int32).toInt = 70 by decide +kernel)
  have tc141 := lv_neT c141 (show (71 : Int32).toInt = 71 by decide +kernel)
  have tc144 := lv_neT c144 (show (72 : Int32).toInt = 72 by decide +kernel)
  have tc147 := lv_neT c147 (show (73 : Int32).toInt = 73 by decide +kernel)
  have tc150 := lv_neT c150 (show (74 : Int32).toInt = 74 by decide +kernel)
  have tc153 := lv_neT c153 (show (75 : Int32).toInt = 75 by decide +kernel)
  have tc156 := lv_neT c156 (show (76 : Int32).toInt = 76 by decide +kernel)
  have tc159 := lv_neT c159 (show (77 : Int32).toInt = 77 by decide +kernel)
  have tc162 := lv_neT c162 (show (78 : Int32).toInt = 78 by decide +kernel)
  refine lv_tableOut (tgt := 334) hx hb dX12_wants_1 (by omega) (by decide) ?_
  refine lv_iload_n hx hb dX12_wants_334 rfl (lv_at hl 0 rfl) ?_
  refine lv_bipush (v := 23) hx hb dX12_wants_335 (by decide +kernel) ?_
  refine lv_icmp_lt (tgt := 350) hx hb dX12_wants_337 (by decide) (fun c37 => ?_) (fun c37 => ?_)
  · have hE := if_t c37 hE
    refine lv_iconst (v := 0) hx hb dX12_wants_350 (by decide +kernel) ?_
    obtain rfl := Option.some.inj hE
    exact rs_j hx hb hr rfl rfl rfl hlocks dX12_wants_351
  · have hE := if_f c37 hE
    refine lv_iload_n hx hb dX12_wants_340 rfl (lv_at hl 0 rfl) ?_
    refine lv_bipush (v := 34) hx hb dX12_wants_341 (by decide +kernel) ?_
    refine lv_icmp_gt (tgt := 350) hx hb dX12_wants_343 (by decide) (fun c38 => ?_) (fun c38 => ?_)
    · have hE := if_t c38 hE
      refine lv_iconst (v := 0) hx hb dX12_wants_350 (by decide +kernel) ?_
      obtain rfl := Option.some.inj hE
      exact rs_j hx hb hr rfl rfl rfl hlocks dX12_wants_351
    · have hE := if_f c38 hE
      refine lv_iconst (v := 2) hx hb dX12_wants_346 (by decide +kernel) ?_
      refine lv_goto (tgt := 351) hx hb dX12_wants_347 (by decide) ?_
      obtain rfl := Option.some.inj hE
      exact rs_j hx hb hr rfl rfl rfl hlocks dX12_wants_351
