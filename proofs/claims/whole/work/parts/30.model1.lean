set_option maxHeartbeats 4000000 in
set_option maxRecDepth 100000 in
theorem c_X12_wantsStore (l : Launch) (x0 : Int32) (sz : Nat) (u : Int32) (hE : f_X12_wantsStore x0 = some u) : Met l yX12_wantsStore wsX12_wantsStore ({ frames := 0, cells := 0, slots := 0, locals := 0 }) (va_Pc [.int x0] (fun _ => True)) (va_Qi (fun (r0 : Int32) (_ : Unit) => r0 = u) (fun _ _ => True) (fun q => sz ≤ q)) 0 0 (fun q => sz ≤ q) := by
  refine Met.ofW (cc := cX12_wantsStore) (maxL := 1) (ret := (some .int)) (by decide) rfl ?_
  intro PP EE S0 MM args below meth CC S1 B hml hv
  obtain ⟨rfl, hsz⟩ := hv
  have hx := B.exec
  have hb := B.bytes
  have hr := B.returns
  have hts := atoms_spec (ws := wsX12_wantsStore) B.pre
  have hown : S0.vm.findClass RX12 = some MM.cls := findClass_of_methodNamed B.named
  have hlocks := B.notSynchronized
  have hl := lv_entry ([.int x0]) (n := 1) (Nat.le_of_ble_eq_true rfl)
  rw [lg_entry_eq]
  generalize (lg_sl ([.int x0]) ++ List.replicate (1 - (lg_sl ([.int x0])).length) Slot.unset).toArray = ls at hl ⊢
  have hl : lv_has ls 1 [(0, .int x0)] := hl
  have w27 : ∀ (ls : Array Slot), lv_has ls 1 [] → b_X12_wantsStore_27   = some u → W PP l EE (headSpec wsX12_wantsStore ({ frames := 0, cells := 0, slots := 0, locals := 0 })).room S0 MM (#[.int x0] : Array Value) below meth CC S0.heap [] 0 0 (MQ below (va_Qi (fun (r0 : Int32) (_ : Unit) => r0 = u) (fun _ _ => True) (fun q => sz ≤ q)) (#[.int x0] : Array Value) S0 0 0 (fun q => sz ≤ q)) (F0 MM 27 ls []) := by
    intro ls hl hE
    unfold b_X12_wantsStore_27 at hE
    refine lv_iconst (v := 2) hx hb dX12_wantsStore_27 (by decide +kernel) ?_
    refine lv_goto (tgt := 48) hx hb dX12_wantsStore_28 (by decide) ?_
    obtain rfl := Option.some.inj hE
    exact rs_j hx hb hr rfl rfl rfl hlocks dX12_wantsStore_48
  unfold f_X12_wantsStore at hE
  refine lv_iload_n hx hb dX12_wantsStore_0 rfl (lv_at hl 0 rfl) ?_
  refine lv_bipush (v := 21) hx hb dX12_wantsStore_1 (by decide +kernel) ?_
  refine lv_icmp_ne (tgt := 10) hx hb dX12_wantsStore_3 (by decide) (fun c1 => ?_) (fun c1 => ?_)
  · have hE := if_f c1 hE
    refine lv_iload_n hx hb dX12_wantsStore_10 rfl (lv_at hl 0 rfl) ?_
    refine lv_iconst (v := 5) hx hb dX12_wantsStore_11 (by decide +kernel) ?_
    refine lv_icmp_eq (tgt := 27) hx hb dX12_wantsStore_12 (by decide) (fun c2 => ?_) (fun c2 => ?_)
    · have hE := if_t c2 hE
      exact w27   ls (lv_sub hl [] rfl) hE
    · have hE := if_f c2 hE
      refine lv_iload_n hx hb dX12_wantsStore_15 rfl (lv_at hl 0 rfl) ?_
      refine lv_bipush (v := 6) hx hb dX12_wantsStore_16 (by decide +kernel) ?_
      refine lv_icmp_eq (tgt := 27) hx hb dX12_wantsStore_18 (by decide) (fun c3 => ?_) (fun c3 => ?_)
      · have hE := if_t c3 hE
        exact w27   ls (lv_sub hl [] rfl) hE
      · have hE := if_f c3 hE
        refine lv_iload_n hx hb dX12_wantsStore_21 rfl (lv_at hl 0 rfl) ?_
        refine lv_bipush (v := 22) hx hb dX12_wantsStore_22 (by decide +kernel) ?_
        refine lv_icmp_ne (tgt := 31) hx hb dX12_wantsStore_24 (by decide) (fun c4 => ?_) (fun c4 => ?_)
        · have hE := if_f c4 hE
          refine lv_iload_n hx hb dX12_wantsStore_31 rfl (lv_at hl 0 rfl) ?_
          refine lv_bipush (v := 18) hx hb dX12_wantsStore_32 (by decide +kernel) ?_
          refine lv_icmp_lt (tgt := 47) hx hb dX12_wantsStore_34 (by decide) (fun c5 => ?_) (fun c5 => ?_)
          · have hE := if_t c5 hE
            refine lv_iconst (v := 0) hx hb dX12_wantsStore_47 (by decide +kernel) ?_
            obtain rfl := Option.some.inj hE
            exact rs_j hx hb hr rfl rfl rfl hlocks dX12_wantsStore_48
          · have hE := if_f c5 hE
            refine lv_iload_n hx hb dX12_wantsStore_37 rfl (lv_at hl 0 rfl) ?_
            refine lv_bipush (v := 20) hx hb dX12_wantsStore_38 (by decide +kernel) ?_
            refine lv_icmp_gt (tgt := 47) hx hb dX12_wantsStore_40 (by decide) (fun c6 => ?_) (fun c6 => ?_)
            · have hE := if_t c6 hE
              refine lv_iconst (v := 0) hx hb dX12_wantsStore_47 (by decide +kernel) ?_
              obtain rfl := Option.some.inj hE
              exact rs_j hx hb hr rfl rfl rfl hlocks dX12_wantsStore_48
            · have hE := if_f c6 hE
              refine lv_iconst (v := 1) hx hb dX12_wantsStore_43 (by decide +kernel) ?_
              refine lv_goto (tgt := 48) hx hb dX12_wantsStore_44 (by decide) ?_
              obtain rfl := Option.some.inj hE
              exact rs_j hx hb hr rfl rfl rfl hlocks dX12_wantsStore_48
        · have hE := if_t c4 hE
          exact w27   ls (lv_sub hl [] rfl) hE
  · have hE := if_t c1 hE
    refine lv_iconst (v := 3) hx hb dX12_wantsStore_6 (by decide +kernel) ?_
    refine lv_goto (tgt := 48) hx hb dX12_wantsStore_7 (by decide) ?_
    obtain rfl := Option.some.inj hE
    exact rs_j hx hb hr rfl rfl rfl hlocks dX12_wantsStore_48
set_option maxHeartbeats 4000000 in
set_option maxRecDepth 100000 in
theorem c_X12_pop (l : Launch) (D : va_G) (cA : Nat → ClassId) (g : Nat → Nat) (sz : Nat) (t : mT) (s : mS) (r : mR) (c : mC) (y : mY) (d : mD) (k : mK) (q : mP) (o : mO) (m : mM) (u : Int32 × mS) (hE : f_X12_pop s = some u) : Met l yX12_pop wsX12_pop ({ frames := 0, cells := 0, slots := 0, locals := 0 }) (va_Pc [.ref (g 0)] (PRE D cA (wX g cA t s r c y d k q o m) sz (fun _ => True))) (cQi D (wX g cA t u.2 r c y d k q o m) (va_A (wX g cA t s r c y d k q o m) sz) u.1) 0 0 (va_A (wX g cA t s r c y d k q o m) sz) := by
  refine Met.ofW (cc := cX12_pop) (maxL := 1) (ret := (some .int)) (by decide) rfl ?_
  intro PP EE S0 MM args below meth CC S1 B hml hv
  obtain ⟨rfl, hsz, hP, hK, hD0, hX⟩ := hv
  have hx := B.exec
  have hb := B.bytes
  have hr := B.returns
  have hts := atoms_spec (ws := wsX12_pop) B.pre
  have hown : S0.vm.findClass RX12 = some MM.cls := findClass_of_methodNamed B.named
  have hlocks := B.notSynchronized
  subst hsz
  have hD := hD0.self (sz := S0.heap.size)
  generalize hAe : va_A (wX g cA t s r c y d k q o m) S0.heap.size = A at hD ⊢
  have hA : ∀ q : Nat, S0.heap.size ≤ q → A q := fun q h => by rw [← hAe]; exact Or.inr h
  have hS : va_S A S0.heap S0.heap [] := va_S.rf
  have k0 := hts (.fieldLink RX12 293 "WordForgeModel" "depth" "I") (List.mem_of_getElem? (i := 1) rfl)
  have inX12 : ∀ w ∈ wsX120, w ∈ wsX12_pop := fun _ h => List.mem_cons_of_mem _ (List.mem_append_right _ h)
  have k2 := hts (.fieldLink RX12 169 "WordForgeModel" "stack" "[I") (List.mem_of_getElem? (i := 2) rfl)
  have hl := lv_entry ([.ref (g 0)]) (n := 1) (Nat.le_of_ble_eq_true rfl)
  rw [lg_entry_eq]
  generalize (lg_sl ([.ref (g 0)]) ++ List.replicate (1 - (lg_sl ([.ref (g 0)])).length) Slot.unset).toArray = ls at hl ⊢
  have hl : lv_has ls 1 [(0, .ref (g 0))] := hl
  unfold f_X12_pop at hE
  suffices main : ∀ (H : Heap) (locs : List Loc) (ls : Array Slot), va_P D vwCl (wX g cA t s r c y d k q o m) H → va_D A (wX g cA t s r c y d k q o m) → va_S A S0.heap H locs → lv_has ls 1 [(0, .ref (g 0))] → W PP l EE (headSpec wsX12_pop ({ frames := 0, cells := 0, slots := 0, locals := 0 })).room S0 MM (#[.ref (g 0)] : Array Value) below meth CC H locs 0 0 (MQ below (cQi D (wX g cA t u.2 r c y d k q o m) A u.1) (#[.ref (g 0)] : Array Value) S0 0 0 A) (F0 MM 0 ls []) from main _ _ _ hP hD hS hl
  intro H locs ls hP hD hS hl
  refine lv_aload_n hx hb dX12_pop_0 rfl (lv_at hl 0 rfl) ?_
  refine lv_dup hx hb dX12_pop_1 rfl ?_
  refine va_get (D := D) (ci := 10) (v := .int s.1) (C := RX12) (T := TX12) (N := 40) hx hb hts inX12 hown hK hP 0 rfl rfl 9 (by decide) k0 (fun _ h9 => h9) rfl dX12_pop_2 ?_
  refine lv_iconst (v := 1) hx hb dX12_pop_5 (by decide +kernel) ?_
  refine lv_isub hx hb dX12_pop_6 ?_
  refine va_put (D := D) (ci := 10) (v := .int (s.1 - 1)) (ty := .int) (C := RX12) (T := TX12) (N := 40) hx hb hts inX12 tyX12 tyX12_ok nmX12 hown hK hP hD hS 0 rfl rfl 9 (by decide) k0 (fun _ h9 => h9) rfl (by decide +kernel) rfl rfl (Nat.le_of_ble_eq_true rfl) dX12_pop_7 (fun H locs hP hD hS => ?_)
  have hP : va_P D vwCl (wX g cA t ((s.1 - 1, s.2)) r c y d k q o m) H := hP
  have hD : va_D A (wX g cA t ((s.1 - 1, s.2)) r c y d k q o m) := hD
  refine lv_aload_n hx hb dX12_pop_10 rfl (lv_at hl 0 rfl) ?_
  refine va_get (D := D) (ci := 10) (v := .ref (g 5)) (C := RX12) (T := TX12) (N := 40) hx hb hts inX12 hown hK hP 0 rfl rfl 8 (by decide) k2 (fun _ h9 => h9) rfl dX12_pop_11 ?_
  refine lv_aload_n hx hb dX12_pop_14 rfl (lv_at hl 0 rfl) ?_
  refine va_get (D := D) (ci := 10) (v := .int (s.1 - 1)) (C := RX12) (T := TX12) (N := 40) hx hb hts inX12 hown hK hP 0 rfl rfl 9 (by decide) k0 (fun _ h9 => h9) rfl dX12_pop_15 ?_
  have ⟨c1, hE⟩ := ck_some hE
  refine va_iald hx hb hK hP 5 0 rfl rfl c1 dX12_pop_18 ?_
  obtain rfl := Option.some.inj hE
  exact rt_i hx hb hr hP hS rfl hlocks dX12_pop_19
set_option maxHeartbeats 4000000 in
set_option maxRecDepth 100000 in
theorem c_X12_turns (l : Launch) (D : va_G) (cA : Nat → ClassId) (g : Nat → Nat) (sz : Nat) (x1 : Int32) (t : mT) (s : mS) (r : mR) (c : mC) (y : mY) (d : mD) (k : mK) (q : mP) (o : mO) (m : mM) (u : Int32 × mR) (hE : f_X12_turns x1 r = some u) : Met l yX12_turns wsX12_turns ({ frames := 0, cells := 0, slots := 0, locals := 0 }) (va_Pc [.ref (g 0), .int x1] (PRE D cA (wX g cA t s r c y d k q o m) sz (fun _ => True))) (cQi D (wX g cA t s u.2 c y d k q o m) (va_A (wX g cA t s r c y d k q o m) sz) u.1) 0 0 (va_A (wX g cA t s r c y d k q o m) sz) := by
  refine Met.ofW (cc := cX12_turns) (maxL := 5) (ret := (some .boolean)) (by decide) rfl ?_
  intro PP EE S0 MM args below meth CC S1 B hml hv
  obtain ⟨rfl, hsz, hP, hK, hD0, hX⟩ := hv
  have hx := B.exec
  have hb := B.bytes
  have hr := B.returns
  have hts := atoms_spec (ws := wsX12_turns) B.pre
  have hown : S0.vm.findClass RX12 = some MM.cls := findClass_of_methodNamed B.named
  have hlocks := B.notSynchronized
  subst hsz
  have hD := hD0.self (sz := S0.heap.size)
  generalize hAe : va_A (wX g cA t s r c y d k q o m) S0.heap.size = A at hD ⊢
  have hA : ∀ q : Nat, S0.heap.size ≤ q → A q := fun q h => by rw [← hAe]; exact Or.inr h
  have hS : va_S A S0.heap S0.heap [] := va_S.rf
  have k0 := hts (.fieldLink RX12 172 "WordForgeModel" "store" "[I") (List.mem_of_getElem? (i := 1) rfl)
  have inX12 : ∀ w ∈ wsX120, w ∈ wsX12_turns := fun _ h => List.mem_cons_of_mem _ (List.mem_append_right _ h)
  have k2 := hts (.fieldLink RX12 335 "WordForgeModel" "deep" "I") (List.mem_of_getElem? (i := 2) rfl)
  have hl := lv_entry ([.ref (g 0), .int x1]) (n := 5) (Nat.le_of_ble_eq_true rfl)
  rw [lg_entry_eq]
  generalize (lg_sl ([.ref (g 0), .int x1]) ++ List.replicate (5 - (lg_sl ([.ref (g 0), .int x1])).length) Slot.unset).toArray = ls at hl ⊢
  have hl : lv_has ls 5 [(0, .ref (g 0)), (1, .int x1)] := hl
  have w69 : ∀ (z0 : Int32) (r : mR) (H : Heap) (locs : List Loc) (ls : Array Slot), va_P D vwCl (wX g cA t s r c y d k q o m) H → va_D A (wX g cA t s r c y d k q o m) → va_S A S0.heap H locs → lv_has ls 5 [(0, .ref (g 0))] → b_X12_turns_69  z0 r = some u → W PP l EE (headSpec wsX12_turns ({ frames := 0, cells := 0, slots := 0, locals := 0 })).room S0 MM (#[.ref (g 0), .int x1] : Array Value) below meth CC H locs 0 0 (MQ below (cQi D (wX g cA t s u.2 c y d k q o m) A u.1) (#[.ref (g 0), .int x1] : Array Value) S0 0 0 A) (F0 MM 69 ls [.int z0]) := by
    intro z0 r
    intro H locs ls hP hD hS hl hE
    unfold b_X12_turns_69 at hE
    refine lv_istore (lv' := [(4, .int z0), (0, .ref (g 0))]) hx hb dX12_turns_69 hl (by decide) rfl (fun ls hl => ?_)
    refine lv_iload hx hb dX12_turns_71 (lv_at hl 0 rfl) ?_
    refine lv_if_eq (tgt := 86) hx hb dX12_turns_73 (by decide) (fun c8 => ?_) (fun c8 => ?_)
    · have hE := if_t c8 hE
      refine lv_iload hx hb dX12_turns_86 (lv_at hl 0 rfl) ?_
      have ⟨c9, hE⟩ := ck_some hE
      obtain rfl := Option.some.inj hE
      exact rt_n hx hb hr (zfit c9).1 hP hS rfl hlocks dX12_turns_88
    · have hE := if_f c8 hE
      refine lv_aload_n hx hb dX12_turns_76 rfl (lv_at hl 1 rfl) ?_
      refine lv_dup hx hb dX12_turns_77 rfl ?_
      refine va_get (D := D) (ci := 10) (v := .int r.1) (C := RX12) (T := TX12) (N := 40) hx hb hts inX12 hown hK hP 0 rfl rfl 11 (by decide) k2 (fun _ h9 => h9) rfl dX12_turns_78 ?_
      refine lv_iconst (v := 2) hx hb dX12_turns_81 (by decide +kernel) ?_
      refine lv_isub hx hb dX12_turns_82 ?_
      refine va_put (D := D) (ci := 10) (v := .int (r.1 - 2)) (ty := .int) (C := RX12) (T := TX12) (N := 40) hx hb hts inX12 tyX12 tyX12_ok nmX12 hown hK hP hD hS 0 rfl rfl 11 (by decide) k2 (fun _ h9 => h9) rfl (by decide +kernel) rfl rfl (Nat.le_of_ble_eq_true rfl) dX12_turns_83 (fun H locs hP hD hS => ?_)
      have hP : va_P D vwCl (wX g cA t s ((r.1 - 2, r.2)) c y d k q o m) H := hP
      have hD : va_D A (wX g cA t s ((r.1 - 2, r.2)) c y d k q o m) := hD
      refine lv_iload hx hb dX12_turns_86 (lv_at hl 0 rfl) ?_
      have ⟨c10, hE⟩ := ck_some hE
      obtain rfl := Option.some.inj hE
      exact rt_n hx hb hr (zfit c10).1 hP hS rfl hlocks dX12_turns_88
  have w61 : ∀ (z0 : Int32) (z1 : Int32) (r : mR) (H : Heap) (locs : List Loc) (ls : Array Slot), va_P D vwCl (wX g cA t s r c y d k q o m) H → va_D A (wX g cA t s r c y d k q o m) → va_S A S0.heap H locs → lv_has ls 5 [(0, .ref (g 0))] → b_X12_turns_61  z0 z1 r = some u → W PP l EE (headSpec wsX12_turns ({ frames := 0, cells := 0, slots := 0, locals := 0 })).room S0 MM (#[.ref (g 0), .int x1] : Array Value) below meth CC H locs 0 0 (MQ below (cQi D (wX g cA t s u.2 c y d k q o m) A u.1) (#[.ref (g 0), .int x1] : Array Value) S0 0 0 A) (F0 MM 61 ls [.int z0, .int z1]) := by
    intro z0 z1 r
    intro H locs ls hP hD hS hl hE
    unfold b_X12_turns_61 at hE
    refine lv_icmp_eq (tgt := 68) hx hb dX12_turns_61 (by decide) (fun c7 => ?_) (fun c7 => ?_)
    · have hE := if_t c7 hE
      refine lv_iconst (v := 0) hx hb dX12_turns_68 (by decide +kernel) ?_
      exact w69  0 r H locs ls hP hD hS (lv_sub hl [0] rfl) hE
    · have hE := if_f c7 hE
      refine lv_iconst (v := 1) hx hb dX12_turns_64 (by decide +kernel) ?_
      refine lv_goto (tgt := 69) hx hb dX12_turns_65 (by decide) ?_
      exact w69  1 r H locs ls hP hD hS (lv_sub hl [0] rfl) hE
  have w52 : ∀ (y3 : Int32) (z0 : Int32) (r : mR) (H : Heap) (locs : List Loc) (ls : Array Slot), va_P D vwCl (wX g cA t s r c y d k q o m) H → va_D A (wX g cA t s r c y d k q o m) → va_S A S0.heap H locs → lv_has ls 5 [(0, .ref (g 0)), (3, .int y3)] → b_X12_turns_52  y3 z0 r = some u → W PP l EE (headSpec wsX12_turns ({ frames := 0, cells := 0, slots := 0, locals := 0 })).room S0 MM (#[.ref (g 0), .int x1] : Array Value) below meth CC H locs 0 0 (MQ below (cQi D (wX g cA t s u.2 c y d k q o m) A u.1) (#[.ref (g 0), .int x1] : Array Value) S0 0 0 A) (F0 MM 52 ls [.int z0]) := by
    intro y3 z0 r
    intro H locs ls hP hD hS hl hE
    unfold b_X12_turns_52 at hE
    refine lv_iload_n hx hb dX12_turns_52 rfl (lv_at hl 1 rfl) ?_
    refine lv_if_ge (tgt := 60) hx hb dX12_turns_53 (by decide) (fun c6 => ?_) (fun c6 => ?_)
    · have hE := if_t c6 hE
      refine lv_iconst (v := 0) hx hb dX12_turns_60 (by decide +kernel) ?_
      exact w61  0 z0 r H locs ls hP hD hS (lv_sub hl [0] rfl) hE
    · have hE := if_f c6 hE
      refine lv_iconst (v := 1) hx hb dX12_turns_56 (by decide +kernel) ?_
      refine lv_goto (tgt := 61) hx hb dX12_turns_57 (by decide) ?_
      exact w61  1 z0 r H locs ls hP hD hS (lv_sub hl [0] rfl) hE
  unfold f_X12_turns at hE
  suffices main : ∀ (H : Heap) (locs : List Loc) (ls : Array Slot), va_P D vwCl (wX g cA t s r c y d k q o m) H → va_D A (wX g cA t s r c y d k q o m) → va_S A S0.heap H locs → lv_has ls 5 [(0, .ref (g 0)), (1, .int x1)] → W PP l EE (headSpec wsX12_turns ({ frames := 0, cells := 0, slots := 0, locals := 0 })).room S0 MM (#[.ref (g 0), .int x1] : Array Value) below meth CC H locs 0 0 (MQ below (cQi D (wX g cA t s u.2 c y d k q o m) A u.1) (#[.ref (g 0), .int x1] : Array Value) S0 0 0 A) (F0 MM 0 ls []) from main _ _ _ hP hD hS hl
  intro H locs ls hP hD hS hl
  refine lv_aload_n hx hb dX12_turns_0 rfl (lv_at hl 0 rfl) ?_
  refine va_get (D := D) (ci := 10) (v := .ref (g 6)) (C := RX12) (T := TX12) (N := 40) hx hb hts inX12 hown hK hP 0 rfl rfl 10 (by decide) k0 (fun _ h9 => h9) rfl dX12_turns_1 ?_
  refine lv_aload_n hx hb dX12_turns_4 rfl (lv_at hl 0 rfl) ?_
  refine va_get (D := D) (ci := 10) (v := .int r.1) (C := RX12) (T := TX12) (N := 40) hx hb hts inX12 hown hK hP 0 rfl rfl 11 (by decide) k2 (fun _ h9 => h9) rfl dX12_turns_5 ?_
  refine lv_iconst (v := 1) hx hb dX12_turns_8 (by decide +kernel) ?_
  refine lv_isub hx hb dX12_turns_9 ?_
  have ⟨c1, hE⟩ := ck_some hE
  refine va_iald hx hb hK hP 6 0 rfl rfl c1 dX12_turns_10 ?_
  refine lv_aload_n hx hb dX12_turns_11 rfl (lv_at hl 0 rfl) ?_
  refine va_get (D := D) (ci := 10) (v := .ref (g 6)) (C := RX12) (T := TX12) (N := 40) hx hb hts inX12 hown hK hP 0 rfl rfl 10 (by decide) k0 (fun _ h9 => h9) rfl dX12_turns_12 ?_
  refine lv_aload_n hx hb dX12_turns_15 rfl (lv_at hl 0 rfl) ?_
  refine va_get (D := D) (ci := 10) (v := .int r.1) (C := RX12) (T := TX12) (N := 40) hx hb hts inX12 hown hK hP 0 rfl rfl 11 (by decide) k2 (fun _ h9 => h9) rfl dX12_turns_16 ?_
  refine lv_iconst (v := 2) hx hb dX12_turns_19 (by decide +kernel) ?_
  refine lv_isub hx hb dX12_turns_20 ?_
  have ⟨c2, hE⟩ := ck_some hE
  refine va_iald hx hb hK hP 6 0 rfl rfl c2 dX12_turns_21 ?_
  refine lv_isub hx hb dX12_turns_22 ?_
  refine lv_istore_n (lv' := [(2, .int ((r.2 ((r.1 - 1).toNatClampNeg)) - (r.2 ((r.1 - 2).toNatClampNeg)))), (0, .ref (g 0)), (1, .int x1)]) hx hb dX12_turns_23 rfl hl (by decide) rfl (fun ls hl => ?_)
  refine lv_iload_n hx hb dX12_turns_24 rfl (lv_at hl 0 rfl) ?_
  refine lv_iload_n hx hb dX12_turns_25 rfl (lv_at hl 2 rfl) ?_
  refine lv_iadd hx hb dX12_turns_26 ?_
  refine lv_istore_n (lv' := [(3, .int (((r.2 ((r.1 - 1).toNatClampNeg)) - (r.2 ((r.1 - 2).toNatClampNeg))) + x1)), (2, .int ((r.2 ((r.1 - 1).toNatClampNeg)) - (r.2 ((r.1 - 2).toNatClampNeg)))), (0, .ref (g 0)), (1, .int x1)]) hx hb dX12_turns_27 rfl hl (by decide) rfl (fun ls hl => ?_)
  refine lv_aload_n hx hb dX12_turns_28 rfl (lv_at hl 2 rfl) ?_
  refine va_get (D := D) (ci := 10) (v := .ref (g 6)) (C := RX12) (T := TX12) (N := 40) hx hb hts inX12 hown hK hP 0 rfl rfl 10 (by decide) k0 (fun _ h9 => h9) rfl dX12_turns_29 ?_
  refine lv_aload_n hx hb dX12_turns_32 rfl (lv_at hl 2 rfl) ?_
  refine va_get (D := D) (ci := 10) (v := .int r.1) (C := RX12) (T := TX12) (N := 40) hx hb hts inX12 hown hK hP 0 rfl rfl 11 (by decide) k2 (fun _ h9 => h9) rfl dX12_turns_33 ?_
  refine lv_iconst (v := 1) hx hb dX12_turns_36 (by decide +kernel) ?_
  refine lv_isub hx hb dX12_turns_37 ?_
  refine lv_dup2_11 hx hb dX12_turns_38 rfl rfl ?_
  have ⟨c3, hE⟩ := ck_some hE
  refine va_iald hx hb hK hP 6 0 rfl rfl c3 dX12_turns_39 ?_
  refine lv_iload_n hx hb dX12_turns_40 rfl (lv_at hl 3 rfl) ?_
  refine lv_iadd hx hb dX12_turns_41 ?_
  have ⟨c4, hE⟩ := ck_some hE
  refine va_iast hx hb hK hP hD hS 6 0 rfl rfl c4 dX12_turns_42 (fun H locs hP hD hS => ?_)
  have hP : va_P D vwCl (wX g cA t s ((r.1, upd r.2 ((r.1 - 1).toNatClampNeg) ((r.2 ((r.1 - 1).toNatClampNeg)) + x1))) c y d k q o m) H := hP
  have hD : va_D A (wX g cA t s ((r.1, upd r.2 ((r.1 - 1).toNatClampNeg) ((r.2 ((r.1 - 1).toNatClampNeg)) + x1))) c y d k q o m) := hD
  refine lv_iload_n hx hb dX12_turns_43 rfl (lv_at hl 1 rfl) ?_
  refine lv_if_ge (tgt := 51) hx hb dX12_turns_44 (by decide) (fun c5 => ?_) (fun c5 => ?_)
  · have hE := if_t c5 hE
    refine lv_iconst (v := 0) hx hb dX12_turns_51 (by decide +kernel) ?_
    exact w52  (((r.2 ((r.1 - 1).toNatClampNeg)) - (r.2 ((r.1 - 2).toNatClampNeg))) + x1) 0 ((r.1, upd r.2 ((r.1 - 1).toNatClampNeg) ((r.2 ((r.1 - 1).toNatClampNeg)) + x1))) H locs ls hP hD hS (lv_sub hl [2, 0] rfl) hE
  · have hE := if_f c5 hE
    refine lv_iconst (v := 1) hx hb dX12_turns_47 (by decide +kernel) ?_
    refine lv_goto (tgt := 52) hx hb dX12_turns_48 (by decide) ?_
    exact w52  (((r.2 ((r.1 - 1).toNatClampNeg)) - (r.2 ((r.1 - 2).toNatClampNeg))) + x1) 1 ((r.1, upd r.2 ((r.1 - 1).toNatClampNeg) ((r.2 ((r.1 - 1).toNatClampNeg)) + x1))) H locs ls hP hD hS (lv_sub hl [2, 0] rfl) hE
set_option maxRecDepth 20000 in
theorem hX12_inner_X12_pop_390 : GoodIn wsX12_inner (wsV RX12 390 RX12 yX12_pop wsX12_pop) := goodIn_r _ [10, 11, 12, 13, 14, 8, 15, 24, 25, 26, 27, 28, 29, 30, 31, 32, 33, 34, 35, 36, 37, 38, 39, 40, 41, 42, 43, 44, 45, 46, 47, 48, 49, 50, 51, 52, 53, 54, 55, 56, 57, 58, 59, 60, 61, 62, 63] rfl (by decide +kernel)
set_option maxRecDepth 20000 in
theorem hX12_inner_X12_push_296 : GoodIn wsX12_inner (wsV RX12 296 RX12 yX12_push wsX12_push) := goodIn_r _ [16, 17, 18, 13, 19, 15, 8, 24, 25, 26, 27, 28, 29, 30, 31, 32, 33, 34, 35, 36, 37, 38, 39, 40, 41, 42, 43, 44, 45, 46, 47, 48, 49, 50, 51, 52, 53, 54, 55, 56, 57, 58, 59, 60, 61, 62, 63] rfl (by decide +kernel)
set_option maxRecDepth 20000 in
theorem hX12_inner_X12_turns_393 : GoodIn wsX12_inner (wsV RX12 393 RX12 yX12_turns wsX12_turns) := goodIn_r _ [20, 21, 22, 13, 23, 4, 3, 24, 25, 26, 27, 28, 29, 30, 31, 32, 33, 34, 35, 36, 37, 38, 39, 40, 41, 42, 43, 44, 45, 46, 47, 48, 49, 50, 51, 52, 53, 54, 55, 56, 57, 58, 59, 60, 61, 62, 63] rfl (by decide +kernel)
set_option maxHeartbeats 4000000 in
set_option maxRecDepth 100000 in
theorem c_X12_inner (l : Launch) (D : va_G) (cA : Nat → ClassId) (g : Nat → Nat) (sz : Nat) (x1 : Int32) (t : mT) (s : mS) (r : mR) (c : mC) (y : mY) (d : mD) (k : mK) (q : mP) (o : mO) (m : mM) (u : Int32 × mS × mR × mC × mD) (hE : f_X12_inner x1 s r c y d = some u) : Met l yX12_inner wsX12_inner ({ frames := 1, cells := 0, slots := 0, locals := 24 }) (va_Pc [.ref (g 0), .int x1] (PRE D cA (wX g cA t s r c y d k q o m) sz (fun _ => True))) (cQi D (wX g cA t u.2.1 u.2.2.1 u.2.2.2.1 y u.2.2.2.2 k q o m) (va_A (wX g cA t s r c y d k q o m) sz) u.1) 0 0 (va_A (wX g cA t s r c y d k q o m) sz) := by
  refine Met.ofW (cc := cX12_inner) (maxL := 5) (ret := (some .int)) (by decide) rfl ?_
  intro PP EE S0 MM args below meth CC S1 B hml hv
  obtain ⟨rfl, hsz, hP, hK, hD0, hX⟩ := hv
  have hx := B.exec
  have hb := B.bytes
  have hr := B.returns
  have hts := atoms_spec (ws := wsX12_inner) B.pre
  have hown : S0.vm.findClass RX12 = some MM.cls := findClass_of_methodNamed B.named
  have hlocks := B.notSynchronized
  subst hsz
  have hD := hD0.self (sz := S0.heap.size)
  generalize hAe : va_A (wX g cA t s r c y d k q o m) S0.heap.size = A at hD ⊢
  have hA : ∀ q : Nat, S0.heap.size ≤ q → A q := fun q h => by rw [← hAe]; exact Or.inr h
  have hS : va_S A S0.heap S0.heap [] := va_S.rf
  have k0 := hts (.fieldLink RX12 311 "WordForgeModel" "calls" "I") (List.mem_of_getElem? (i := 1) rfl)
  have inX12 : ∀ w ∈ wsX120, w ∈ wsX12_inner := fun _ h => List.mem_cons_of_mem _ (List.mem_append_right _ h)
  have k2 := hts (.fieldLink RX12 175 "WordForgeModel" "callAt" "[I") (List.mem_of_getElem? (i := 2) rfl)
  have k3 := hts (.fieldLink RX12 293 "WordForgeModel" "depth" "I") (List.mem_of_getElem? (i := 8) rfl)
  have k4 := hts (.fieldLink RX12 184 "WordForgeModel" "cells" "[I") (List.mem_of_getElem? (i := 9) rfl)
  have k5 := hts (.fieldLink RX12 239 "WordForgeModel" "made" "I") (List.mem_of_getElem? (i := 5) rfl)
  have k6 := hts (.fieldLink RX12 190 "WordForgeModel" "sort" "[I") (List.mem_of_getElem? (i := 6) rfl)
  have k7 := hts (.fieldLink RX12 193 "WordForgeModel" "behaviour" "[I") (List.mem_of_getElem? (i := 7) rfl)
  have k8 := hts (.fieldLink RX12 335 "WordForgeModel" "deep" "I") (List.mem_of_getElem? (i := 3) rfl)
  have k9 := hts (.fieldLink RX12 172 "WordForgeModel" "store" "[I") (List.mem_of_getElem? (i := 4) rfl)
  have hl := lv_entry ([.ref (g 0), .int x1]) (n := 5) (Nat.le_of_ble_eq_true rfl)
  rw [lg_entry_eq]
  generalize (lg_sl ([.ref (g 0), .int x1]) ++ List.replicate (5 - (lg_sl ([.ref (g 0), .int x1])).length) Slot.unset).toArray = ls at hl ⊢
  have hl : lv_has ls 5 [(0, .ref (g 0)), (1, .int x1)] := hl
  have w290 : ∀ (z0 : Int32) (z1 : Int32) (s : mS) (r : mR) (c : mC) (y : mY) (d : mD) (H : Heap) (locs : List Loc) (ls : Array Slot), va_P D vwCl (wX g cA t s r c y d k q o m) H → va_D A (wX g cA t s r c y d k q o m) → va_S A S0.heap H locs → lv_has ls 5 [] → b_X12_inner_290  z0 z1 s r c y d = some u → W PP l EE (headSpec wsX12_inner ({ frames := 1, cells := 0, slots := 0, locals := 24 })).room S0 MM (#[.ref (g 0), .int x1] : Array Value) below meth CC H locs 0 0 (MQ below (cQi D (wX g cA t u.2.1 u.2.2.1 u.2.2.2.1 y u.2.2.2.2 k q o m) A u.1) (#[.ref (g 0), .int x1] : Array Value) S0 0 0 A) (F0 MM 290 ls [.int z0, .int z1, .ref (g 7)]) := by
    intro z0 z1 s r c y d
    intro H locs ls hP hD hS hl hE
    unfold b_X12_inner_290 at hE
    have ⟨c41, hE⟩ := ck_some hE
    refine va_iast hx hb hK hP hD hS 7 0 rfl rfl c41 dX12_inner_290 (fun H locs hP hD hS => ?_)
    have hP : va_P D vwCl (wX g cA t s r ((c.1, upd c.2.1 z1.toNatClampNeg z0, c.2.2.1, c.2.2.2)) y d k q o m) H := hP
    have hD : va_D A (wX g cA t s r ((c.1, upd c.2.1 z1.toNatClampNeg z0, c.2.2.1, c.2.2.2)) y d k q o m) := hD
    refine lv_iconst (v := 0) hx hb dX12_inner_291 (by decide +kernel) ?_
    obtain rfl := Option.some.inj hE
    exact rt_i hx hb hr hP hS rfl hlocks dX12_inner_292
  have w268 : ∀ (y2 : Int32) (y3 : Int32) (y4 : Int32) (s : mS) (r : mR) (c : mC) (y : mY) (d : mD) (H : Heap) (locs : List Loc) (ls : Array Slot), va_P D vwCl (wX g cA t s r c y d k q o m) H → va_D A (wX g cA t s r c y d k q o m) → va_S A S0.heap H locs → lv_has ls 5 [(0, .ref (g 0)), (2, .int y2), (3, .int y3), (4, .int y4)] → b_X12_inner_268  y2 y3 y4 s r c y d = some u → W PP l EE (headSpec wsX12_inner ({ frames := 1, cells := 0, slots := 0, locals := 24 })).room S0 MM (#[.ref (g 0), .int x1] : Array Value) below meth CC H locs 0 0 (MQ below (cQi D (wX g cA t u.2.1 u.2.2.1 u.2.2.2.1 y u.2.2.2.2 k q o m) A u.1) (#[.ref (g 0), .int x1] : Array Value) S0 0 0 A) (F0 MM 268 ls []) := by
    intro y2 y3 y4 s r c y d
    intro H locs ls hP hD hS hl hE
    unfold b_X12_inner_268 at hE
    refine lv_aload_n hx hb dX12_inner_268 rfl (lv_at hl 0 rfl) ?_
    refine va_get (D := D) (ci := 10) (v := .ref (g 7)) (C := RX12) (T := TX12) (N := 40) hx hb hts inX12 hown hK hP 0 rfl rfl 12 (by decide) k2 (fun _ h9 => h9) rfl dX12_inner_269 ?_
    refine lv_iload_n hx hb dX12_inner_272 rfl (lv_at hl 1 rfl) ?_
    refine lv_iload hx hb dX12_inner_273 (lv_at hl 3 rfl) ?_
    refine lv_if_eq (tgt := 284) hx hb dX12_inner_275 (by decide) (fun c37 => ?_) (fun c37 => ?_)
    · have hE := if_t c37 hE
      refine lv_aload_n hx hb dX12_inner_284 rfl (lv_at hl 0 rfl) ?_
      refine va_get (D := D) (ci := 10) (v := .ref (g 10)) (C := RX12) (T := TX12) (N := 40) hx hb hts inX12 hown hK hP 0 rfl rfl 16 (by decide) k4 (fun _ h9 => h9) rfl dX12_inner_285 ?_
      refine lv_iload_n hx hb dX12_inner_288 rfl (lv_at hl 2 rfl) ?_
      have ⟨c38, hE⟩ := ck_some hE
      refine va_iald hx hb hK hP 10 0 rfl rfl c38 dX12_inner_289 ?_
      exact w290  (y.2 y3.toNatClampNeg) y2 s r c y d H locs ls hP hD hS (lv_sub hl [] rfl) hE
    · have hE := if_f c37 hE
      refine lv_iload_n hx hb dX12_inner_278 rfl (lv_at hl 2 rfl) ?_
      refine lv_iconst (v := 1) hx hb dX12_inner_279 (by decide +kernel) ?_
      refine lv_iadd hx hb dX12_inner_280 ?_
      refine lv_goto (tgt := 290) hx hb dX12_inner_281 (by decide) ?_
      exact w290  (y3 + 1) y2 s r c y d H locs ls hP hD hS (lv_sub hl [] rfl) hE
  have w241 : ∀ (y2 : Int32) (y3 : Int32) (z0 : Int32) (s : mS) (r : mR) (c : mC) (y : mY) (d : mD) (H : Heap) (locs : List Loc) (ls : Array Slot), va_P D vwCl (wX g cA t s r c y d k q o m) H → va_D A (wX g cA t s r c y d k q o m) → va_S A S0.heap H locs → lv_has ls 5 [(0, .ref (g 0)), (2, .int y2), (3, .int y3)] → b_X12_inner_241  y2 y3 z0 s r c y d = some u → W PP l EE (headSpec wsX12_inner ({ frames := 1, cells := 0, slots := 0, locals := 24 })).room S0 MM (#[.ref (g 0), .int x1] : Array Value) below meth CC H locs 0 0 (MQ below (cQi D (wX g cA t u.2.1 u.2.2.1 u.2.2.2.1 y u.2.2.2.2 k q o m) A u.1) (#[.ref (g 0), .int x1] : Array Value) S0 0 0 A) (F0 MM 241 ls [.int z0]) := by
    intro y2 y3 z0 s r c y d
    intro H locs ls hP hD hS hl hE
    unfold b_X12_inner_241 at hE
    refine lv_istore (lv' := [(4, .int z0), (0, .ref (g 0)), (2, .int y2), (3, .int y3)]) hx hb dX12_inner_241 hl (by decide) rfl (fun ls hl => ?_)
    refine lv_goto (tgt := 268) hx hb dX12_inner_243 (by decide) ?_
    exact w268  y2 y3 z0 s r c y d H locs ls hP hD hS (lv_sub hl [1, 2, 3, 0] rfl) hE
  have w260 : ∀ (y2 : Int32) (y3 : Int32) (z0 : Int32) (s : mS) (r : mR) (c : mC) (y : mY) (d : mD) (H : Heap) (locs : List Loc) (ls : Array Slot), va_P D vwCl (wX g cA t s r c y d k q o m) H → va_D A (wX g cA t s r c y d k q o m) → va_S A S0.heap H locs → lv_has ls 5 [(0, .ref (g 0)), (2, .int y2), (3, .int y3)] → b_X12_inner_260  y2 y3 z0 s r c y d = some u → W PP l EE (headSpec wsX12_inner ({ frames := 1, cells := 0, slots := 0, locals := 24 })).room S0 MM (#[.ref (g 0), .int x1] : Array Value) below meth CC H locs 0 0 (MQ below (cQi D (wX g cA t u.2.1 u.2.2.1 u.2.2.2.1 y u.2.2.2.2 k q o m) A u.1) (#[.ref (g 0), .int x1] : Array Value) S0 0 0 A) (F0 MM 260 ls [.int z0, .ref (g 0)]) := by
    intro y2 y3 z0 s r c y d
    intro H locs ls hP hD hS hl hE
    unfold b_X12_inner_260 at hE
    obtain ⟨u39, h40, hE⟩ := bd_some hE
    refine cw_i (As := [.int z0]) (rest := []) (r := u39.1) (wc := (wX g cA t s r c y d k q o m)) ⟨hx, hb, hml, hown, hts⟩ (c_X12_turns l D cA g H.size z0 t s r c y d k q o m u39 h40) (cwV 1 hts hX12_inner_X12_turns_393 rfl rfl rfl (by decide +kernel) ⟨Nat.le_of_ble_eq_true rfl, Nat.le_of_ble_eq_true rfl⟩) rfl hl.1 rfl (Nat.le_of_ble_eq_true rfl) dX12_inner_260 ⟨Nat.zero_le _, Nat.zero_le _⟩ hK hP hD hS hA (va_recv hK hP (ci := 10) (q0 := 0) rfl rfl) [g 0, g 1, g 2, g 3, g 4, g 5, g 6, g 7, g 8, g 9, g 10, g 11, g 12, g 13, g 14, g 15, g 16, g 17, g 18, g 19] rfl rfl (fun _ _ _ _ h => h) (fun _ _ _ => trivial) (fun H locs hP hD hS => ?_)
    have hP : va_P D vwCl (wX g cA t s u39.2 c y d k q o m) H := hP
    have hD : va_D A (wX g cA t s u39.2 c y d k q o m) := hD
    refine lv_istore (lv' := [(4, .int u39.1), (0, .ref (g 0)), (2, .int y2), (3, .int y3)]) hx hb dX12_inner_263 hl (by decide) rfl (fun ls hl => ?_)
    refine lv_goto (tgt := 268) hx hb dX12_inner_265 (by decide) ?_
    exact w268  y2 y3 u39.1 s u39.2 c y d H locs ls hP hD hS (lv_sub hl [1, 2, 3, 0] rfl) hE
  unfold f_X12_inner at hE
  suffices main : ∀ (H : Heap) (locs : List Loc) (ls : Array Slot), va_P D vwCl (wX g cA t s r c y d k q o m) H → va_D A (wX g cA t s r c y d k q o m) → va_S A S0.heap H locs → lv_has ls 5 [(0, .ref (g 0)), (1, .int x1)] → W PP l EE (headSpec wsX12_inner ({ frames := 1, cells := 0, slots := 0, locals := 24 })).room S0 MM (#[.ref (g 0), .int x1] : Array Value) below meth CC H locs 0 0 (MQ below (cQi D (wX g cA t u.2.1 u.2.2.1 u.2.2.2.1 y u.2.2.2.2 k q o m) A u.1) (#[.ref (g 0), .int x1] : Array Value) S0 0 0 A) (F0 MM 0 ls []) from main _ _ _ hP hD hS hl
  intro H locs ls hP hD hS hl
  refine lv_aload_n hx hb dX12_inner_0 rfl (lv_at hl 0 rfl) ?_
  refine va_get (D := D) (ci := 10) (v := .int c.1) (C := RX12) (T := TX12) (N := 40) hx hb hts inX12 hown hK hP 0 rfl rfl 15 (by decide) k0 (fun _ h9 => h9) rfl dX12_inner_1 ?_
  refine lv_iconst (v := 1) hx hb dX12_inner_4 (by decide +kernel) ?_
  refine lv_isub hx hb dX12_inner_5 ?_
  refine lv_istore_n (lv' := [(2, .int (c.1 - 1)), (0, .ref (g 0)), (1, .int x1)]) hx hb dX12_inner_6 rfl hl (by decide) rfl (fun ls hl => ?_)
  refine lv_aload_n hx hb dX12_inner_7 rfl (lv_at hl 1 rfl) ?_
  refine va_get (D := D) (ci := 10) (v := .ref (g 7)) (C := RX12) (T := TX12) (N := 40) hx hb hts inX12 hown hK hP 0 rfl rfl 12 (by decide) k2 (fun _ h9 => h9) rfl dX12_inner_8 ?_
  refine lv_iload_n hx hb dX12_inner_11 rfl (lv_at hl 0 rfl) ?_
  have ⟨c1, hE⟩ := ck_some hE
  refine va_iald hx hb hK hP 7 0 rfl rfl c1 dX12_inner_12 ?_
  refine lv_istore_n (lv' := [(3, .int (c.2.1 ((c.1 - 1).toNatClampNeg))), (2, .int (c.1 - 1)), (0, .ref (g 0)), (1, .int x1)]) hx hb dX12_inner_13 rfl hl (by decide) rfl (fun ls hl => ?_)
  refine lv_iload_n hx hb dX12_inner_14 rfl (lv_at hl 3 rfl) ?_
  refine lv_if_ne (tgt := 30) hx hb dX12_inner_15 (by decide) (fun c2 => ?_) (fun c2 => ?_)
  · have hE := if_f c2 hE
    refine lv_iload_n hx hb dX12_inner_30 rfl (lv_at hl 3 rfl) ?_
    refine lv_iconst (v := 4) hx hb dX12_inner_31 (by decide +kernel) ?_
    refine lv_icmp_ne (tgt := 87) hx hb dX12_inner_32 (by decide) (fun c3 => ?_) (fun c3 => ?_)
    · have hE := if_f c3 hE
      refine lv_iload_n hx hb dX12_inner_87 rfl (lv_at hl 3 rfl) ?_
      refine lv_bipush (v := 7) hx hb dX12_inner_88 (by decide +kernel) ?_
      refine lv_icmp_ne (tgt := 142) hx hb dX12_inner_90 (by decide) (fun c4 => ?_) (fun c4 => ?_)
      · have hE := if_f c4 hE
        refine lv_iload_n hx hb dX12_inner_142 rfl (lv_at hl 0 rfl) ?_
        refine lv_if_lt (tgt := 153) hx hb dX12_inner_143 (by decide) (fun c5 => ?_) (fun c5 => ?_)
        · have hE := if_t c5 hE
          refine lv_bipush (v := (-9)) hx hb dX12_inner_153 (by decide +kernel) ?_
          obtain rfl := Option.some.inj hE
          exact rt_i hx hb hr hP hS rfl hlocks dX12_inner_155
        · have hE := if_f c5 hE
          refine lv_iload_n hx hb dX12_inner_146 rfl (lv_at hl 0 rfl) ?_
          refine lv_sipush (v := 400) hx hb dX12_inner_147 (by decide +kernel) ?_
          refine lv_icmp_lt (tgt := 156) hx hb dX12_inner_150 (by decide) (fun c6 => ?_) (fun c6 => ?_)
          · have hE := if_t c6 hE
            refine lv_iconst (v := 0) hx hb dX12_inner_156 (by decide +kernel) ?_
            refine lv_istore (lv' := [(4, .int 0), (3, .int (c.2.1 ((c.1 - 1).toNatClampNeg))), (2, .int (c.1 - 1)), (0, .ref (g 0)), (1, .int x1)]) hx hb dX12_inner_157 hl (by decide) rfl (fun ls hl => ?_)
            refine lv_iload_n hx hb dX12_inner_159 rfl (lv_at hl 4 rfl) ?_
            by_cases c7 : x1 = 1
            · have hE := if_t c7 hE
              refine lv_tableIn (tgt := 200) (off := 40) hx hb dX12_inner_160 (by rw [c7]; decide +kernel) (by rw [c7]; decide +kernel) (by rw [c7]; decide +kernel) (by decide) ?_
              refine lv_aload_n hx hb dX12_inner_200 rfl (lv_at hl 3 rfl) ?_
              refine va_get (D := D) (ci := 10) (v := .int s.1) (C := RX12) (T := TX12) (N := 40) hx hb hts inX12 hown hK hP 0 rfl rfl 9 (by decide) k3 (fun _ h9 => h9) rfl dX12_inner_201 ?_
              refine lv_bipush (v := 30) hx hb dX12_inner_204 (by decide +kernel) ?_
              refine lv_icmp_ne (tgt := 212) hx hb dX12_inner_206 (by decide) (fun c8 => ?_) (fun c8 => ?_)
              · have hE := if_f c8 hE
                refine lv_aload_n hx hb dX12_inner_212 rfl (lv_at hl 3 rfl) ?_
                refine lv_aload_n hx hb dX12_inner_213 rfl (lv_at hl 3 rfl) ?_
                refine va_get (D := D) (ci := 10) (v := .ref (g 10)) (C := RX12) (T := TX12) (N := 40) hx hb hts inX12 hown hK hP 0 rfl rfl 16 (by decide) k4 (fun _ h9 => h9) rfl dX12_inner_214 ?_
                refine lv_iload_n hx hb dX12_inner_217 rfl (lv_at hl 1 rfl) ?_
                have ⟨c9, hE⟩ := ck_some hE
                refine va_iald hx hb hK hP 10 0 rfl rfl c9 dX12_inner_218 ?_
                obtain ⟨u10, h11, hE⟩ := bd_some hE
                refine cw_i (As := [.int (y.2 ((c.2.1 ((c.1 - 1).toNatClampNeg)).toNatClampNeg))]) (rest := []) (r := u10.1) (wc := (wX g cA t s r c y d k q o m)) ⟨hx, hb, hml, hown, hts⟩ (c_X12_push l D cA g H.size (y.2 ((c.2.1 ((c.1 - 1).toNatClampNeg)).toNatClampNeg)) t s r c y d k q o m u10 h11) (cwV 1 hts hX12_inner_X12_push_296 rfl rfl rfl (by decide +kernel) ⟨Nat.le_of_ble_eq_true rfl, Nat.le_of_ble_eq_true rfl⟩) rfl hl.1 rfl (Nat.le_of_ble_eq_true rfl) dX12_inner_219 ⟨Nat.zero_le _, Nat.zero_le _⟩ hK hP hD hS hA (va_recv hK hP (ci := 10) (q0 := 0) rfl rfl) [g 0, g 1, g 2, g 3, g 4, g 5, g 6, g 7, g 8, g 9, g 10, g 11, g 12, g 13, g 14, g 15, g 16, g 17, g 18, g 19] rfl rfl (fun _ _ _ _ h => h) (fun _ _ _ => trivial) (fun H locs hP hD hS => ?_)
                have hP : va_P D vwCl (wX g cA t u10.2 r c y d k q o m) H := hP
                have hD : va_D A (wX g cA t u10.2 r c y d k q o m) := hD
                refine lv_pop hx hb dX12_inner_222 rfl ?_
                refine lv_iconst (v := 1) hx hb dX12_inner_223 (by decide +kernel) ?_
                refine lv_istore (lv' := [(4, .int 1), (3, .int (c.2.1 ((c.1 - 1).toNatClampNeg))), (2, .int (c.1 - 1)), (0, .ref (g 0)), (1, .int x1)]) hx hb dX12_inner_224 hl (by decide) rfl (fun ls hl => ?_)
                refine lv_goto (tgt := 268) hx hb dX12_inner_226 (by decide) ?_
                exact w268  (c.1 - 1) (c.2.1 ((c.1 - 1).toNatClampNeg)) 1 u10.2 r c y d H locs ls hP hD hS (lv_sub hl [3, 2, 1, 0] rfl) hE
              · have hE := if_t c8 hE
                refine lv_bipush (v := (-3)) hx hb dX12_inner_209 (by decide +kernel) ?_
                obtain rfl := Option.some.inj hE
                exact rt_i hx hb hr hP hS rfl hlocks dX12_inner_211
            have hE := if_f c7 hE
            by_cases c12 : x1 = 3
            · have hE := if_t c12 hE
              refine lv_tableIn (tgt := 229) (off := 69) hx hb dX12_inner_160 (by rw [c12]; decide +kernel) (by rw [c12]; decide +kernel) (by rw [c12]; decide +kernel) (by decide) ?_
              refine lv_aload_n hx hb dX12_inner_229 rfl (lv_at hl 3 rfl) ?_
              obtain ⟨u13, h14, hE⟩ := bd_some hE
              refine cw_i (As := []) (rest := []) (r := u13.1) (wc := (wX g cA t s r c y d k q o m)) ⟨hx, hb, hml, hown, hts⟩ (c_X12_pop l D cA g H.size t s r c y d k q o m u13 h14) (cwV 0 hts hX12_inner_X12_pop_390 rfl rfl rfl (by decide +kernel) ⟨Nat.le_of_ble_eq_true rfl, Nat.le_of_ble_eq_true rfl⟩) rfl hl.1 rfl (Nat.le_of_ble_eq_true rfl) dX12_inner_230 ⟨Nat.zero_le _, Nat.zero_le _⟩ hK hP hD hS hA (va_recv hK hP (ci := 10) (q0 := 0) rfl rfl) [g 0, g 1, g 2, g 3, g 4, g 5, g 6, g 7, g 8, g 9, g 10, g 11, g 12, g 13, g 14, g 15, g 16, g 17, g 18, g 19] rfl rfl (fun _ _ _ _ h => h) (fun _ _ _ => trivial) (fun H locs hP hD hS => ?_)
              have hP : va_P D vwCl (wX g cA t u13.2 r c y d k q o m) H := hP
              have hD : va_D A (wX g cA t u13.2 r c y d k q o m) := hD
              refine lv_if_eq (tgt := 240) hx hb dX12_inner_233 (by decide) (fun c15 => ?_) (fun c15 => ?_)
              · have hE := if_t c15 hE
                refine lv_iconst (v := 0) hx hb dX12_inner_240 (by decide +kernel) ?_
                exact w241  (c.1 - 1) (c.2.1 ((c.1 - 1).toNatClampNeg)) 0 u13.2 r c y d H locs ls hP hD hS (lv_sub hl [3, 2, 1] rfl) hE
              · have hE := if_f c15 hE
                refine lv_iconst (v := 1) hx hb dX12_inner_236 (by decide +kernel) ?_
                refine lv_goto (tgt := 241) hx hb dX12_inner_237 (by decide) ?_
                exact w241  (c.1 - 1) (c.2.1 ((c.1 - 1).toNatClampNeg)) 1 u13.2 r c y d H locs ls hP hD hS (lv_sub hl [3, 2, 1] rfl) hE
            have hE := if_f c12 hE
            by_cases c16 : x1 = 5
            · have hE := if_t c16 hE
              refine lv_tableIn (tgt := 246) (off := 86) hx hb dX12_inner_160 (by rw [c16]; decide +kernel) (by rw [c16]; decide +kernel) (by rw [c16]; decide +kernel) (by decide) ?_
              refine lv_aload_n hx hb dX12_inner_246 rfl (lv_at hl 3 rfl) ?_
              refine lv_iload_n hx hb dX12_inner_247 rfl (lv_at hl 4 rfl) ?_
              refine lv_iconst (v := 5) hx hb dX12_inner_248 (by decide +kernel) ?_
              refine lv_icmp_ne (tgt := 256) hx hb dX12_inner_249 (by decide) (fun c17 => ?_) (fun c17 => ?_)
              · have hE := if_f c17 hE
                refine lv_aload_n hx hb dX12_inner_256 rfl (lv_at hl 3 rfl) ?_
                obtain ⟨u18, h19, hE⟩ := bd_some hE
                refine cw_i (As := []) (rest := [.ref (g 0)]) (r := u18.1) (wc := (wX g cA t s r c y d k q o m)) ⟨hx, hb, hml, hown, hts⟩ (c_X12_pop l D cA g H.size t s r c y d k q o m u18 h19) (cwV 0 hts hX12_inner_X12_pop_390 rfl rfl rfl (by decide +kernel) ⟨Nat.le_of_ble_eq_true rfl, Nat.le_of_ble_eq_true rfl⟩) rfl hl.1 rfl (Nat.le_of_ble_eq_true rfl) dX12_inner_257 ⟨Nat.zero_le _, Nat.zero_le _⟩ hK hP hD hS hA (va_recv hK hP (ci := 10) (q0 := 0) rfl rfl) [g 0, g 1, g 2, g 3, g 4, g 5, g 6, g 7, g 8, g 9, g 10, g 11, g 12, g 13, g 14, g 15, g 16, g 17, g 18, g 19] rfl rfl (fun _ _ _ _ h => h) (fun _ _ _ => trivial) (fun H locs hP hD hS => ?_)
                have hP : va_P D vwCl (wX g cA t u18.2 r c y d k q o m) H := hP
                have hD : va_D A (wX g cA t u18.2 r c y d k q o m) := hD
                exact w260  (c.1 - 1) (c.2.1 ((c.1 - 1).toNatClampNeg)) u18.1 u18.2 r c y d H locs ls hP hD hS (lv_sub hl [3, 2, 1] rfl) hE
              · have hE := if_t c17 hE
                refine lv_iconst (v := 1) hx hb dX12_inner_252 (by decide +kernel) ?_
                refine lv_goto (tgt := 260) hx hb dX12_inner_253 (by decide) ?_
                exact w260  (c.1 - 1) (c.2.1 ((c.1 - 1).toNatClampNeg)) 1 s r c y d H locs ls hP hD hS (lv_sub hl [3, 2, 1] rfl) hE
            have hE := if_f c16 hE
            by_cases c20 : x1 = 6
            · have hE := if_t c20 hE
              refine lv_tableIn (tgt := 246) (off := 86) hx hb dX12_inner_160 (by rw [c20]; decide +kernel) (by rw [c20]; decide +kernel) (by rw [c20]; decide +kernel) (by decide) ?_
              refine lv_aload_n hx hb dX12_inner_246 rfl (lv_at hl 3 rfl) ?_
              refine lv_iload_n hx hb dX12_inner_247 rfl (lv_at hl 4 rfl) ?_
              refine lv_iconst (v := 5) hx hb dX12_inner_248 (by decide +kernel) ?_
              refine lv_icmp_ne (tgt := 256) hx hb dX12_inner_249 (by decide) (fun c21 => ?_) (fun c21 => ?_)
              · have hE := if_f c21 hE
                refine lv_aload_n hx hb dX12_inner_256 rfl (lv_at hl 3 rfl) ?_
                obtain ⟨u22, h23, hE⟩ := bd_some hE
                refine cw_i (As := []) (rest := [.ref (g 0)]) (r := u22.1) (wc := (wX g cA t s r c y d k q o m)) ⟨hx, hb, hml, hown, hts⟩ (c_X12_pop l D cA g H.size t s r c y d k q o m u22 h23) (cwV 0 hts hX12_inner_X12_pop_390 rfl rfl rfl (by decide +kernel) ⟨Nat.le_of_ble_eq_true rfl, Nat.le_of_ble_eq_true rfl⟩) rfl hl.1 rfl (Nat.le_of_ble_eq_true rfl) dX12_inner_257 ⟨Nat.zero_le _, Nat.zero_le _⟩ hK hP hD hS hA (va_recv hK hP (ci := 10) (q0 := 0) rfl rfl) [g 0, g 1, g 2, g 3, g 4, g 5, g 6, g 7, g 8, g 9, g 10, g 11, g 12, g 13, g 14, g 15, g 16, g 17, g 18, g 19] rfl rfl (fun _ _ _ _ h => h) (fun _ _ _ => trivial) (fun H locs hP hD hS => ?_)
                have hP : va_P D vwCl (wX g cA t u22.2 r c y d k q o m) H := hP
                have hD : va_D A (wX g cA t u22.2 r c y d k q o m) := hD
                exact w260  (c.1 - 1) (c.2.1 ((c.1 - 1).toNatClampNeg)) u22.1 u22.2 r c y d H locs ls hP hD hS (lv_sub hl [3, 2, 1] rfl) hE
              · have hE := if_t c21 hE
                refine lv_iconst (v := 1) hx hb dX12_inner_252 (by decide +kernel) ?_
                refine lv_goto (tgt := 260) hx hb dX12_inner_253 (by decide) ?_
                exact w260  (c.1 - 1) (c.2.1 ((c.1 - 1).toNatClampNeg)) 1 s r c y d H locs ls hP hD hS (lv_sub hl [3, 2, 1] rfl) hE
            have hE := if_f c20 hE
            by_cases c24 : x1 = 2
            · refine lv_tableIn (tgt := 268) (off := 108) hx hb dX12_inner_160 (by rw [c24]; decide +kernel) (by rw [c24]; decide +kernel) (by rw [c24]; decide +kernel) (by decide) ?_
              exact w268  (c.1 - 1) (c.2.1 ((c.1 - 1).toNatClampNeg)) 0 s r c y d H locs ls hP hD hS (lv_sub hl [3, 2, 1, 0] rfl) hE
            by_cases c25 : x1 = 4
            · refine lv_tableIn (tgt := 268) (off := 108) hx hb dX12_inner_160 (by rw [c25]; decide +kernel) (by rw [c25]; decide +kernel) (by rw [c25]; decide +kernel) (by decide) ?_
              exact w268  (c.1 - 1) (c.2.1 ((c.1 - 1).toNatClampNeg)) 0 s r c y d H locs ls hP hD hS (lv_sub hl [3, 2, 1, 0] rfl) hE
            have tc7 := lv_neT c7 (show (1 : Int32).toInt = 1 by decide +kernel)
            have tc12 := lv_neT c12 (show (3 : Int32).toInt = 3 by decide +kernel)
            have tc16 := lv_neT c16 (show (5 : Int32).toInt = 5 by decide +kernel)
            have tc20 := lv_neT c20 (show (6 : Int32).toInt = 6 by decide +kernel)
            have tc24 := lv_neT c24 (show (2 : Int32).toInt = 2 by decide +kernel)
            have tc25 := lv_neT c25 (show (4 : Int32).toInt = 4 by decide +kernel)
            refine lv_tableOut (tgt := 268) hx hb dX12_inner_160 (by omega) (by decide) ?_
            exact w268  (c.1 - 1) (c.2.1 ((c.1 - 1).toNatClampNeg)) 0 s r c y d H locs ls hP hD hS (lv_sub hl [3, 2, 1, 0] rfl) hE
          · have hE := if_f c6 hE
            refine lv_bipush (v := (-9)) hx hb dX12_inner_153 (by decide +kernel) ?_
            obtain rfl := Option.some.inj hE
            exact rt_i hx hb hr hP hS rfl hlocks dX12_inner_155
      · have hE := if_t c4 hE
        refine lv_aload_n hx hb dX12_inner_93 rfl (lv_at hl 2 rfl) ?_
        refine va_get (D := D) (ci := 10) (v := .int d.1) (C := RX12) (T := TX12) (N := 40) hx hb hts inX12 hown hK hP 0 rfl rfl 25 (by decide) k5 (fun _ h9 => h9) rfl dX12_inner_94 ?_
        refine lv_if_eq (tgt := 115) hx hb dX12_inner_97 (by decide) (fun c26 => ?_) (fun c26 => ?_)
        · have hE := if_t c26 hE
          refine lv_bipush (v := (-32)) hx hb dX12_inner_115 (by decide +kernel) ?_
          obtain rfl := Option.some.inj hE
          exact rt_i hx hb hr hP hS rfl hlocks dX12_inner_117
        · have hE := if_f c26 hE
          refine lv_aload_n hx hb dX12_inner_100 rfl (lv_at hl 2 rfl) ?_
          refine va_get (D := D) (ci := 10) (v := .ref (g 12)) (C := RX12) (T := TX12) (N := 40) hx hb hts inX12 hown hK hP 0 rfl rfl 19 (by decide) k6 (fun _ h9 => h9) rfl dX12_inner_101 ?_
          refine lv_aload_n hx hb dX12_inner_104 rfl (lv_at hl 2 rfl) ?_
          refine va_get (D := D) (ci := 10) (v := .int d.1) (C := RX12) (T := TX12) (N := 40) hx hb hts inX12 hown hK hP 0 rfl rfl 25 (by decide) k5 (fun _ h9 => h9) rfl dX12_inner_105 ?_
          refine lv_iconst (v := 1) hx hb dX12_inner_108 (by decide +kernel) ?_
          refine lv_isub hx hb dX12_inner_109 ?_
          have ⟨c27, hE⟩ := ck_some hE
          refine va_iald hx hb hK hP 12 0 rfl rfl c27 dX12_inner_110 ?_
          refine lv_iconst (v := 2) hx hb dX12_inner_111 (by decide +kernel) ?_
          refine lv_icmp_eq (tgt := 118) hx hb dX12_inner_112 (by decide) (fun c28 => ?_) (fun c28 => ?_)
          · have hE := if_t c28 hE
            refine lv_aload_n hx hb dX12_inner_118 rfl (lv_at hl 2 rfl) ?_
            refine va_get (D := D) (ci := 10) (v := .ref (g 13)) (C := RX12) (T := TX12) (N := 40) hx hb hts inX12 hown hK hP 0 rfl rfl 20 (by decide) k7 (fun _ h9 => h9) rfl dX12_inner_119 ?_
            refine lv_aload_n hx hb dX12_inner_122 rfl (lv_at hl 2 rfl) ?_
            refine va_get (D := D) (ci := 10) (v := .int d.1) (C := RX12) (T := TX12) (N := 40) hx hb hts inX12 hown hK hP 0 rfl rfl 25 (by decide) k5 (fun _ h9 => h9) rfl dX12_inner_123 ?_
            refine lv_iconst (v := 1) hx hb dX12_inner_126 (by decide +kernel) ?_
            refine lv_isub hx hb dX12_inner_127 ?_
            refine lv_iload_n hx hb dX12_inner_128 rfl (lv_at hl 0 rfl) ?_
            have ⟨c29, hE⟩ := ck_some hE
            refine va_iast hx hb hK hP hD hS 13 0 rfl rfl c29 dX12_inner_129 (fun H locs hP hD hS => ?_)
            have hP : va_P D vwCl (wX g cA t s r c y ((d.1, d.2.1, d.2.2.1, d.2.2.2.1, d.2.2.2.2.1, upd d.2.2.2.2.2.1 ((d.1 - 1).toNatClampNeg) (c.2.1 ((c.1 - 1).toNatClampNeg)), d.2.2.2.2.2.2.1, d.2.2.2.2.2.2.2.1, d.2.2.2.2.2.2.2.2.1, d.2.2.2.2.2.2.2.2.2)) k q o m) H := hP
            have hD : va_D A (wX g cA t s r c y ((d.1, d.2.1, d.2.2.1, d.2.2.2.1, d.2.2.2.2.1, upd d.2.2.2.2.2.1 ((d.1 - 1).toNatClampNeg) (c.2.1 ((c.1 - 1).toNatClampNeg)), d.2.2.2.2.2.2.1, d.2.2.2.2.2.2.2.1, d.2.2.2.2.2.2.2.2.1, d.2.2.2.2.2.2.2.2.2)) k q o m) := hD
            refine lv_aload_n hx hb dX12_inner_130 rfl (lv_at hl 2 rfl) ?_
            refine lv_dup hx hb dX12_inner_131 rfl ?_
            refine va_get (D := D) (ci := 10) (v := .int c.1) (C := RX12) (T := TX12) (N := 40) hx hb hts inX12 hown hK hP 0 rfl rfl 15 (by decide) k0 (fun _ h9 => h9) rfl dX12_inner_132 ?_
            refine lv_iconst (v := 1) hx hb dX12_inner_135 (by decide +kernel) ?_
            refine lv_isub hx hb dX12_inner_136 ?_
            refine va_put (D := D) (ci := 10) (v := .int (c.1 - 1)) (ty := .int) (C := RX12) (T := TX12) (N := 40) hx hb hts inX12 tyX12 tyX12_ok nmX12 hown hK hP hD hS 0 rfl rfl 15 (by decide) k0 (fun _ h9 => h9) rfl (by decide +kernel) rfl rfl (Nat.le_of_ble_eq_true rfl) dX12_inner_137 (fun H locs hP hD hS => ?_)
            have hP : va_P D vwCl (wX g cA t s r ((c.1 - 1, c.2.1, c.2.2.1, c.2.2.2)) y ((d.1, d.2.1, d.2.2.1, d.2.2.2.1, d.2.2.2.2.1, upd d.2.2.2.2.2.1 ((d.1 - 1).toNatClampNeg) (c.2.1 ((c.1 - 1).toNatClampNeg)), d.2.2.2.2.2.2.1, d.2.2.2.2.2.2.2.1, d.2.2.2.2.2.2.2.2.1, d.2.2.2.2.2.2.2.2.2)) k q o m) H := hP
            have hD : va_D A (wX g cA t s r ((c.1 - 1, c.2.1, c.2.2.1, c.2.2.2)) y ((d.1, d.2.1, d.2.2.1, d.2.2.2.1, d.2.2.2.2.1, upd d.2.2.2.2.2.1 ((d.1 - 1).toNatClampNeg) (c.2.1 ((c.1 - 1).toNatClampNeg)), d.2.2.2.2.2.2.1, d.2.2.2.2.2.2.2.1, d.2.2.2.2.2.2.2.2.1, d.2.2.2.2.2.2.2.2.2)) k q o m) := hD
            refine lv_iconst (v := 0) hx hb dX12_inner_140 (by decide +kernel) ?_
            obtain rfl := Option.some.inj hE
            exact rt_i hx hb hr hP hS rfl hlocks dX12_inner_141
          · have hE := if_f c28 hE
            refine lv_bipush (v := (-32)) hx hb dX12_inner_115 (by decide +kernel) ?_
            obtain rfl := Option.some.inj hE
            exact rt_i hx hb hr hP hS rfl hlocks dX12_inner_117
    · have hE := if_t c3 hE
      refine lv_aload_n hx hb dX12_inner_35 rfl (lv_at hl 2 rfl) ?_
      refine va_get (D := D) (ci := 10) (v := .int r.1) (C := RX12) (T := TX12) (N := 40) hx hb hts inX12 hown hK hP 0 rfl rfl 11 (by decide) k8 (fun _ h9 => h9) rfl dX12_inner_36 ?_
      refine lv_bipush (v := 28) hx hb dX12_inner_39 (by decide +kernel) ?_
      refine lv_icmp_le (tgt := 47) hx hb dX12_inner_41 (by decide) (fun c30 => ?_) (fun c30 => ?_)
      · have hE := if_t c30 hE
        refine lv_aload_n hx hb dX12_inner_47 rfl (lv_at hl 2 rfl) ?_
        refine va_get (D := D) (ci := 10) (v := .ref (g 6)) (C := RX12) (T := TX12) (N := 40) hx hb hts inX12 hown hK hP 0 rfl rfl 10 (by decide) k9 (fun _ h9 => h9) rfl dX12_inner_48 ?_
        refine lv_aload_n hx hb dX12_inner_51 rfl (lv_at hl 2 rfl) ?_
        refine va_get (D := D) (ci := 10) (v := .int r.1) (C := RX12) (T := TX12) (N := 40) hx hb hts inX12 hown hK hP 0 rfl rfl 11 (by decide) k8 (fun _ h9 => h9) rfl dX12_inner_52 ?_
        refine lv_iconst (v := 1) hx hb dX12_inner_55 (by decide +kernel) ?_
        refine lv_iadd hx hb dX12_inner_56 ?_
        refine lv_aload_n hx hb dX12_inner_57 rfl (lv_at hl 2 rfl) ?_
        obtain ⟨u31, h32, hE⟩ := bd_some hE
        refine cw_i (As := []) (rest := [.int (r.1 + 1), .ref (g 6)]) (r := u31.1) (wc := (wX g cA t s r c y d k q o m)) ⟨hx, hb, hml, hown, hts⟩ (c_X12_pop l D cA g H.size t s r c y d k q o m u31 h32) (cwV 0 hts hX12_inner_X12_pop_390 rfl rfl rfl (by decide +kernel) ⟨Nat.le_of_ble_eq_true rfl, Nat.le_of_ble_eq_true rfl⟩) rfl hl.1 rfl (Nat.le_of_ble_eq_true rfl) dX12_inner_58 ⟨Nat.zero_le _, Nat.zero_le _⟩ hK hP hD hS hA (va_recv hK hP (ci := 10) (q0 := 0) rfl rfl) [g 0, g 1, g 2, g 3, g 4, g 5, g 6, g 7, g 8, g 9, g 10, g 11, g 12, g 13, g 14, g 15, g 16, g 17, g 18, g 19] rfl rfl (fun _ _ _ _ h => h) (fun _ _ _ => trivial) (fun H locs hP hD hS => ?_)
        have hP : va_P D vwCl (wX g cA t u31.2 r c y d k q o m) H := hP
        have hD : va_D A (wX g cA t u31.2 r c y d k q o m) := hD
        have ⟨c33, hE⟩ := ck_some hE
        refine va_iast hx hb hK hP hD hS 6 0 rfl rfl c33 dX12_inner_61 (fun H locs hP hD hS => ?_)
        have hP : va_P D vwCl (wX g cA t u31.2 ((r.1, upd r.2 ((r.1 + 1).toNatClampNeg) u31.1)) c y d k q o m) H := hP
        have hD : va_D A (wX g cA t u31.2 ((r.1, upd r.2 ((r.1 + 1).toNatClampNeg) u31.1)) c y d k q o m) := hD
        refine lv_aload_n hx hb dX12_inner_62 rfl (lv_at hl 2 rfl) ?_
        refine va_get (D := D) (ci := 10) (v := .ref (g 6)) (C := RX12) (T := TX12) (N := 40) hx hb hts inX12 hown hK hP 0 rfl rfl 10 (by decide) k9 (fun _ h9 => h9) rfl dX12_inner_63 ?_
        refine lv_aload_n hx hb dX12_inner_66 rfl (lv_at hl 2 rfl) ?_
        refine va_get (D := D) (ci := 10) (v := .int r.1) (C := RX12) (T := TX12) (N := 40) hx hb hts inX12 hown hK hP 0 rfl rfl 11 (by decide) k8 (fun _ h9 => h9) rfl dX12_inner_67 ?_
        refine lv_aload_n hx hb dX12_inner_70 rfl (lv_at hl 2 rfl) ?_
        obtain ⟨u34, h35, hE⟩ := bd_some hE
        refine cw_i (As := []) (rest := [.int r.1, .ref (g 6)]) (r := u34.1) (wc := (wX g cA t u31.2 (((r.1, upd r.2 ((r.1 + 1).toNatClampNeg) u31.1))) c y d k q o m)) ⟨hx, hb, hml, hown, hts⟩ (c_X12_pop l D cA g H.size t u31.2 ((r.1, upd r.2 ((r.1 + 1).toNatClampNeg) u31.1)) c y d k q o m u34 h35) (cwV 0 hts hX12_inner_X12_pop_390 rfl rfl rfl (by decide +kernel) ⟨Nat.le_of_ble_eq_true rfl, Nat.le_of_ble_eq_true rfl⟩) rfl hl.1 rfl (Nat.le_of_ble_eq_true rfl) dX12_inner_71 ⟨Nat.zero_le _, Nat.zero_le _⟩ hK hP hD hS hA (va_recv hK hP (ci := 10) (q0 := 0) rfl rfl) [g 0, g 1, g 2, g 3, g 4, g 5, g 6, g 7, g 8, g 9, g 10, g 11, g 12, g 13, g 14, g 15, g 16, g 17, g 18, g 19] rfl rfl (fun _ _ _ _ h => h) (fun _ _ _ => trivial) (fun H locs hP hD hS => ?_)
        have hP : va_P D vwCl (wX g cA t u34.2 ((r.1, upd r.2 ((r.1 + 1).toNatClampNeg) u31.1)) c y d k q o m) H := hP
        have hD : va_D A (wX g cA t u34.2 ((r.1, upd r.2 ((r.1 + 1).toNatClampNeg) u31.1)) c y d k q o m) := hD
        have ⟨c36, hE⟩ := ck_some hE
        refine va_iast hx hb hK hP hD hS 6 0 rfl rfl c36 dX12_inner_74 (fun H locs hP hD hS => ?_)
        have hP : va_P D vwCl (wX g cA t u34.2 ((r.1, upd (upd r.2 ((r.1 + 1).toNatClampNeg) u31.1) r.1.toNatClampNeg u34.1)) c y d k q o m) H := hP
        have hD : va_D A (wX g cA t u34.2 ((r.1, upd (upd r.2 ((r.1 + 1).toNatClampNeg) u31.1) r.1.toNatClampNeg u34.1)) c y d k q o m) := hD
        refine lv_aload_n hx hb dX12_inner_75 rfl (lv_at hl 2 rfl) ?_
        refine lv_dup hx hb dX12_inner_76 rfl ?_
        refine va_get (D := D) (ci := 10) (v := .int r.1) (C := RX12) (T := TX12) (N := 40) hx hb hts inX12 hown hK hP 0 rfl rfl 11 (by decide) k8 (fun _ h9 => h9) rfl dX12_inner_77 ?_
        refine lv_iconst (v := 2) hx hb dX12_inner_80 (by decide +kernel) ?_
        refine lv_iadd hx hb dX12_inner_81 ?_
        refine va_put (D := D) (ci := 10) (v := .int (r.1 + 2)) (ty := .int) (C := RX12) (T := TX12) (N := 40) hx hb hts inX12 tyX12 tyX12_ok nmX12 hown hK hP hD hS 0 rfl rfl 11 (by decide) k8 (fun _ h9 => h9) rfl (by decide +kernel) rfl rfl (Nat.le_of_ble_eq_true rfl) dX12_inner_82 (fun H locs hP hD hS => ?_)
        have hP : va_P D vwCl (wX g cA t u34.2 ((r.1 + 2, upd (upd r.2 ((r.1 + 1).toNatClampNeg) u31.1) r.1.toNatClampNeg u34.1)) c y d k q o m) H := hP
        have hD : va_D A (wX g cA t u34.2 ((r.1 + 2, upd (upd r.2 ((r.1 + 1).toNatClampNeg) u31.1) r.1.toNatClampNeg u34.1)) c y d k q o m) := hD
        refine lv_iconst (v := 0) hx hb dX12_inner_85 (by decide +kernel) ?_
        obtain rfl := Option.some.inj hE
        exact rt_i hx hb hr hP hS rfl hlocks dX12_inner_86
      · have hE := if_f c30 hE
        refine lv_bipush (v := (-5)) hx hb dX12_inner_44 (by decide +kernel) ?_
        obtain rfl := Option.some.inj hE
        exact rt_i hx hb hr hP hS rfl hlocks dX12_inner_46
  · have hE := if_t c2 hE
    refine lv_aload_n hx hb dX12_inner_18 rfl (lv_at hl 2 rfl) ?_
    refine lv_dup hx hb dX12_inner_19 rfl ?_
    refine va_get (D := D) (ci := 10) (v := .int c.1) (C := RX12) (T := TX12) (N := 40) hx hb hts inX12 hown hK hP 0 rfl rfl 15 (by decide) k0 (fun _ h9 => h9) rfl dX12_inner_20 ?_
    refine lv_iconst (v := 1) hx hb dX12_inner_23 (by decide +kernel) ?_
    refine lv_isub hx hb dX12_inner_24 ?_
    refine va_put (D := D) (ci := 10) (v := .int (c.1 - 1)) (ty := .int) (C := RX12) (T := TX12) (N := 40) hx hb hts inX12 tyX12 tyX12_ok nmX12 hown hK hP hD hS 0 rfl rfl 15 (by decide) k0 (fun _ h9 => h9) rfl (by decide +kernel) rfl rfl (Nat.le_of_ble_eq_true rfl) dX12_inner_25 (fun H locs hP hD hS => ?_)
    have hP : va_P D vwCl (wX g cA t s r ((c.1 - 1, c.2.1, c.2.2.1, c.2.2.2)) y d k q o m) H := hP
    have hD : va_D A (wX g cA t s r ((c.1 - 1, c.2.1, c.2.2.1, c.2.2.2)) y d k q o m) := hD
    refine lv_iconst (v := 0) hx hb dX12_inner_28 (by decide +kernel) ?_
    obtain rfl := Option.some.inj hE
    exact rt_i hx hb hr hP hS rfl hlocks dX12_inner_29
set_option maxHeartbeats 4000000 in
set_option maxRecDepth 100000 in
theorem c_X12_swap (l : Launch) (D : va_G) (cA : Nat → ClassId) (g : Nat → Nat) (sz : Nat) (x1 : Int32) (x2 : Int32) (t : mT) (s : mS) (r : mR) (c : mC) (y : mY) (d : mD) (k : mK) (q : mP) (o : mO) (m : mM) (u : Int32 × mS) (hE : f_X12_swap x1 x2 s = some u) : Met l yX12_swap wsX12_swap ({ frames := 0, cells := 0, slots := 0, locals := 0 }) (va_Pc [.ref (g 0), .int x1, .int x2] (PRE D cA (wX g cA t s r c y d k q o m) sz (fun _ => True))) (cQi D (wX g cA t u.2 r c y d k q o m) (va_A (wX g cA t s r c y d k q o m) sz) u.1) 0 0 (va_A (wX g cA t s r c y d k q o m) sz) := by
  refine Met.ofW (cc := cX12_swap) (maxL := 4) (ret := (some .int)) (by decide) rfl ?_
  intro PP EE S0 MM args below meth CC S1 B hml hv
  obtain ⟨rfl, hsz, hP, hK, hD0, hX⟩ := hv
  have hx := B.exec
  have hb := B.bytes
  have hr := B.returns
  have hts := atoms_spec (ws := wsX12_swap) B.pre
  have hown : S0.vm.findClass RX12 = some MM.cls := findClass_of_methodNamed B.named
  have hlocks := B.notSynchronized
  subst hsz
  have hD := hD0.self (sz := S0.heap.size)
  generalize hAe : va_A (wX g cA t s r c y d k q o m) S0.heap.size = A at hD ⊢
  have hA : ∀ q : Nat, S0.heap.size ≤ q → A q := fun q h => by rw [← hAe]; exact Or.inr h
  have hS : va_S A S0.heap S0.heap [] := va_S.rf
  have k0 := hts (.fieldLink RX12 169 "WordForgeModel" "stack" "[I") (List.mem_of_getElem? (i := 1) rfl)
  have inX12 : ∀ w ∈ wsX120, w ∈ wsX12_swap := fun _ h => List.mem_cons_of_mem _ (List.mem_append_right _ h)
  have hl := lv_entry ([.ref (g 0), .int x1, .int x2]) (n := 4) (Nat.le_of_ble_eq_true rfl)
  rw [lg_entry_eq]
  generalize (lg_sl ([.ref (g 0), .int x1, .int x2]) ++ List.replicate (4 - (lg_sl ([.ref (g 0), .int x1, .int x2])).length) Slot.unset).toArray = ls at hl ⊢
  have hl : lv_has ls 4 [(0, .ref (g 0)), (1, .int x1), (2, .int x2)] := hl
  unfold f_X12_swap at hE
  suffices main : ∀ (H : Heap) (locs : List Loc) (ls : Array Slot), va_P D vwCl (wX g cA t s r c y d k q o m) H → va_D A (wX g cA t s r c y d k q o m) → va_S A S0.heap H locs → lv_has ls 4 [(0, .ref (g 0)), (1, .int x1), (2, .int x2)] → W PP l EE (headSpec wsX12_swap ({ frames := 0, cells := 0, slots := 0, locals := 0 })).room S0 MM (#[.ref (g 0), .int x1, .int x2] : Array Value) below meth CC H locs 0 0 (MQ below (cQi D (wX g cA t u.2 r c y d k q o m) A u.1) (#[.ref (g 0), .int x1, .int x2] : Array Value) S0 0 0 A) (F0 MM 0 ls []) from main _ _ _ hP hD hS hl
  intro H locs ls hP hD hS hl
  refine lv_aload_n hx hb dX12_swap_0 rfl (lv_at hl 0 rfl) ?_
  refine va_get (D := D) (ci := 10) (v := .ref (g 5)) (C := RX12) (T := TX12) (N := 40) hx hb hts inX12 hown hK hP 0 rfl rfl 8 (by decide) k0 (fun _ h9 => h9) rfl dX12_swap_1 ?_
  refine lv_iload_n hx hb dX12_swap_4 rfl (lv_at hl 1 rfl) ?_
  have ⟨c1, hE⟩ := ck_some hE
  refine va_iald hx hb hK hP 5 0 rfl rfl c1 dX12_swap_5 ?_
  refine lv_istore_n (lv' := [(3, .int (s.2 x1.toNatClampNeg)), (0, .ref (g 0)), (1, .int x1), (2, .int x2)]) hx hb dX12_swap_6 rfl hl (by decide) rfl (fun ls hl => ?_)
  refine lv_aload_n hx hb dX12_swap_7 rfl (lv_at hl 1 rfl) ?_
  refine va_get (D := D) (ci := 10) (v := .ref (g 5)) (C := RX12) (T := TX12) (N := 40) hx hb hts inX12 hown hK hP 0 rfl rfl 8 (by decide) k0 (fun _ h9 => h9) rfl dX12_swap_8 ?_
  refine lv_iload_n hx hb dX12_swap_11 rfl (lv_at hl 2 rfl) ?_
  refine lv_aload_n hx hb dX12_swap_12 rfl (lv_at hl 1 rfl) ?_
  refine va_get (D := D) (ci := 10) (v := .ref (g 5)) (C := RX12) (T := TX12) (N := 40) hx hb hts inX12 hown hK hP 0 rfl rfl 8 (by decide) k0 (fun _ h9 => h9) rfl dX12_swap_13 ?_
  refine lv_iload_n hx hb dX12_swap_16 rfl (lv_at hl 3 rfl) ?_
  have ⟨c2, hE⟩ := ck_some hE
  refine va_iald hx hb hK hP 5 0 rfl rfl c2 dX12_swap_17 ?_
  have ⟨c3, hE⟩ := ck_some hE
  refine va_iast hx hb hK hP hD hS 5 0 rfl rfl c3 dX12_swap_18 (fun H locs hP hD hS => ?_)
  have hP : va_P D vwCl (wX g cA t ((s.1, upd s.2 x1.toNatClampNeg (s.2 x2.toNatClampNeg))) r c y d k q o m) H := hP
  have hD : va_D A (wX g cA t ((s.1, upd s.2 x1.toNatClampNeg (s.2 x2.toNatClampNeg))) r c y d k q o m) := hD
  refine lv_aload_n hx hb dX12_swap_19 rfl (lv_at hl 1 rfl) ?_
  refine va_get (D := D) (ci := 10) (v := .ref (g 5)) (C := RX12) (T := TX12) (N := 40) hx hb hts inX12 hown hK hP 0 rfl rfl 8 (by decide) k0 (fun _ h9 => h9) rfl dX12_swap_20 ?_
  refine lv_iload_n hx hb dX12_swap_23 rfl (lv_at hl 3 rfl) ?_
  refine lv_iload_n hx hb dX12_swap_24 rfl (lv_at hl 0 rfl) ?_
  have ⟨c4, hE⟩ := ck_some hE
  refine va_iast hx hb hK hP hD hS 5 0 rfl rfl c4 dX12_swap_25 (fun H locs hP hD hS => ?_)
  have hP : va_P D vwCl (wX g cA t ((s.1, upd (upd s.2 x1.toNatClampNeg (s.2 x2.toNatClampNeg)) x2.toNatClampNeg (s.2 x1.toNatClampNeg))) r c y d k q o m) H := hP
  have hD : va_D A (wX g cA t ((s.1, upd (upd s.2 x1.toNatClampNeg (s.2 x2.toNatClampNeg)) x2.toNatClampNeg (s.2 x1.toNatClampNeg))) r c y d k q o m) := hD
  refine lv_iconst (v := 0) hx hb dX12_swap_26 (by decide +kernel) ?_
  obtain rfl := Option.some.inj hE
  exact rt_i hx hb hr hP hS rfl hlocks dX12_swap_27
set_option maxRecDepth 20000 in
theorem hX12_stores_X12_pop_390 : GoodIn wsX12_stores (wsV RX12 390 RX12 yX12_pop wsX12_pop) := goodIn_r _ [3, 4, 5, 6, 7, 8, 9, 14, 15, 16, 17, 18, 19, 20, 21, 22, 23, 24, 25, 26, 27, 28, 29, 30, 31, 32, 33, 34, 35, 36, 37, 38, 39, 40, 41, 42, 43, 44, 45, 46, 47, 48, 49, 50, 51, 52, 53] rfl (by decide +kernel)
set_option maxRecDepth 20000 in
theorem hX12_stores_X12_push_296 : GoodIn wsX12_stores (wsV RX12 296 RX12 yX12_push wsX12_push) := goodIn_r _ [10, 11, 12, 6, 13, 9, 8, 14, 15, 16, 17, 18, 19, 20, 21, 22, 23, 24, 25, 26, 27, 28, 29, 30, 31, 32, 33, 34, 35, 36, 37, 38, 39, 40, 41, 42, 43, 44, 45, 46, 47, 48, 49, 50, 51, 52, 53] rfl (by decide +kernel)
set_option maxHeartbeats 4000000 in
set_option maxRecDepth 100000 in
theorem c_X12_stores (l : Launch) (D : va_G) (cA : Nat → ClassId) (g : Nat → Nat) (sz : Nat) (x1 : Int32) (x2 : Int32) (t : mT) (s : mS) (r : mR) (c : mC) (y : mY) (d : mD) (k : mK) (q : mP) (o : mO) (m : mM) (u : Int32 × mS × mR) (hE : f_X12_stores x1 x2 s r = some u) : Met l yX12_stores wsX12_stores ({ frames := 1, cells := 0, slots := 0, locals := 21 }) (va_Pc [.ref (g 0), .int x1, .int x2] (PRE D cA (wX g cA t s r c y d k q o m) sz (fun _ => True))) (cQi D (wX g cA t u.2.1 u.2.2 c y d k q o m) (va_A (wX g cA t s r c y d k q o m) sz) u.1) 0 0 (va_A (wX g cA t s r c y d k q o m) sz) := by
  refine Met.ofW (cc := cX12_stores) (maxL := 3) (ret := (some .int)) (by decide) rfl ?_
  intro PP EE S0 MM args below meth CC S1 B hml hv
  obtain ⟨rfl, hsz, hP, hK, hD0, hX⟩ := hv
  have hx := B.exec
  have hb := B.bytes
  have hr := B.returns
  have hts := atoms_spec (ws := wsX12_stores) B.pre
  have hown : S0.vm.findClass RX12 = some MM.cls := findClass_of_methodNamed B.named
  have hlocks := B.notSynchronized
  subst hsz
  have hD := hD0.self (sz := S0.heap.size)
  generalize hAe : va_A (wX g cA t s r c y d k q o m) S0.heap.size = A at hD ⊢
  have hA : ∀ q : Nat, S0.heap.size ≤ q → A q := fun q h => by rw [← hAe]; exact Or.inr h
  have hS : va_S A S0.heap S0.heap [] := va_S.rf
  have k0 := hts (.fieldLink RX12 335 "WordForgeModel" "deep" "I") (List.mem_of_getElem? (i := 1) rfl)
  have inX12 : ∀ w ∈ wsX120, w ∈ wsX12_stores := fun _ h => List.mem_cons_of_mem _ (List.mem_append_right _ h)
  have k2 := hts (.fieldLink RX12 172 "WordForgeModel" "store" "[I") (List.mem_of_getElem? (i := 2) rfl)
  have hl := lv_entry ([.ref (g 0), .int x1, .int x2]) (n := 3) (Nat.le_of_ble_eq_true rfl)
  rw [lg_entry_eq]
  generalize (lg_sl ([.ref (g 0), .int x1, .int x2]) ++ List.replicate (3 - (lg_sl ([.ref (g 0), .int x1, .int x2])).length) Slot.unset).toArray = ls at hl ⊢
  have hl : lv_has ls 3 [(0, .ref (g 0)), (1, .int x1), (2, .int x2)] := hl
  unfold f_X12_stores at hE
  suffices main : ∀ (H : Heap) (locs : List Loc) (ls : Array Slot), va_P D vwCl (wX g cA t s r c y d k q o m) H → va_D A (wX g cA t s r c y d k q o m) → va_S A S0.heap H locs → lv_has ls 3 [(0, .ref (g 0)), (1, .int x1), (2, .int x2)] → W PP l EE (headSpec wsX12_stores ({ frames := 1, cells := 0, slots := 0, locals := 21 })).room S0 MM (#[.ref (g 0), .int x1, .int x2] : Array Value) below meth CC H locs 0 0 (MQ below (cQi D (wX g cA t u.2.1 u.2.2 c y d k q o m) A u.1) (#[.ref (g 0), .int x1, .int x2] : Array Value) S0 0 0 A) (F0 MM 0 ls []) from main _ _ _ hP hD hS hl
  intro H locs ls hP hD hS hl
  refine lv_iload_n hx hb dX12_stores_0 rfl (lv_at hl 1 rfl) ?_
  by_cases c1 : x1 = 17
  · have hE := if_t c1 hE
    refine lv_tableIn (tgt := 36) (off := 35) hx hb dX12_stores_1 (by rw [c1]; decide +kernel) (by rw [c1]; decide +kernel) (by rw [c1]; decide +kernel) (by decide) ?_
    refine lv_aload_n hx hb dX12_stores_36 rfl (lv_at hl 0 rfl) ?_
    refine va_get (D := D) (ci := 10) (v := .int r.1) (C := RX12) (T := TX12) (N := 40) hx hb hts inX12 hown hK hP 0 rfl rfl 11 (by decide) k0 (fun _ h9 => h9) rfl dX12_stores_37 ?_
    refine lv_bipush (v := 30) hx hb dX12_stores_40 (by decide +kernel) ?_
    refine lv_icmp_ne (tgt := 48) hx hb dX12_stores_42 (by decide) (fun c2 => ?_) (fun c2 => ?_)
    · have hE := if_f c2 hE
      refine lv_aload_n hx hb dX12_stores_48 rfl (lv_at hl 0 rfl) ?_
      refine va_get (D := D) (ci := 10) (v := .ref (g 6)) (C := RX12) (T := TX12) (N := 40) hx hb hts inX12 hown hK hP 0 rfl rfl 10 (by decide) k2 (fun _ h9 => h9) rfl dX12_stores_49 ?_
      refine lv_aload_n hx hb dX12_stores_52 rfl (lv_at hl 0 rfl) ?_
      refine va_get (D := D) (ci := 10) (v := .int r.1) (C := RX12) (T := TX12) (N := 40) hx hb hts inX12 hown hK hP 0 rfl rfl 11 (by decide) k0 (fun _ h9 => h9) rfl dX12_stores_53 ?_
      refine lv_aload_n hx hb dX12_stores_56 rfl (lv_at hl 0 rfl) ?_
      obtain ⟨u3, h4, hE⟩ := bd_some hE
      refine cw_i (As := []) (rest := [.int r.1, .ref (g 6)]) (r := u3.1) (wc := (wX g cA t s r c y d k q o m)) ⟨hx, hb, hml, hown, hts⟩ (c_X12_pop l D cA g H.size t s r c y d k q o m u3 h4) (cwV 0 hts hX12_stores_X12_pop_390 rfl rfl rfl (by decide +kernel) ⟨Nat.le_of_ble_eq_true rfl, Nat.le_of_ble_eq_true rfl⟩) rfl hl.1 rfl (Nat.le_of_ble_eq_true rfl) dX12_stores_57 ⟨Nat.zero_le _, Nat.zero_le _⟩ hK hP hD hS hA (va_recv hK hP (ci := 10) (q0 := 0) rfl rfl) [g 0, g 1, g 2, g 3, g 4, g 5, g 6, g 7, g 8, g 9, g 10, g 11, g 12, g 13, g 14, g 15, g 16, g 17, g 18, g 19] rfl rfl (fun _ _ _ _ h => h) (fun _ _ _ => trivial) (fun H locs hP hD hS => ?_)
      have hP : va_P D vwCl (wX g cA t u3.2 r c y d k q o m) H := hP
      have hD : va_D A (wX g cA t u3.2 r c y d k q o m) := hD
      have ⟨c5, hE⟩ := ck_some hE
      refine va_iast hx hb hK hP hD hS 6 0 rfl rfl c5 dX12_stores_60 (fun H locs hP hD hS => ?_)
      have hP : va_P D vwCl (wX g cA t u3.2 ((r.1, upd r.2 r.1.toNatClampNeg u3.1)) c y d k q o m) H := hP
      have hD : va_D A (wX g cA t u3.2 ((r.1, upd r.2 r.1.toNatClampNeg u3.1)) c y d k q o m) := hD
      refine lv_aload_n hx hb dX12_stores_61 rfl (lv_at hl 0 rfl) ?_
      refine lv_dup hx hb dX12_stores_62 rfl ?_
      refine va_get (D := D) (ci := 10) (v := .int r.1) (C := RX12) (T := TX12) (N := 40) hx hb hts inX12 hown hK hP 0 rfl rfl 11 (by decide) k0 (fun _ h9 => h9) rfl dX12_stores_63 ?_
      refine lv_iconst (v := 1) hx hb dX12_stores_66 (by decide +kernel) ?_
      refine lv_iadd hx hb dX12_stores_67 ?_
      refine va_put (D := D) (ci := 10) (v := .int (r.1 + 1)) (ty := .int) (C := RX12) (T := TX12) (N := 40) hx hb hts inX12 tyX12 tyX12_ok nmX12 hown hK hP hD hS 0 rfl rfl 11 (by decide) k0 (fun _ h9 => h9) rfl (by decide +kernel) rfl rfl (Nat.le_of_ble_eq_true rfl) dX12_stores_68 (fun H locs hP hD hS => ?_)
      have hP : va_P D vwCl (wX g cA t u3.2 ((r.1 + 1, upd r.2 r.1.toNatClampNeg u3.1)) c y d k q o m) H := hP
      have hD : va_D A (wX g cA t u3.2 ((r.1 + 1, upd r.2 r.1.toNatClampNeg u3.1)) c y d k q o m) := hD
      refine lv_iconst (v := 0) hx hb dX12_stores_71 (by decide +kernel) ?_
      obtain rfl := Option.some.inj hE
      exact rt_i hx hb hr hP hS rfl hlocks dX12_stores_72
    · have hE := if_t c2 hE
      refine lv_bipush (v := (-5)) hx hb dX12_stores_45 (by decide +kernel) ?_
      obtain rfl := Option.some.inj hE
      exact rt_i hx hb hr hP hS rfl hlocks dX12_stores_47
  have hE := if_f c1 hE
  by_cases c6 : x1 = 18
  · have hE := if_t c6 hE
    refine lv_tableIn (tgt := 73) (off := 72) hx hb dX12_stores_1 (by rw [c6]; decide +kernel) (by rw [c6]; decide +kernel) (by rw [c6]; decide +kernel) (by decide) ?_
    refine lv_iload_n hx hb dX12_stores_73 rfl (lv_at hl 2 rfl) ?_
    refine lv_if_eq (tgt := 80) hx hb dX12_stores_74 (by decide) (fun c7 => ?_) (fun c7 => ?_)
    · have hE := if_t c7 hE
      refine lv_aload_n hx hb dX12_stores_80 rfl (lv_at hl 0 rfl) ?_
      refine lv_dup hx hb dX12_stores_81 rfl ?_
      refine va_get (D := D) (ci := 10) (v := .int r.1) (C := RX12) (T := TX12) (N := 40) hx hb hts inX12 hown hK hP 0 rfl rfl 11 (by decide) k0 (fun _ h9 => h9) rfl dX12_stores_82 ?_
      refine lv_iconst (v := 1) hx hb dX12_stores_85 (by decide +kernel) ?_
      refine lv_isub hx hb dX12_stores_86 ?_
      refine va_put (D := D) (ci := 10) (v := .int (r.1 - 1)) (ty := .int) (C := RX12) (T := TX12) (N := 40) hx hb hts inX12 tyX12 tyX12_ok nmX12 hown hK hP hD hS 0 rfl rfl 11 (by decide) k0 (fun _ h9 => h9) rfl (by decide +kernel) rfl rfl (Nat.le_of_ble_eq_true rfl) dX12_stores_87 (fun H locs hP hD hS => ?_)
      have hP : va_P D vwCl (wX g cA t s ((r.1 - 1, r.2)) c y d k q o m) H := hP
      have hD : va_D A (wX g cA t s ((r.1 - 1, r.2)) c y d k q o m) := hD
      refine lv_aload_n hx hb dX12_stores_90 rfl (lv_at hl 0 rfl) ?_
      refine lv_aload_n hx hb dX12_stores_91 rfl (lv_at hl 0 rfl) ?_
      refine va_get (D := D) (ci := 10) (v := .ref (g 6)) (C := RX12) (T := TX12) (N := 40) hx hb hts inX12 hown hK hP 0 rfl rfl 10 (by decide) k2 (fun _ h9 => h9) rfl dX12_stores_92 ?_
      refine lv_aload_n hx hb dX12_stores_95 rfl (lv_at hl 0 rfl) ?_
      refine va_get (D := D) (ci := 10) (v := .int (r.1 - 1)) (C := RX12) (T := TX12) (N := 40) hx hb hts inX12 hown hK hP 0 rfl rfl 11 (by decide) k0 (fun _ h9 => h9) rfl dX12_stores_96 ?_
      have ⟨c8, hE⟩ := ck_some hE
      refine va_iald hx hb hK hP 6 0 rfl rfl c8 dX12_stores_99 ?_
      obtain ⟨u9, h10, hE⟩ := bd_some hE
      refine cw_i (As := [.int (r.2 ((r.1 - 1).toNatClampNeg))]) (rest := []) (r := u9.1) (wc := (wX g cA t s (((r.1 - 1, r.2))) c y d k q o m)) ⟨hx, hb, hml, hown, hts⟩ (c_X12_push l D cA g H.size (r.2 ((r.1 - 1).toNatClampNeg)) t s ((r.1 - 1, r.2)) c y d k q o m u9 h10) (cwV 1 hts hX12_stores_X12_push_296 rfl rfl rfl (by decide +kernel) ⟨Nat.le_of_ble_eq_true rfl, Nat.le_of_ble_eq_true rfl⟩) rfl hl.1 rfl (Nat.le_of_ble_eq_true rfl) dX12_stores_100 ⟨Nat.zero_le _, Nat.zero_le _⟩ hK hP hD hS hA (va_recv hK hP (ci := 10) (q0 := 0) rfl rfl) [g 0, g 1, g 2, g 3, g 4, g 5, g 6, g 7, g 8, g 9, g 10, g 11, g 12, g 13, g 14, g 15, g 16, g 17, g 18, g 19] rfl rfl (fun _ _ _ _ h => h) (fun _ _ _ => trivial) (fun H locs hP hD hS => ?_)
      have hP : va_P D vwCl (wX g cA t u9.2 ((r.1 - 1, r.2)) c y d k q o m) H := hP
      have hD : va_D A (wX g cA t u9.2 ((r.1 - 1, r.2)) c y d k q o m) := hD
      obtain rfl := Option.some.inj hE
      exact rt_i hx hb hr hP hS rfl hlocks dX12_stores_103
    · have hE := if_f c7 hE
      refine lv_bipush (v := (-3)) hx hb dX12_stores_77 (by decide +kernel) ?_
      obtain rfl := Option.some.inj hE
      exact rt_i hx hb hr hP hS rfl hlocks dX12_stores_79
  have hE := if_f c6 hE
  by_cases c11 : x1 = 19
  · have hE := if_t c11 hE
    refine lv_tableIn (tgt := 104) (off := 103) hx hb dX12_stores_1 (by rw [c11]; decide +kernel) (by rw [c11]; decide +kernel) (by rw [c11]; decide +kernel) (by decide) ?_
    refine lv_iload_n hx hb dX12_stores_104 rfl (lv_at hl 2 rfl) ?_
    refine lv_if_eq (tgt := 113) hx hb dX12_stores_105 (by decide) (fun c12 => ?_) (fun c12 => ?_)
    · have hE := if_t c12 hE
      refine lv_aload_n hx hb dX12_stores_113 rfl (lv_at hl 0 rfl) ?_
      refine lv_aload_n hx hb dX12_stores_114 rfl (lv_at hl 0 rfl) ?_
      refine va_get (D := D) (ci := 10) (v := .ref (g 6)) (C := RX12) (T := TX12) (N := 40) hx hb hts inX12 hown hK hP 0 rfl rfl 10 (by decide) k2 (fun _ h9 => h9) rfl dX12_stores_115 ?_
      refine lv_aload_n hx hb dX12_stores_118 rfl (lv_at hl 0 rfl) ?_
      refine va_get (D := D) (ci := 10) (v := .int r.1) (C := RX12) (T := TX12) (N := 40) hx hb hts inX12 hown hK hP 0 rfl rfl 11 (by decide) k0 (fun _ h9 => h9) rfl dX12_stores_119 ?_
      refine lv_iconst (v := 1) hx hb dX12_stores_122 (by decide +kernel) ?_
      refine lv_isub hx hb dX12_stores_123 ?_
      have ⟨c13, hE⟩ := ck_some hE
      refine va_iald hx hb hK hP 6 0 rfl rfl c13 dX12_stores_124 ?_
      obtain ⟨u14, h15, hE⟩ := bd_some hE
      refine cw_i (As := [.int (r.2 ((r.1 - 1).toNatClampNeg))]) (rest := []) (r := u14.1) (wc := (wX g cA t s r c y d k q o m)) ⟨hx, hb, hml, hown, hts⟩ (c_X12_push l D cA g H.size (r.2 ((r.1 - 1).toNatClampNeg)) t s r c y d k q o m u14 h15) (cwV 1 hts hX12_stores_X12_push_296 rfl rfl rfl (by decide +kernel) ⟨Nat.le_of_ble_eq_true rfl, Nat.le_of_ble_eq_true rfl⟩) rfl hl.1 rfl (Nat.le_of_ble_eq_true rfl) dX12_stores_125 ⟨Nat.zero_le _, Nat.zero_le _⟩ hK hP hD hS hA (va_recv hK hP (ci := 10) (q0 := 0) rfl rfl) [g 0, g 1, g 2, g 3, g 4, g 5, g 6, g 7, g 8, g 9, g 10, g 11, g 12, g 13, g 14, g 15, g 16, g 17, g 18, g 19] rfl rfl (fun _ _ _ _ h => h) (fun _ _ _ => trivial) (fun H locs hP hD hS => ?_)
      have hP : va_P D vwCl (wX g cA t u14.2 r c y d k q o m) H := hP
      have hD : va_D A (wX g cA t u14.2 r c y d k q o m) := hD
      obtain rfl := Option.some.inj hE
      exact rt_i hx hb hr hP hS rfl hlocks dX12_stores_128
    · have hE := if_f c12 hE
      refine lv_bipush (v := (-3)) hx hb dX12_stores_108 (by decide +kernel) ?_
      refine lv_goto (tgt := 128) hx hb dX12_stores_110 (by decide) ?_
      obtain rfl := Option.some.inj hE
      exact rt_i hx hb hr hP hS rfl hlocks dX12_stores_128
  have hE := if_f c11 hE
  by_cases c16 : x1 = 20
  · have hE := if_t c16 hE
    refine lv_tableIn (tgt := 104) (off := 103) hx hb dX12_stores_1 (by rw [c16]; decide +kernel) (by rw [c16]; decide +kernel) (by rw [c16]; decide +kernel) (by decide) ?_
    refine lv_iload_n hx hb dX12_stores_104 rfl (lv_at hl 2 rfl) ?_
    refine lv_if_eq (tgt := 113) hx hb dX12_stores_105 (by decide) (fun c17 => ?_) (fun c17 => ?_)
    · have hE := if_t c17 hE
      refine lv_aload_n hx hb dX12_stores_113 rfl (lv_at hl 0 rfl) ?_
      refine lv_aload_n hx hb dX12_stores_114 rfl (lv_at hl 0 rfl) ?_
      refine va_get (D := D) (ci := 10) (v := .ref (g 6)) (C := RX12) (T := TX12) (N := 40) hx hb hts inX12 hown hK hP 0 rfl rfl 10 (by decide) k2 (fun _ h9 => h9) rfl dX12_stores_115 ?_
      refine lv_aload_n hx hb dX12_stores_118 rfl (lv_at hl 0 rfl) ?_
      refine va_get (D := D) (ci := 10) (v := .int r.1) (C := RX12) (T := TX12) (N := 40) hx hb hts inX12 hown hK hP 0 rfl rfl 11 (by decide) k0 (fun _ h9 => h9) rfl dX12_stores_119 ?_
      refine lv_iconst (v := 1) hx hb dX12_stores_122 (by decide +kernel) ?_
      refine lv_isub hx hb dX12_stores_123 ?_
      have ⟨c18, hE⟩ := ck_some hE
      refine va_iald hx hb hK hP 6 0 rfl rfl c18 dX12_stores_124 ?_
      obtain ⟨u19, h20, hE⟩ := bd_some hE
      refine cw_i (As := [.int (r.2 ((r.1 - 1).toNatClampNeg))]) (rest := []) (r := u19.1) (wc := (wX g cA t s r c y d k q o m)) ⟨hx, hb, hml, hown, hts⟩ (c_X12_push l D cA g H.size (r.2 ((r.1 - 1).toNatClampNeg)) t s r c y d k q o m u19 h20) (cwV 1 hts hX12_stores_X12_push_296 rfl rfl rfl (by decide +kernel) ⟨Nat.le_of_ble_eq_true rfl, Nat.le_of_ble_eq_true rfl⟩) rfl hl.1 rfl (Nat.le_of_ble_eq_true rfl) dX12_stores_125 ⟨Nat.zero_le _, Nat.zero_le _⟩ hK hP hD hS hA (va_recv hK hP (ci := 10) (q0 := 0) rfl rfl) [g 0, g 1, g 2, g 3, g 4, g 5, g 6, g 7, g 8, g 9, g 10, g 11, g 12, g 13, g 14, g 15, g 16, g 17, g 18, g 19] rfl rfl (fun _ _ _ _ h => h) (fun _ _ _ => trivial) (fun H locs hP hD hS => ?_)
      have hP : va_P D vwCl (wX g cA t u19.2 r c y d k q o m) H := hP
      have hD : va_D A (wX g cA t u19.2 r c y d k q o m) := hD
      obtain rfl := Option.some.inj hE
      exact rt_i hx hb hr hP hS rfl hlocks dX12_stores_128
    · have hE := if_f c17 hE
      refine lv_bipush (v := (-3)) hx hb dX12_stores_108 (by decide +kernel) ?_
      refine lv_goto (tgt := 128) hx hb dX12_stores_110 (by decide) ?_
      obtain rfl := Option.some.inj hE
      exact rt_i hx hb hr hP hS rfl hlocks dX12_stores_128
  have hE := if_f c16 hE
  by_cases c21 : x1 = 21
  · have hE := if_t c21 hE
    refine lv_tableIn (tgt := 129) (off := 128) hx hb dX12_stores_1 (by rw [c21]; decide +kernel) (by rw [c21]; decide +kernel) (by rw [c21]; decide +kernel) (by decide) ?_
    refine lv_iload_n hx hb dX12_stores_129 rfl (lv_at hl 2 rfl) ?_
    refine lv_if_eq (tgt := 138) hx hb dX12_stores_130 (by decide) (fun c22 => ?_) (fun c22 => ?_)
    · have hE := if_t c22 hE
      refine lv_aload_n hx hb dX12_stores_138 rfl (lv_at hl 0 rfl) ?_
      refine lv_aload_n hx hb dX12_stores_139 rfl (lv_at hl 0 rfl) ?_
      refine va_get (D := D) (ci := 10) (v := .ref (g 6)) (C := RX12) (T := TX12) (N := 40) hx hb hts inX12 hown hK hP 0 rfl rfl 10 (by decide) k2 (fun _ h9 => h9) rfl dX12_stores_140 ?_
      refine lv_aload_n hx hb dX12_stores_143 rfl (lv_at hl 0 rfl) ?_
      refine va_get (D := D) (ci := 10) (v := .int r.1) (C := RX12) (T := TX12) (N := 40) hx hb hts inX12 hown hK hP 0 rfl rfl 11 (by decide) k0 (fun _ h9 => h9) rfl dX12_stores_144 ?_
      refine lv_iconst (v := 3) hx hb dX12_stores_147 (by decide +kernel) ?_
      refine lv_isub hx hb dX12_stores_148 ?_
      have ⟨c23, hE⟩ := ck_some hE
      refine va_iald hx hb hK hP 6 0 rfl rfl c23 dX12_stores_149 ?_
      obtain ⟨u24, h25, hE⟩ := bd_some hE
      refine cw_i (As := [.int (r.2 ((r.1 - 3).toNatClampNeg))]) (rest := []) (r := u24.1) (wc := (wX g cA t s r c y d k q o m)) ⟨hx, hb, hml, hown, hts⟩ (c_X12_push l D cA g H.size (r.2 ((r.1 - 3).toNatClampNeg)) t s r c y d k q o m u24 h25) (cwV 1 hts hX12_stores_X12_push_296 rfl rfl rfl (by decide +kernel) ⟨Nat.le_of_ble_eq_true rfl, Nat.le_of_ble_eq_true rfl⟩) rfl hl.1 rfl (Nat.le_of_ble_eq_true rfl) dX12_stores_150 ⟨Nat.zero_le _, Nat.zero_le _⟩ hK hP hD hS hA (va_recv hK hP (ci := 10) (q0 := 0) rfl rfl) [g 0, g 1, g 2, g 3, g 4, g 5, g 6, g 7, g 8, g 9, g 10, g 11, g 12, g 13, g 14, g 15, g 16, g 17, g 18, g 19] rfl rfl (fun _ _ _ _ h => h) (fun _ _ _ => trivial) (fun H locs hP hD hS => ?_)
      have hP : va_P D vwCl (wX g cA t u24.2 r c y d k q o m) H := hP
      have hD : va_D A (wX g cA t u24.2 r c y d k q o m) := hD
      obtain rfl := Option.some.inj hE
      exact rt_i hx hb hr hP hS rfl hlocks dX12_stores_153
    · have hE := if_f c22 hE
      refine lv_bipush (v := (-3)) hx hb dX12_stores_133 (by decide +kernel) ?_
      refine lv_goto (tgt := 153) hx hb dX12_stores_135 (by decide) ?_
      obtain rfl := Option.some.inj hE
      exact rt_i hx hb hr hP hS rfl hlocks dX12_stores_153
  have hE := if_f c21 hE
  have tc1 := lv_neT c1 (show (17 : Int32).toInt = 17 by decide +kernel)
  have tc6 := lv_neT c6 (show (18 : Int32).toInt = 18 by decide +kernel)
  have tc11 := lv_neT c11 (show (19 : Int32).toInt = 19 by decide +kernel)
  have tc16 := lv_neT c16 (show (20 : Int32).toInt = 20 by decide +kernel)
  have tc21 := lv_neT c21 (show (21 : Int32).toInt = 21 by decide +kernel)
  refine lv_tableOut (tgt := 154) hx hb dX12_stores_1 (by omega) (by decide) ?_
  refine lv_aload_n hx hb dX12_stores_154 rfl (lv_at hl 0 rfl) ?_
  refine lv_dup hx hb dX12_stores_155 rfl ?_
  refine va_get (D := D) (ci := 10) (v := .int r.1) (C := RX12) (T := TX12) (N := 40) hx hb hts inX12 hown hK hP 0 rfl rfl 11 (by decide) k0 (fun _ h9 => h9) rfl dX12_stores_156 ?_
  refine lv_iconst (v := 2) hx hb dX12_stores_159 (by decide +kernel) ?_
  refine lv_isub hx hb dX12_stores_160 ?_
  refine va_put (D := D) (ci := 10) (v := .int (r.1 - 2)) (ty := .int) (C := RX12) (T := TX12) (N := 40) hx hb hts inX12 tyX12 tyX12_ok nmX12 hown hK hP hD hS 0 rfl rfl 11 (by decide) k0 (fun _ h9 => h9) rfl (by decide +kernel) rfl rfl (Nat.le_of_ble_eq_true rfl) dX12_stores_161 (fun H locs hP hD hS => ?_)
  have hP : va_P D vwCl (wX g cA t s ((r.1 - 2, r.2)) c y d k q o m) H := hP
  have hD : va_D A (wX g cA t s ((r.1 - 2, r.2)) c y d k q o m) := hD
  refine lv_iconst (v := 0) hx hb dX12_stores_164 (by decide +kernel) ?_
  obtain rfl := Option.some.inj hE
  exact rt_i hx hb hr hP hS rfl hlocks dX12_stores_165
set_option maxRecDepth 20000 in
theorem hX12_moves_X12_push_296 : GoodIn wsX12_moves (wsV RX12 296 RX12 yX12_push wsX12_push) := goodIn_r _ [3, 4, 5, 6, 7, 2, 1, 22, 23, 24, 25, 26, 27, 28, 29, 30, 31, 32, 33, 34, 35, 36, 37, 38, 39, 40, 41, 42, 43, 44, 45, 46, 47, 48, 49, 50, 51, 52, 53, 54, 55, 56, 57, 58, 59, 60, 61] rfl (by decide +kernel)
set_option maxRecDepth 20000 in
theorem hX12_moves_X12_swap_396 : GoodIn wsX12_moves (wsV RX12 396 RX12 yX12_swap wsX12_swap) := goodIn_r _ [8, 9, 10, 6, 11, 2, 22, 23, 24, 25, 26, 27, 28, 29, 30, 31, 32, 33, 34, 35, 36, 37, 38, 39, 40, 41, 42, 43, 44, 45, 46, 47, 48, 49, 50, 51, 52, 53, 54, 55, 56, 57, 58, 59, 60, 61] rfl (by decide +kernel)
set_option maxRecDepth 20000 in
theorem hX12_moves_X12_stores_400 : GoodIn wsX12_moves (wsV RX12 400 RX12 yX12_stores wsX12_stores) := goodIn_r _ [12, 13, 14, 6, 15, 16, 17, 18, 19, 20, 6, 21, 1, 2, 3, 4, 5, 7, 22, 23, 24, 25, 26, 27, 28, 29, 30, 31, 32, 33, 34, 35, 36, 37, 38, 39, 40, 41, 42, 43, 44, 45, 46, 47, 48, 49, 50, 51, 52, 53, 54, 55, 56, 57, 58, 59, 60, 61] rfl (by decide +kernel)
set_option maxHeartbeats 4000000 in
set_option maxRecDepth 100000 in
theorem c_X12_moves (l : Launch) (D : va_G) (cA : Nat → ClassId) (g : Nat → Nat) (sz : Nat) (x1 : Int32) (t : mT) (s : mS) (r : mR) (c : mC) (y : mY) (d : mD) (k : mK) (q : mP) (o : mO) (m : mM) (u : Int32 × mS × mR) (hE : f_X12_moves x1 s r = some u) : Met l yX12_moves wsX12_moves ({ frames := 2, cells := 0, slots := 0, locals := 43 }) (va_Pc [.ref (g 0), .int x1] (PRE D cA (wX g cA t s r c y d k q o m) sz (fun _ => True))) (cQi D (wX g cA t u.2.1 u.2.2 c y d k q o m) (va_A (wX g cA t s r c y d k q o m) sz) u.1) 0 0 (va_A (wX g cA t s r c y d k q o m) sz) := by
  refine Met.ofW (cc := cX12_moves) (maxL := 4) (ret := (some .int)) (by decide) rfl ?_
  intro PP EE S0 MM args below meth CC S1 B hml hv
  obtain ⟨rfl, hsz, hP, hK, hD0, hX⟩ := hv
  have hx := B.exec
  have hb := B.bytes
  have hr := B.returns
  have hts := atoms_spec (ws := wsX12_moves) B.pre
  have hown : S0.vm.findClass RX12 = some MM.cls := findClass_of_methodNamed B.named
  have hlocks := B.notSynchronized
  subst hsz
  have hD := hD0.self (sz := S0.heap.size)
  generalize hAe : va_A (wX g cA t s r c y d k q o m) S0.heap.size = A at hD ⊢
  have hA : ∀ q : Nat, S0.heap.size ≤ q → A q := fun q h => by rw [← hAe]; exact Or.inr h
  have hS : va_S A S0.heap S0.heap [] := va_S.rf
  have k0 := hts (.fieldLink RX12 293 "WordForgeModel" "depth" "I") (List.mem_of_getElem? (i := 1) rfl)
  have inX12 : ∀ w ∈ wsX120, w ∈ wsX12_moves := fun _ h => List.mem_cons_of_mem _ (List.mem_append_right _ h)
  have k2 := hts (.fieldLink RX12 169 "WordForgeModel" "stack" "[I") (List.mem_of_getElem? (i := 2) rfl)
  have hl := lv_entry ([.ref (g 0), .int x1]) (n := 4) (Nat.le_of_ble_eq_true rfl)
  rw [lg_entry_eq]
  generalize (lg_sl ([.ref (g 0), .int x1]) ++ List.replicate (4 - (lg_sl ([.ref (g 0), .int x1])).length) Slot.unset).toArray = ls at hl ⊢
  have hl : lv_has ls 4 [(0, .ref (g 0)), (1, .int x1)] := hl
  have w21 : ∀ (y1 : Int32) (y2 : Int32) (z0 : Int32) (s : mS) (r : mR) (H : Heap) (locs : List Loc) (ls : Array Slot), va_P D vwCl (wX g cA t s r c y d k q o m) H → va_D A (wX g cA t s r c y d k q o m) → va_S A S0.heap H locs → lv_has ls 4 [(0, .ref (g 0)), (1, .int y1), (2, .int y2)] → b_X12_moves_21  y1 y2 z0 s r = some u → W PP l EE (headSpec wsX12_moves ({ frames := 2, cells := 0, slots := 0, locals := 43 })).room S0 MM (#[.ref (g 0), .int x1] : Array Value) below meth CC H locs 0 0 (MQ below (cQi D (wX g cA t u.2.1 u.2.2 c y d k q o m) A u.1) (#[.ref (g 0), .int x1] : Array Value) S0 0 0 A) (F0 MM 21 ls [.int z0]) := by
    intro y1 y2 z0 s r
    intro H locs ls hP hD hS hl hE
    unfold b_X12_moves_21 at hE
    refine lv_istore_n (lv' := [(3, .int z0), (0, .ref (g 0)), (1, .int y1), (2, .int y2)]) hx hb dX12_moves_21 rfl hl (by decide) rfl (fun ls hl => ?_)
    refine lv_iload_n hx hb dX12_moves_22 rfl (lv_at hl 2 rfl) ?_
    by_cases c2 : y1 = 8
    · have hE := if_t c2 hE
      refine lv_tableIn (tgt := 72) (off := 49) hx hb dX12_moves_23 (by rw [c2]; decide +kernel) (by rw [c2]; decide +kernel) (by rw [c2]; decide +kernel) (by decide) ?_
      refine lv_iload_n hx hb dX12_moves_72 rfl (lv_at hl 0 rfl) ?_
      refine lv_if_eq (tgt := 81) hx hb dX12_moves_73 (by decide) (fun c3 => ?_) (fun c3 => ?_)
      · have hE := if_t c3 hE
        refine lv_aload_n hx hb dX12_moves_81 rfl (lv_at hl 1 rfl) ?_
        refine lv_aload_n hx hb dX12_moves_82 rfl (lv_at hl 1 rfl) ?_
        refine va_get (D := D) (ci := 10) (v := .ref (g 5)) (C := RX12) (T := TX12) (N := 40) hx hb hts inX12 hown hK hP 0 rfl rfl 8 (by decide) k2 (fun _ h9 => h9) rfl dX12_moves_83 ?_
        refine lv_iload_n hx hb dX12_moves_86 rfl (lv_at hl 3 rfl) ?_
        have ⟨c4, hE⟩ := ck_some hE
        refine va_iald hx hb hK hP 5 0 rfl rfl c4 dX12_moves_87 ?_
        obtain ⟨u5, h6, hE⟩ := bd_some hE
        refine cw_i (As := [.int (s.2 y2.toNatClampNeg)]) (rest := []) (r := u5.1) (wc := (wX g cA t s r c y d k q o m)) ⟨hx, hb, hml, hown, hts⟩ (c_X12_push l D cA g H.size (s.2 y2.toNatClampNeg) t s r c y d k q o m u5 h6) (cwV 1 hts hX12_moves_X12_push_296 rfl rfl rfl (by decide +kernel) ⟨Nat.le_of_ble_eq_true rfl, Nat.le_of_ble_eq_true rfl⟩) rfl hl.1 rfl (Nat.le_of_ble_eq_true rfl) dX12_moves_88 ⟨Nat.zero_le _, Nat.zero_le _⟩ hK hP hD hS hA (va_recv hK hP (ci := 10) (q0 := 0) rfl rfl) [g 0, g 1, g 2, g 3, g 4, g 5, g 6, g 7, g 8, g 9, g 10, g 11, g 12, g 13, g 14, g 15, g 16, g 17, g 18, g 19] rfl rfl (fun _ _ _ _ h => h) (fun _ _ _ => trivial) (fun H locs hP hD hS => ?_)
        have hP : va_P D vwCl (wX g cA t u5.2 r c y d k q o m) H := hP
        have hD : va_D A (wX g cA t u5.2 r c y d k q o m) := hD
        obtain rfl := Option.some.inj hE
        exact rt_i hx hb hr hP hS rfl hlocks dX12_moves_91
      · have hE := if_f c3 hE
        refine lv_bipush (v := (-3)) hx hb dX12_moves_76 (by decide +kernel) ?_
        refine lv_goto (tgt := 91) hx hb dX12_moves_78 (by decide) ?_
        obtain rfl := Option.some.inj hE
        exact rt_i hx hb hr hP hS rfl hlocks dX12_moves_91
    have hE := if_f c2 hE
    by_cases c7 : y1 = 9
    · have hE := if_t c7 hE
      refine lv_tableIn (tgt := 92) (off := 69) hx hb dX12_moves_23 (by rw [c7]; decide +kernel) (by rw [c7]; decide +kernel) (by rw [c7]; decide +kernel) (by decide) ?_
      refine lv_aload_n hx hb dX12_moves_92 rfl (lv_at hl 1 rfl) ?_
      refine lv_dup hx hb dX12_moves_93 rfl ?_
      refine va_get (D := D) (ci := 10) (v := .int s.1) (C := RX12) (T := TX12) (N := 40) hx hb hts inX12 hown hK hP 0 rfl rfl 9 (by decide) k0 (fun _ h9 => h9) rfl dX12_moves_94 ?_
      refine lv_iconst (v := 1) hx hb dX12_moves_97 (by decide +kernel) ?_
      refine lv_isub hx hb dX12_moves_98 ?_
      refine va_put (D := D) (ci := 10) (v := .int (s.1 - 1)) (ty := .int) (C := RX12) (T := TX12) (N := 40) hx hb hts inX12 tyX12 tyX12_ok nmX12 hown hK hP hD hS 0 rfl rfl 9 (by decide) k0 (fun _ h9 => h9) rfl (by decide +kernel) rfl rfl (Nat.le_of_ble_eq_true rfl) dX12_moves_99 (fun H locs hP hD hS => ?_)
      have hP : va_P D vwCl (wX g cA t ((s.1 - 1, s.2)) r c y d k q o m) H := hP
      have hD : va_D A (wX g cA t ((s.1 - 1, s.2)) r c y d k q o m) := hD
      refine lv_iconst (v := 0) hx hb dX12_moves_102 (by decide +kernel) ?_
      obtain rfl := Option.some.inj hE
      exact rt_i hx hb hr hP hS rfl hlocks dX12_moves_103
    have hE := if_f c7 hE
    by_cases c8 : y1 = 10
    · have hE := if_t c8 hE
      refine lv_tableIn (tgt := 104) (off := 81) hx hb dX12_moves_23 (by rw [c8]; decide +kernel) (by rw [c8]; decide +kernel) (by rw [c8]; decide +kernel) (by decide) ?_
      refine lv_aload_n hx hb dX12_moves_104 rfl (lv_at hl 1 rfl) ?_
      refine lv_iload_n hx hb dX12_moves_105 rfl (lv_at hl 3 rfl) ?_
      refine lv_iconst (v := 1) hx hb dX12_moves_106 (by decide +kernel) ?_
      refine lv_isub hx hb dX12_moves_107 ?_
      refine lv_iload_n hx hb dX12_moves_108 rfl (lv_at hl 3 rfl) ?_
      obtain ⟨u9, h10, hE⟩ := bd_some hE
      refine cw_i (As := [.int (y2 - 1), .int y2]) (rest := []) (r := u9.1) (wc := (wX g cA t s r c y d k q o m)) ⟨hx, hb, hml, hown, hts⟩ (c_X12_swap l D cA g H.size (y2 - 1) y2 t s r c y d k q o m u9 h10) (cwV 2 hts hX12_moves_X12_swap_396 rfl rfl rfl (by decide +kernel) ⟨Nat.le_of_ble_eq_true rfl, Nat.le_of_ble_eq_true rfl⟩) rfl hl.1 rfl (Nat.le_of_ble_eq_true rfl) dX12_moves_109 ⟨Nat.zero_le _, Nat.zero_le _⟩ hK hP hD hS hA (va_recv hK hP (ci := 10) (q0 := 0) rfl rfl) [g 0, g 1, g 2, g 3, g 4, g 5, g 6, g 7, g 8, g 9, g 10, g 11, g 12, g 13, g 14, g 15, g 16, g 17, g 18, g 19] rfl rfl (fun _ _ _ _ h => h) (fun _ _ _ => trivial) (fun H locs hP hD hS => ?_)
      have hP : va_P D vwCl (wX g cA t u9.2 r c y d k q o m) H := hP
      have hD : va_D A (wX g cA t u9.2 r c y d k q o m) := hD
      obtain rfl := Option.some.inj hE
      exact rt_i hx hb hr hP hS rfl hlocks dX12_moves_112
    have hE := if_f c8 hE
    by_cases c11 : y1 = 11
    · have hE := if_t c11 hE
      refine lv_tableIn (tgt := 113) (off := 90) hx hb dX12_moves_23 (by rw [c11]; decide +kernel) (by rw [c11]; decide +kernel) (by rw [c11]; decide +kernel) (by decide) ?_
      refine lv_iload_n hx hb dX12_moves_113 rfl (lv_at hl 0 rfl) ?_
      refine lv_if_eq (tgt := 122) hx hb dX12_moves_114 (by decide) (fun c12 => ?_) (fun c12 => ?_)
      · have hE := if_t c12 hE
        refine lv_aload_n hx hb dX12_moves_122 rfl (lv_at hl 1 rfl) ?_
        refine lv_aload_n hx hb dX12_moves_123 rfl (lv_at hl 1 rfl) ?_
        refine va_get (D := D) (ci := 10) (v := .ref (g 5)) (C := RX12) (T := TX12) (N := 40) hx hb hts inX12 hown hK hP 0 rfl rfl 8 (by decide) k2 (fun _ h9 => h9) rfl dX12_moves_124 ?_
        refine lv_iload_n hx hb dX12_moves_127 rfl (lv_at hl 3 rfl) ?_
        refine lv_iconst (v := 1) hx hb dX12_moves_128 (by decide +kernel) ?_
        refine lv_isub hx hb dX12_moves_129 ?_
        have ⟨c13, hE⟩ := ck_some hE
        refine va_iald hx hb hK hP 5 0 rfl rfl c13 dX12_moves_130 ?_
        obtain ⟨u14, h15, hE⟩ := bd_some hE
        refine cw_i (As := [.int (s.2 ((y2 - 1).toNatClampNeg))]) (rest := []) (r := u14.1) (wc := (wX g cA t s r c y d k q o m)) ⟨hx, hb, hml, hown, hts⟩ (c_X12_push l D cA g H.size (s.2 ((y2 - 1).toNatClampNeg)) t s r c y d k q o m u14 h15) (cwV 1 hts hX12_moves_X12_push_296 rfl rfl rfl (by decide +kernel) ⟨Nat.le_of_ble_eq_true rfl, Nat.le_of_ble_eq_true rfl⟩) rfl hl.1 rfl (Nat.le_of_ble_eq_true rfl) dX12_moves_131 ⟨Nat.zero_le _, Nat.zero_le _⟩ hK hP hD hS hA (va_recv hK hP (ci := 10) (q0 := 0) rfl rfl) [g 0, g 1, g 2, g 3, g 4, g 5, g 6, g 7, g 8, g 9, g 10, g 11, g 12, g 13, g 14, g 15, g 16, g 17, g 18, g 19] rfl rfl (fun _ _ _ _ h => h) (fun _ _ _ => trivial) (fun H locs hP hD hS => ?_)
        have hP : va_P D vwCl (wX g cA t u14.2 r c y d k q o m) H := hP
        have hD : va_D A (wX g cA t u14.2 r c y d k q o m) := hD
        obtain rfl := Option.some.inj hE
        exact rt_i hx hb hr hP hS rfl hlocks dX12_moves_134
      · have hE := if_f c12 hE
        refine lv_bipush (v := (-3)) hx hb dX12_moves_117 (by decide +kernel) ?_
        refine lv_goto (tgt := 134) hx hb dX12_moves_119 (by decide) ?_
        obtain rfl := Option.some.inj hE
        exact rt_i hx hb hr hP hS rfl hlocks dX12_moves_134
    have hE := if_f c11 hE
    by_cases c16 : y1 = 12
    · have hE := if_t c16 hE
      refine lv_tableIn (tgt := 135) (off := 112) hx hb dX12_moves_23 (by rw [c16]; decide +kernel) (by rw [c16]; decide +kernel) (by rw [c16]; decide +kernel) (by decide) ?_
      refine lv_aload_n hx hb dX12_moves_135 rfl (lv_at hl 1 rfl) ?_
      refine lv_iload_n hx hb dX12_moves_136 rfl (lv_at hl 3 rfl) ?_
      refine lv_iconst (v := 2) hx hb dX12_moves_137 (by decide +kernel) ?_
      refine lv_isub hx hb dX12_moves_138 ?_
      refine lv_iload_n hx hb dX12_moves_139 rfl (lv_at hl 3 rfl) ?_
      refine lv_iconst (v := 1) hx hb dX12_moves_140 (by decide +kernel) ?_
      refine lv_isub hx hb dX12_moves_141 ?_
      obtain ⟨u17, h18, hE⟩ := bd_some hE
      refine cw_i (As := [.int (y2 - 2), .int (y2 - 1)]) (rest := []) (r := u17.1) (wc := (wX g cA t s r c y d k q o m)) ⟨hx, hb, hml, hown, hts⟩ (c_X12_swap l D cA g H.size (y2 - 2) (y2 - 1) t s r c y d k q o m u17 h18) (cwV 2 hts hX12_moves_X12_swap_396 rfl rfl rfl (by decide +kernel) ⟨Nat.le_of_ble_eq_true rfl, Nat.le_of_ble_eq_true rfl⟩) rfl hl.1 rfl (Nat.le_of_ble_eq_true rfl) dX12_moves_142 ⟨Nat.zero_le _, Nat.zero_le _⟩ hK hP hD hS hA (va_recv hK hP (ci := 10) (q0 := 0) rfl rfl) [g 0, g 1, g 2, g 3, g 4, g 5, g 6, g 7, g 8, g 9, g 10, g 11, g 12, g 13, g 14, g 15, g 16, g 17, g 18, g 19] rfl rfl (fun _ _ _ _ h => h) (fun _ _ _ => trivial) (fun H locs hP hD hS => ?_)
      have hP : va_P D vwCl (wX g cA t u17.2 r c y d k q o m) H := hP
      have hD : va_D A (wX g cA t u17.2 r c y d k q o m) := hD
      refine lv_pop hx hb dX12_moves_145 rfl ?_
      refine lv_aload_n hx hb dX12_moves_146 rfl (lv_at hl 1 rfl) ?_
      refine lv_iload_n hx hb dX12_moves_147 rfl (lv_at hl 3 rfl) ?_
      refine lv_iconst (v := 1) hx hb dX12_moves_148 (by decide +kernel) ?_
      refine lv_isub hx hb dX12_moves_149 ?_
      refine lv_iload_n hx hb dX12_moves_150 rfl (lv_at hl 3 rfl) ?_
      obtain ⟨u19, h20, hE⟩ := bd_some hE
      refine cw_i (As := [.int (y2 - 1), .int y2]) (rest := []) (r := u19.1) (wc := (wX g cA t u17.2 r c y d k q o m)) ⟨hx, hb, hml, hown, hts⟩ (c_X12_swap l D cA g H.size (y2 - 1) y2 t u17.2 r c y d k q o m u19 h20) (cwV 2 hts hX12_moves_X12_swap_396 rfl rfl rfl (by decide +kernel) ⟨Nat.le_of_ble_eq_true rfl, Nat.le_of_ble_eq_true rfl⟩) rfl hl.1 rfl (Nat.le_of_ble_eq_true rfl) dX12_moves_151 ⟨Nat.zero_le _, Nat.zero_le _⟩ hK hP hD hS hA (va_recv hK hP (ci := 10) (q0 := 0) rfl rfl) [g 0, g 1, g 2, g 3, g 4, g 5, g 6, g 7, g 8, g 9, g 10, g 11, g 12, g 13, g 14, g 15, g 16, g 17, g 18, g 19] rfl rfl (fun _ _ _ _ h => h) (fun _ _ _ => trivial) (fun H locs hP hD hS => ?_)
      have hP : va_P D vwCl (wX g cA t u19.2 r c y d k q o m) H := hP
      have hD : va_D A (wX g cA t u19.2 r c y d k q o m) := hD
      obtain rfl := Option.some.inj hE
      exact rt_i hx hb hr hP hS rfl hlocks dX12_moves_154
    have hE := if_f c16 hE
    by_cases c21 : y1 = 13
    · have hE := if_t c21 hE
      refine lv_tableIn (tgt := 155) (off := 132) hx hb dX12_moves_23 (by rw [c21]; decide +kernel) (by rw [c21]; decide +kernel) (by rw [c21]; decide +kernel) (by decide) ?_
      refine lv_aload_n hx hb dX12_moves_155 rfl (lv_at hl 1 rfl) ?_
      refine va_get (D := D) (ci := 10) (v := .ref (g 5)) (C := RX12) (T := TX12) (N := 40) hx hb hts inX12 hown hK hP 0 rfl rfl 8 (by decide) k2 (fun _ h9 => h9) rfl dX12_moves_156 ?_
      refine lv_iload_n hx hb dX12_moves_159 rfl (lv_at hl 3 rfl) ?_
      refine lv_iconst (v := 1) hx hb dX12_moves_160 (by decide +kernel) ?_
      refine lv_isub hx hb dX12_moves_161 ?_
      refine lv_aload_n hx hb dX12_moves_162 rfl (lv_at hl 1 rfl) ?_
      refine va_get (D := D) (ci := 10) (v := .ref (g 5)) (C := RX12) (T := TX12) (N := 40) hx hb hts inX12 hown hK hP 0 rfl rfl 8 (by decide) k2 (fun _ h9 => h9) rfl dX12_moves_163 ?_
      refine lv_iload_n hx hb dX12_moves_166 rfl (lv_at hl 3 rfl) ?_
      have ⟨c22, hE⟩ := ck_some hE
      refine va_iald hx hb hK hP 5 0 rfl rfl c22 dX12_moves_167 ?_
      have ⟨c23, hE⟩ := ck_some hE
      refine va_iast hx hb hK hP hD hS 5 0 rfl rfl c23 dX12_moves_168 (fun H locs hP hD hS => ?_)
      have hP : va_P D vwCl (wX g cA t ((s.1, upd s.2 ((y2 - 1).toNatClampNeg) (s.2 y2.toNatClampNeg))) r c y d k q o m) H := hP
      have hD : va_D A (wX g cA t ((s.1, upd s.2 ((y2 - 1).toNatClampNeg) (s.2 y2.toNatClampNeg))) r c y d k q o m) := hD
      refine lv_aload_n hx hb dX12_moves_169 rfl (lv_at hl 1 rfl) ?_
      refine lv_dup hx hb dX12_moves_170 rfl ?_
      refine va_get (D := D) (ci := 10) (v := .int s.1) (C := RX12) (T := TX12) (N := 40) hx hb hts inX12 hown hK hP 0 rfl rfl 9 (by decide) k0 (fun _ h9 => h9) rfl dX12_moves_171 ?_
      refine lv_iconst (v := 1) hx hb dX12_moves_174 (by decide +kernel) ?_
      refine lv_isub hx hb dX12_moves_175 ?_
      refine va_put (D := D) (ci := 10) (v := .int (s.1 - 1)) (ty := .int) (C := RX12) (T := TX12) (N := 40) hx hb hts inX12 tyX12 tyX12_ok nmX12 hown hK hP hD hS 0 rfl rfl 9 (by decide) k0 (fun _ h9 => h9) rfl (by decide +kernel) rfl rfl (Nat.le_of_ble_eq_true rfl) dX12_moves_176 (fun H locs hP hD hS => ?_)
      have hP : va_P D vwCl (wX g cA t ((s.1 - 1, upd s.2 ((y2 - 1).toNatClampNeg) (s.2 y2.toNatClampNeg))) r c y d k q o m) H := hP
      have hD : va_D A (wX g cA t ((s.1 - 1, upd s.2 ((y2 - 1).toNatClampNeg) (s.2 y2.toNatClampNeg))) r c y d k q o m) := hD
      refine lv_iconst (v := 0) hx hb dX12_moves_179 (by decide +kernel) ?_
      obtain rfl := Option.some.inj hE
      exact rt_i hx hb hr hP hS rfl hlocks dX12_moves_180
    have hE := if_f c21 hE
    by_cases c24 : y1 = 14
    · have hE := if_t c24 hE
      refine lv_tableIn (tgt := 181) (off := 158) hx hb dX12_moves_23 (by rw [c24]; decide +kernel) (by rw [c24]; decide +kernel) (by rw [c24]; decide +kernel) (by decide) ?_
      refine lv_aload_n hx hb dX12_moves_181 rfl (lv_at hl 1 rfl) ?_
      refine va_get (D := D) (ci := 10) (v := .ref (g 5)) (C := RX12) (T := TX12) (N := 40) hx hb hts inX12 hown hK hP 0 rfl rfl 8 (by decide) k2 (fun _ h9 => h9) rfl dX12_moves_182 ?_
      refine lv_iload_n hx hb dX12_moves_185 rfl (lv_at hl 3 rfl) ?_
      have ⟨c25, hE⟩ := ck_some hE
      refine va_iald hx hb hK hP 5 0 rfl rfl c25 dX12_moves_186 ?_
      refine lv_if_ne (tgt := 192) hx hb dX12_moves_187 (by decide) (fun c26 => ?_) (fun c26 => ?_)
      · have hE := if_f c26 hE
        refine lv_iload_n hx hb dX12_moves_192 rfl (lv_at hl 0 rfl) ?_
        refine lv_if_eq (tgt := 201) hx hb dX12_moves_193 (by decide) (fun c27 => ?_) (fun c27 => ?_)
        · have hE := if_t c27 hE
          refine lv_aload_n hx hb dX12_moves_201 rfl (lv_at hl 1 rfl) ?_
          refine lv_aload_n hx hb dX12_moves_202 rfl (lv_at hl 1 rfl) ?_
          refine va_get (D := D) (ci := 10) (v := .ref (g 5)) (C := RX12) (T := TX12) (N := 40) hx hb hts inX12 hown hK hP 0 rfl rfl 8 (by decide) k2 (fun _ h9 => h9) rfl dX12_moves_203 ?_
          refine lv_iload_n hx hb dX12_moves_206 rfl (lv_at hl 3 rfl) ?_
          have ⟨c28, hE⟩ := ck_some hE
          refine va_iald hx hb hK hP 5 0 rfl rfl c28 dX12_moves_207 ?_
          obtain ⟨u29, h30, hE⟩ := bd_some hE
          refine cw_i (As := [.int (s.2 y2.toNatClampNeg)]) (rest := []) (r := u29.1) (wc := (wX g cA t s r c y d k q o m)) ⟨hx, hb, hml, hown, hts⟩ (c_X12_push l D cA g H.size (s.2 y2.toNatClampNeg) t s r c y d k q o m u29 h30) (cwV 1 hts hX12_moves_X12_push_296 rfl rfl rfl (by decide +kernel) ⟨Nat.le_of_ble_eq_true rfl, Nat.le_of_ble_eq_true rfl⟩) rfl hl.1 rfl (Nat.le_of_ble_eq_true rfl) dX12_moves_208 ⟨Nat.zero_le _, Nat.zero_le _⟩ hK hP hD hS hA (va_recv hK hP (ci := 10) (q0 := 0) rfl rfl) [g 0, g 1, g 2, g 3, g 4, g 5, g 6, g 7, g 8, g 9, g 10, g 11, g 12, g 13, g 14, g 15, g 16, g 17, g 18, g 19] rfl rfl (fun _ _ _ _ h => h) (fun _ _ _ => trivial) (fun H locs hP hD hS => ?_)
          have hP : va_P D vwCl (wX g cA t u29.2 r c y d k q o m) H := hP
          have hD : va_D A (wX g cA t u29.2 r c y d k q o m) := hD
          obtain rfl := Option.some.inj hE
          exact rt_i hx hb hr hP hS rfl hlocks dX12_moves_211
        · have hE := if_f c27 hE
          refine lv_bipush (v := (-3)) hx hb dX12_moves_196 (by decide +kernel) ?_
          refine lv_goto (tgt := 211) hx hb dX12_moves_198 (by decide) ?_
          obtain rfl := Option.some.inj hE
          exact rt_i hx hb hr hP hS rfl hlocks dX12_moves_211
      · have hE := if_t c26 hE
        refine lv_iconst (v := 0) hx hb dX12_moves_190 (by decide +kernel) ?_
        obtain rfl := Option.some.inj hE
        exact rt_i hx hb hr hP hS rfl hlocks dX12_moves_191
    have hE := if_f c24 hE
    by_cases c31 : y1 = 15
    · have hE := if_t c31 hE
      refine lv_tableIn (tgt := 212) (off := 189) hx hb dX12_moves_23 (by rw [c31]; decide +kernel) (by rw [c31]; decide +kernel) (by rw [c31]; decide +kernel) (by decide) ?_
      refine lv_iload_n hx hb dX12_moves_212 rfl (lv_at hl 0 rfl) ?_
      refine lv_if_eq (tgt := 221) hx hb dX12_moves_213 (by decide) (fun c32 => ?_) (fun c32 => ?_)
      · have hE := if_t c32 hE
        refine lv_aload_n hx hb dX12_moves_221 rfl (lv_at hl 1 rfl) ?_
        refine lv_aload_n hx hb dX12_moves_222 rfl (lv_at hl 1 rfl) ?_
        refine va_get (D := D) (ci := 10) (v := .int s.1) (C := RX12) (T := TX12) (N := 40) hx hb hts inX12 hown hK hP 0 rfl rfl 9 (by decide) k0 (fun _ h9 => h9) rfl dX12_moves_223 ?_
        obtain ⟨u33, h34, hE⟩ := bd_some hE
        refine cw_i (As := [.int s.1]) (rest := []) (r := u33.1) (wc := (wX g cA t s r c y d k q o m)) ⟨hx, hb, hml, hown, hts⟩ (c_X12_push l D cA g H.size s.1 t s r c y d k q o m u33 h34) (cwV 1 hts hX12_moves_X12_push_296 rfl rfl rfl (by decide +kernel) ⟨Nat.le_of_ble_eq_true rfl, Nat.le_of_ble_eq_true rfl⟩) rfl hl.1 rfl (Nat.le_of_ble_eq_true rfl) dX12_moves_226 ⟨Nat.zero_le _, Nat.zero_le _⟩ hK hP hD hS hA (va_recv hK hP (ci := 10) (q0 := 0) rfl rfl) [g 0, g 1, g 2, g 3, g 4, g 5, g 6, g 7, g 8, g 9, g 10, g 11, g 12, g 13, g 14, g 15, g 16, g 17, g 18, g 19] rfl rfl (fun _ _ _ _ h => h) (fun _ _ _ => trivial) (fun H locs hP hD hS => ?_)
        have hP : va_P D vwCl (wX g cA t u33.2 r c y d k q o m) H := hP
        have hD : va_D A (wX g cA t u33.2 r c y d k q o m) := hD
        obtain rfl := Option.some.inj hE
        exact rt_i hx hb hr hP hS rfl hlocks dX12_moves_229
      · have hE := if_f c32 hE
        refine lv_bipush (v := (-3)) hx hb dX12_moves_216 (by decide +kernel) ?_
        refine lv_goto (tgt := 229) hx hb dX12_moves_218 (by decide) ?_
        obtain rfl := Option.some.inj hE
        exact rt_i hx hb hr hP hS rfl hlocks dX12_moves_229
    have hE := if_f c31 hE
    by_cases c35 : y1 = 16
    · have hE := if_t c35 hE
      refine lv_tableIn (tgt := 230) (off := 207) hx hb dX12_moves_23 (by rw [c35]; decide +kernel) (by rw [c35]; decide +kernel) (by rw [c35]; decide +kernel) (by decide) ?_
      refine lv_aload_n hx hb dX12_moves_230 rfl (lv_at hl 1 rfl) ?_
      refine va_get (D := D) (ci := 10) (v := .ref (g 5)) (C := RX12) (T := TX12) (N := 40) hx hb hts inX12 hown hK hP 0 rfl rfl 8 (by decide) k2 (fun _ h9 => h9) rfl dX12_moves_231 ?_
      refine lv_iload_n hx hb dX12_moves_234 rfl (lv_at hl 3 rfl) ?_
      have ⟨c36, hE⟩ := ck_some hE
      refine va_iald hx hb hK hP 5 0 rfl rfl c36 dX12_moves_235 ?_
      refine lv_if_lt (tgt := 249) hx hb dX12_moves_236 (by decide) (fun c37 => ?_) (fun c37 => ?_)
      · have hE := if_t c37 hE
        refine lv_bipush (v := (-4)) hx hb dX12_moves_249 (by decide +kernel) ?_
        obtain rfl := Option.some.inj hE
        exact rt_i hx hb hr hP hS rfl hlocks dX12_moves_251
      · have hE := if_f c37 hE
        refine lv_aload_n hx hb dX12_moves_239 rfl (lv_at hl 1 rfl) ?_
        refine va_get (D := D) (ci := 10) (v := .ref (g 5)) (C := RX12) (T := TX12) (N := 40) hx hb hts inX12 hown hK hP 0 rfl rfl 8 (by decide) k2 (fun _ h9 => h9) rfl dX12_moves_240 ?_
        refine lv_iload_n hx hb dX12_moves_243 rfl (lv_at hl 3 rfl) ?_
        have ⟨c38, hE⟩ := ck_some hE
        refine va_iald hx hb hK hP 5 0 rfl rfl c38 dX12_moves_244 ?_
        refine lv_iload_n hx hb dX12_moves_245 rfl (lv_at hl 3 rfl) ?_
        refine lv_icmp_lt (tgt := 252) hx hb dX12_moves_246 (by decide) (fun c39 => ?_) (fun c39 => ?_)
        · have hE := if_t c39 hE
          refine lv_aload_n hx hb dX12_moves_252 rfl (lv_at hl 1 rfl) ?_
          refine va_get (D := D) (ci := 10) (v := .ref (g 5)) (C := RX12) (T := TX12) (N := 40) hx hb hts inX12 hown hK hP 0 rfl rfl 8 (by decide) k2 (fun _ h9 => h9) rfl dX12_moves_253 ?_
          refine lv_iload_n hx hb dX12_moves_256 rfl (lv_at hl 3 rfl) ?_
          refine lv_aload_n hx hb dX12_moves_257 rfl (lv_at hl 1 rfl) ?_
          refine va_get (D := D) (ci := 10) (v := .ref (g 5)) (C := RX12) (T := TX12) (N := 40) hx hb hts inX12 hown hK hP 0 rfl rfl 8 (by decide) k2 (fun _ h9 => h9) rfl dX12_moves_258 ?_
          refine lv_iload_n hx hb dX12_moves_261 rfl (lv_at hl 3 rfl) ?_
          refine lv_iconst (v := 1) hx hb dX12_moves_262 (by decide +kernel) ?_
          refine lv_isub hx hb dX12_moves_263 ?_
          refine lv_aload_n hx hb dX12_moves_264 rfl (lv_at hl 1 rfl) ?_
          refine va_get (D := D) (ci := 10) (v := .ref (g 5)) (C := RX12) (T := TX12) (N := 40) hx hb hts inX12 hown hK hP 0 rfl rfl 8 (by decide) k2 (fun _ h9 => h9) rfl dX12_moves_265 ?_
          refine lv_iload_n hx hb dX12_moves_268 rfl (lv_at hl 3 rfl) ?_
          have ⟨c40, hE⟩ := ck_some hE
          refine va_iald hx hb hK hP 5 0 rfl rfl c40 dX12_moves_269 ?_
          refine lv_isub hx hb dX12_moves_270 ?_
          have ⟨c41, hE⟩ := ck_some hE
          refine va_iald hx hb hK hP 5 0 rfl rfl c41 dX12_moves_271 ?_
          have ⟨c42, hE⟩ := ck_some hE
          refine va_iast hx hb hK hP hD hS 5 0 rfl rfl c42 dX12_moves_272 (fun H locs hP hD hS => ?_)
          have hP : va_P D vwCl (wX g cA t ((s.1, upd s.2 y2.toNatClampNeg (s.2 (((y2 - 1) - (s.2 y2.toNatClampNeg)).toNatClampNeg)))) r c y d k q o m) H := hP
          have hD : va_D A (wX g cA t ((s.1, upd s.2 y2.toNatClampNeg (s.2 (((y2 - 1) - (s.2 y2.toNatClampNeg)).toNatClampNeg)))) r c y d k q o m) := hD
          refine lv_iconst (v := 0) hx hb dX12_moves_273 (by decide +kernel) ?_
          obtain rfl := Option.some.inj hE
          exact rt_i hx hb hr hP hS rfl hlocks dX12_moves_274
        · have hE := if_f c39 hE
          refine lv_bipush (v := (-4)) hx hb dX12_moves_249 (by decide +kernel) ?_
          obtain rfl := Option.some.inj hE
          exact rt_i hx hb hr hP hS rfl hlocks dX12_moves_251
    have hE := if_f c35 hE
    have tc2 := lv_neT c2 (show (8 : Int32).toInt = 8 by decide +kernel)
    have tc7 := lv_neT c7 (show (9 : Int32).toInt = 9 by decide +kernel)
    have tc8 := lv_neT c8 (show (10 : Int32).toInt = 10 by decide +kernel)
    have tc11 := lv_neT c11 (show (11 : Int32).toInt = 11 by decide +kernel)
    have tc16 := lv_neT c16 (show (12 : Int32).toInt = 12 by decide +kernel)
    have tc21 := lv_neT c21 (show (13 : Int32).toInt = 13 by decide +kernel)
    have tc24 := lv_neT c24 (show (14 : Int32).toInt = 14 by decide +kernel)
    have tc31 := lv_neT c31 (show (15 : Int32).toInt = 15 by decide +kernel)
    have tc35 := lv_neT c35 (show (16 : Int32).toInt = 16 by decide +kernel)
    refine lv_tableOut (tgt := 275) hx hb dX12_moves_23 (by omega) (by decide) ?_
    refine lv_aload_n hx hb dX12_moves_275 rfl (lv_at hl 1 rfl) ?_
    refine lv_iload_n hx hb dX12_moves_276 rfl (lv_at hl 2 rfl) ?_
    refine lv_iload_n hx hb dX12_moves_277 rfl (lv_at hl 0 rfl) ?_
    obtain ⟨u43, h44, hE⟩ := bd_some hE
    refine cw_i (As := [.int y1, .int z0]) (rest := []) (r := u43.1) (wc := (wX g cA t s r c y d k q o m)) ⟨hx, hb, hml, hown, hts⟩ (c_X12_stores l D cA g H.size y1 z0 t s r c y d k q o m u43 h44) (cwV 2 hts hX12_moves_X12_stores_400 rfl rfl rfl (by decide +kernel) ⟨Nat.le_of_ble_eq_true rfl, Nat.le_of_ble_eq_true rfl⟩) rfl hl.1 rfl (Nat.le_of_ble_eq_true rfl) dX12_moves_278 ⟨Nat.zero_le _, Nat.zero_le _⟩ hK hP hD hS hA (va_recv hK hP (ci := 10) (q0 := 0) rfl rfl) [g 0, g 1, g 2, g 3, g 4, g 5, g 6, g 7, g 8, g 9, g 10, g 11, g 12, g 13, g 14, g 15, g 16, g 17, g 18, g 19] rfl rfl (fun _ _ _ _ h => h) (fun _ _ _ => trivial) (fun H locs hP hD hS => ?_)
    have hP : va_P D vwCl (wX g cA t u43.2.1 u43.2.2 c y d k q o m) H := hP
    have hD : va_D A (wX g cA t u43.2.1 u43.2.2 c y d k q o m) := hD
    obtain rfl := Option.some.inj hE
    exact rt_i hx hb hr hP hS rfl hlocks dX12_moves_281
  unfold f_X12_moves at hE
  suffices main : ∀ (H : Heap) (locs : List Loc) (ls : Array Slot), va_P D vwCl (wX g cA t s r c y d k q o m) H → va_D A (wX g cA t s r c y d k q o m) → va_S A S0.heap H locs → lv_has ls 4 [(0, .ref (g 0)), (1, .int x1)] → W PP l EE (headSpec wsX12_moves ({ frames := 2, cells := 0, slots := 0, locals := 43 })).room S0 MM (#[.ref (g 0), .int x1] : Array Value) below meth CC H locs 0 0 (MQ below (cQi D (wX g cA t u.2.1 u.2.2 c y d k q o m) A u.1) (#[.ref (g 0), .int x1] : Array Value) S0 0 0 A) (F0 MM 0 ls []) from main _ _ _ hP hD hS hl
  intro H locs ls hP hD hS hl
  refine lv_aload_n hx hb dX12_moves_0 rfl (lv_at hl 0 rfl) ?_
  refine va_get (D := D) (ci := 10) (v := .int s.1) (C := RX12) (T := TX12) (N := 40) hx hb hts inX12 hown hK hP 0 rfl rfl 9 (by decide) k0 (fun _ h9 => h9) rfl dX12_moves_1 ?_
  refine lv_iconst (v := 1) hx hb dX12_moves_4 (by decide +kernel) ?_
  refine lv_isub hx hb dX12_moves_5 ?_
  refine lv_istore_n (lv' := [(2, .int (s.1 - 1)), (0, .ref (g 0)), (1, .int x1)]) hx hb dX12_moves_6 rfl hl (by decide) rfl (fun ls hl => ?_)
  refine lv_aload_n hx hb dX12_moves_7 rfl (lv_at hl 1 rfl) ?_
  refine va_get (D := D) (ci := 10) (v := .int s.1) (C := RX12) (T := TX12) (N := 40) hx hb hts inX12 hown hK hP 0 rfl rfl 9 (by decide) k0 (fun _ h9 => h9) rfl dX12_moves_8 ?_
  refine lv_bipush (v := 30) hx hb dX12_moves_11 (by decide +kernel) ?_
  refine lv_icmp_ne (tgt := 20) hx hb dX12_moves_13 (by decide) (fun c1 => ?_) (fun c1 => ?_)
  · have hE := if_f c1 hE
    refine lv_iconst (v := 0) hx hb dX12_moves_20 (by decide +kernel) ?_
    exact w21  x1 (s.1 - 1) 0 s r H locs ls hP hD hS (lv_sub hl [1, 2, 0] rfl) hE
  · have hE := if_t c1 hE
    refine lv_iconst (v := 1) hx hb dX12_moves_16 (by decide +kernel) ?_
    refine lv_goto (tgt := 21) hx hb dX12_moves_17 (by decide) ?_
    exact w21  x1 (s.1 - 1) 1 s r H locs ls hP hD hS (lv_sub hl [1, 2, 0] rfl) hE
set_option maxHeartbeats 4000000 in
set_option maxRecDepth 100000 in
theorem c_X12_reckons (l : Launch) (D : va_G) (cA : Nat → ClassId) (g : Nat → Nat) (sz : Nat) (x1 : Int32) (t : mT) (s : mS) (r : mR) (c : mC) (y : mY) (d : mD) (k : mK) (q : mP) (o : mO) (m : mM) (u : Int32 × mS) (hE : f_X12_reckons x1 s = some u) : Met l yX12_reckons wsX12_reckons ({ frames := 0, cells := 0, slots := 0, locals := 0 }) (va_Pc [.ref (g 0), .int x1] (PRE D cA (wX g cA t s r c y d k q o m) sz (fun _ => True))) (cQi D (wX g cA t u.2 r c y d k q o m) (va_A (wX g cA t s r c y d k q o m) sz) u.1) 0 0 (va_A (wX g cA t s r c y d k q o m) sz) := by
  refine Met.ofW (cc := cX12_reckons) (maxL := 5) (ret := (some .int)) (by decide) rfl ?_
  intro PP EE S0 MM args below meth CC S1 B hml hv
  obtain ⟨rfl, hsz, hP, hK, hD0, hX⟩ := hv
  have hx := B.exec
  have hb := B.bytes
  have hr := B.returns
  have hts := atoms_spec (ws := wsX12_reckons) B.pre
  have hown : S0.vm.findClass RX12 = some MM.cls := findClass_of_methodNamed B.named
  have hlocks := B.notSynchronized
  subst hsz
  have hD := hD0.self (sz := S0.heap.size)
  generalize hAe : va_A (wX g cA t s r c y d k q o m) S0.heap.size = A at hD ⊢
  have hA : ∀ q : Nat, S0.heap.size ≤ q → A q := fun q h => by rw [← hAe]; exact Or.inr h
  have hS : va_S A S0.heap S0.heap [] := va_S.rf
  have k0 := hts (.fieldLink RX12 169 "WordForgeModel" "stack" "[I") (List.mem_of_getElem? (i := 1) rfl)
  have inX12 : ∀ w ∈ wsX120, w ∈ wsX12_reckons := fun _ h => List.mem_cons_of_mem _ (List.mem_append_right _ h)
  have k2 := hts (.fieldLink RX12 293 "WordForgeModel" "depth" "I") (List.mem_of_getElem? (i := 2) rfl)
  have hl := lv_entry ([.ref (g 0), .int x1]) (n := 5) (Nat.le_of_ble_eq_true rfl)
  rw [lg_entry_eq]
  generalize (lg_sl ([.ref (g 0), .int x1]) ++ List.replicate (5 - (lg_sl ([.ref (g 0), .int x1])).length) Slot.unset).toArray = ls at hl ⊢
  have hl : lv_has ls 5 [(0, .ref (g 0)), (1, .int x1)] := hl
  have w50 : ∀ (z0 : Int32) (z1 : Int32) (s : mS) (H : Heap) (locs : List Loc) (ls : Array Slot), va_P D vwCl (wX g cA t s r c y d k q o m) H → va_D A (wX g cA t s r c y d k q o m) → va_S A S0.heap H locs → lv_has ls 5 [] → b_X12_reckons_50  z0 z1 s = some u → W PP l EE (headSpec wsX12_reckons ({ frames := 0, cells := 0, slots := 0, locals := 0 })).room S0 MM (#[.ref (g 0), .int x1] : Array Value) below meth CC H locs 0 0 (MQ below (cQi D (wX g cA t u.2 r c y d k q o m) A u.1) (#[.ref (g 0), .int x1] : Array Value) S0 0 0 A) (F0 MM 50 ls [.int z0, .int z1, .ref (g 5)]) := by
    intro z0 z1 s
    intro H locs ls hP hD hS hl hE
    unfold b_X12_reckons_50 at hE
    have ⟨c27, hE⟩ := ck_some hE
    refine va_iast hx hb hK hP hD hS 5 0 rfl rfl c27 dX12_reckons_50 (fun H locs hP hD hS => ?_)
    have hP : va_P D vwCl (wX g cA t ((s.1, upd s.2 z1.toNatClampNeg z0)) r c y d k q o m) H := hP
    have hD : va_D A (wX g cA t ((s.1, upd s.2 z1.toNatClampNeg z0)) r c y d k q o m) := hD
    refine lv_iconst (v := 0) hx hb dX12_reckons_51 (by decide +kernel) ?_
    obtain rfl := Option.some.inj hE
    exact rt_i hx hb hr hP hS rfl hlocks dX12_reckons_52
  have w44 : ∀ (y2 : Int32) (z0 : Int32) (s : mS) (H : Heap) (locs : List Loc) (ls : Array Slot), va_P D vwCl (wX g cA t s r c y d k q o m) H → va_D A (wX g cA t s r c y d k q o m) → va_S A S0.heap H locs → lv_has ls 5 [(2, .int y2)] → b_X12_reckons_44  y2 z0 s = some u → W PP l EE (headSpec wsX12_reckons ({ frames := 0, cells := 0, slots := 0, locals := 0 })).room S0 MM (#[.ref (g 0), .int x1] : Array Value) below meth CC H locs 0 0 (MQ below (cQi D (wX g cA t u.2 r c y d k q o m) A u.1) (#[.ref (g 0), .int x1] : Array Value) S0 0 0 A) (F0 MM 44 ls [.int z0, .ref (g 5)]) := by
    intro y2 z0 s
    intro H locs ls hP hD hS hl hE
    unfold b_X12_reckons_44 at hE
    refine lv_iload_n hx hb dX12_reckons_44 rfl (lv_at hl 0 rfl) ?_
    refine lv_ineg hx hb dX12_reckons_45 ?_
    refine lv_goto (tgt := 50) hx hb dX12_reckons_46 (by decide) ?_
    exact w50  (-y2) z0 s H locs ls hP hD hS (lv_sub hl [] rfl) hE
  have w24 : ∀ (y1 : Int32) (y2 : Int32) (s : mS) (H : Heap) (locs : List Loc) (ls : Array Slot), va_P D vwCl (wX g cA t s r c y d k q o m) H → va_D A (wX g cA t s r c y d k q o m) → va_S A S0.heap H locs → lv_has ls 5 [(0, .ref (g 0)), (1, .int y1), (2, .int y2)] → b_X12_reckons_24  y1 y2 s = some u → W PP l EE (headSpec wsX12_reckons ({ frames := 0, cells := 0, slots := 0, locals := 0 })).room S0 MM (#[.ref (g 0), .int x1] : Array Value) below meth CC H locs 0 0 (MQ below (cQi D (wX g cA t u.2 r c y d k q o m) A u.1) (#[.ref (g 0), .int x1] : Array Value) S0 0 0 A) (F0 MM 24 ls []) := by
    intro y1 y2 s
    intro H locs ls hP hD hS hl hE
    unfold b_X12_reckons_24 at hE
    refine lv_aload_n hx hb dX12_reckons_24 rfl (lv_at hl 0 rfl) ?_
    refine va_get (D := D) (ci := 10) (v := .ref (g 5)) (C := RX12) (T := TX12) (N := 40) hx hb hts inX12 hown hK hP 0 rfl rfl 8 (by decide) k0 (fun _ h9 => h9) rfl dX12_reckons_25 ?_
    refine lv_aload_n hx hb dX12_reckons_28 rfl (lv_at hl 0 rfl) ?_
    refine va_get (D := D) (ci := 10) (v := .int s.1) (C := RX12) (T := TX12) (N := 40) hx hb hts inX12 hown hK hP 0 rfl rfl 9 (by decide) k2 (fun _ h9 => h9) rfl dX12_reckons_29 ?_
    refine lv_iconst (v := 1) hx hb dX12_reckons_32 (by decide +kernel) ?_
    refine lv_isub hx hb dX12_reckons_33 ?_
    refine lv_iload_n hx hb dX12_reckons_34 rfl (lv_at hl 1 rfl) ?_
    refine lv_bipush (v := 28) hx hb dX12_reckons_35 (by decide +kernel) ?_
    refine lv_icmp_eq (tgt := 44) hx hb dX12_reckons_37 (by decide) (fun c9 => ?_) (fun c9 => ?_)
    · have hE := if_t c9 hE
      exact w44  y2 (s.1 - 1) s H locs ls hP hD hS (lv_sub hl [2] rfl) hE
    · have hE := if_f c9 hE
      refine lv_iload_n hx hb dX12_reckons_40 rfl (lv_at hl 2 rfl) ?_
      refine lv_if_ge (tgt := 49) hx hb dX12_reckons_41 (by decide) (fun c10 => ?_) (fun c10 => ?_)
      · have hE := if_t c10 hE
        refine lv_iload_n hx hb dX12_reckons_49 rfl (lv_at hl 2 rfl) ?_
        exact w50  y2 (s.1 - 1) s H locs ls hP hD hS (lv_sub hl [] rfl) hE
      · have hE := if_f c10 hE
        exact w44  y2 (s.1 - 1) s H locs ls hP hD hS (lv_sub hl [2] rfl) hE
  have w271 : ∀ (y4 : Int32) (s : mS) (H : Heap) (locs : List Loc) (ls : Array Slot), va_P D vwCl (wX g cA t s r c y d k q o m) H → va_D A (wX g cA t s r c y d k q o m) → va_S A S0.heap H locs → lv_has ls 5 [(0, .ref (g 0)), (4, .int y4)] → b_X12_reckons_271  y4 s = some u → W PP l EE (headSpec wsX12_reckons ({ frames := 0, cells := 0, slots := 0, locals := 0 })).room S0 MM (#[.ref (g 0), .int x1] : Array Value) below meth CC H locs 0 0 (MQ below (cQi D (wX g cA t u.2 r c y d k q o m) A u.1) (#[.ref (g 0), .int x1] : Array Value) S0 0 0 A) (F0 MM 271 ls []) := by
    intro y4 s
    intro H locs ls hP hD hS hl hE
    unfold b_X12_reckons_271 at hE
    refine lv_aload_n hx hb dX12_reckons_271 rfl (lv_at hl 0 rfl) ?_
    refine va_get (D := D) (ci := 10) (v := .ref (g 5)) (C := RX12) (T := TX12) (N := 40) hx hb hts inX12 hown hK hP 0 rfl rfl 8 (by decide) k0 (fun _ h9 => h9) rfl dX12_reckons_272 ?_
    refine lv_aload_n hx hb dX12_reckons_275 rfl (lv_at hl 0 rfl) ?_
    refine va_get (D := D) (ci := 10) (v := .int s.1) (C := RX12) (T := TX12) (N := 40) hx hb hts inX12 hown hK hP 0 rfl rfl 9 (by decide) k2 (fun _ h9 => h9) rfl dX12_reckons_276 ?_
    refine lv_iconst (v := 1) hx hb dX12_reckons_279 (by decide +kernel) ?_
    refine lv_isub hx hb dX12_reckons_280 ?_
    refine lv_iload hx hb dX12_reckons_281 (lv_at hl 1 rfl) ?_
    have ⟨c28, hE⟩ := ck_some hE
    refine va_iast hx hb hK hP hD hS 5 0 rfl rfl c28 dX12_reckons_283 (fun H locs hP hD hS => ?_)
    have hP : va_P D vwCl (wX g cA t ((s.1, upd s.2 ((s.1 - 1).toNatClampNeg) y4)) r c y d k q o m) H := hP
    have hD : va_D A (wX g cA t ((s.1, upd s.2 ((s.1 - 1).toNatClampNeg) y4)) r c y d k q o m) := hD
    refine lv_iconst (v := 0) hx hb dX12_reckons_284 (by decide +kernel) ?_
    obtain rfl := Option.some.inj hE
    exact rt_i hx hb hr hP hS rfl hlocks dX12_reckons_285
  have w230 : ∀ (z0 : Int32) (s : mS) (H : Heap) (locs : List Loc) (ls : Array Slot), va_P D vwCl (wX g cA t s r c y d k q o m) H → va_D A (wX g cA t s r c y d k q o m) → va_S A S0.heap H locs → lv_has ls 5 [(0, .ref (g 0))] → b_X12_reckons_230  z0 s = some u → W PP l EE (headSpec wsX12_reckons ({ frames := 0, cells := 0, slots := 0, locals := 0 })).room S0 MM (#[.ref (g 0), .int x1] : Array Value) below meth CC H locs 0 0 (MQ below (cQi D (wX g cA t u.2 r c y d k q o m) A u.1) (#[.ref (g 0), .int x1] : Array Value) S0 0 0 A) (F0 MM 230 ls [.int z0]) := by
    intro z0 s
    intro H locs ls hP hD hS hl hE
    unfold b_X12_reckons_230 at hE
    refine lv_istore (lv' := [(4, .int z0), (0, .ref (g 0))]) hx hb dX12_reckons_230 hl (by decide) rfl (fun ls hl => ?_)
    refine lv_goto (tgt := 271) hx hb dX12_reckons_232 (by decide) ?_
    exact w271  z0 s H locs ls hP hD hS (lv_sub hl [1, 0] rfl) hE
  have w245 : ∀ (z0 : Int32) (s : mS) (H : Heap) (locs : List Loc) (ls : Array Slot), va_P D vwCl (wX g cA t s r c y d k q o m) H → va_D A (wX g cA t s r c y d k q o m) → va_S A S0.heap H locs → lv_has ls 5 [(0, .ref (g 0))] → b_X12_reckons_245  z0 s = some u → W PP l EE (headSpec wsX12_reckons ({ frames := 0, cells := 0, slots := 0, locals := 0 })).room S0 MM (#[.ref (g 0), .int x1] : Array Value) below meth CC H locs 0 0 (MQ below (cQi D (wX g cA t u.2 r c y d k q o m) A u.1) (#[.ref (g 0), .int x1] : Array Value) S0 0 0 A) (F0 MM 245 ls [.int z0]) := by
    intro z0 s
    intro H locs ls hP hD hS hl hE
    unfold b_X12_reckons_245 at hE
    refine lv_istore (lv' := [(4, .int z0), (0, .ref (g 0))]) hx hb dX12_reckons_245 hl (by decide) rfl (fun ls hl => ?_)
    refine lv_goto (tgt := 271) hx hb dX12_reckons_247 (by decide) ?_
    exact w271  z0 s H locs ls hP hD hS (lv_sub hl [1, 0] rfl) hE
  have w106 : ∀ (y1 : Int32) (y2 : Int32) (y3 : Int32) (s : mS) (H : Heap) (locs : List Loc) (ls : Array Slot), va_P D vwCl (wX g cA t s r c y d k q o m) H → va_D A (wX g cA t s r c y d k q o m) → va_S A S0.heap H locs → lv_has ls 5 [(0, .ref (g 0)), (1, .int y1), (2, .int y2), (3, .int y3)] → b_X12_reckons_106  y1 y2 y3 s = some u → W PP l EE (headSpec wsX12_reckons ({ frames := 0, cells := 0, slots := 0, locals := 0 })).room S0 MM (#[.ref (g 0), .int x1] : Array Value) below meth CC H locs 0 0 (MQ below (cQi D (wX g cA t u.2 r c y d k q o m) A u.1) (#[.ref (g 0), .int x1] : Array Value) S0 0 0 A) (F0 MM 106 ls []) := by
    intro y1 y2 y3 s
    intro H locs ls hP hD hS hl hE
    unfold b_X12_reckons_106 at hE
    refine lv_aload_n hx hb dX12_reckons_106 rfl (lv_at hl 0 rfl) ?_
    refine lv_dup hx hb dX12_reckons_107 rfl ?_
    refine va_get (D := D) (ci := 10) (v := .int s.1) (C := RX12) (T := TX12) (N := 40) hx hb hts inX12 hown hK hP 0 rfl rfl 9 (by decide) k2 (fun _ h9 => h9) rfl dX12_reckons_108 ?_
    refine lv_iconst (v := 1) hx hb dX12_reckons_111 (by decide +kernel) ?_
    refine lv_isub hx hb dX12_reckons_112 ?_
    refine va_put (D := D) (ci := 10) (v := .int (s.1 - 1)) (ty := .int) (C := RX12) (T := TX12) (N := 40) hx hb hts inX12 tyX12 tyX12_ok nmX12 hown hK hP hD hS 0 rfl rfl 9 (by decide) k2 (fun _ h9 => h9) rfl (by decide +kernel) rfl rfl (Nat.le_of_ble_eq_true rfl) dX12_reckons_113 (fun H locs hP hD hS => ?_)
    have hP : va_P D vwCl (wX g cA t ((s.1 - 1, s.2)) r c y d k q o m) H := hP
    have hD : va_D A (wX g cA t ((s.1 - 1, s.2)) r c y d k q o m) := hD
    refine lv_iconst (v := 0) hx hb dX12_reckons_116 (by decide +kernel) ?_
    refine lv_istore (lv' := [(4, .int 0), (0, .ref (g 0)), (1, .int y1), (2, .int y2), (3, .int y3)]) hx hb dX12_reckons_117 hl (by decide) rfl (fun ls hl => ?_)
    refine lv_iload_n hx hb dX12_reckons_119 rfl (lv_at hl 2 rfl) ?_
    by_cases c12 : y1 = 23
    · have hE := if_t c12 hE
      refine lv_tableIn (tgt := 180) (off := 60) hx hb dX12_reckons_120 (by rw [c12]; decide +kernel) (by rw [c12]; decide +kernel) (by rw [c12]; decide +kernel) (by decide) ?_
      refine lv_iload_n hx hb dX12_reckons_180 rfl (lv_at hl 4 rfl) ?_
      refine lv_iload_n hx hb dX12_reckons_181 rfl (lv_at hl 3 rfl) ?_
      refine lv_iadd hx hb dX12_reckons_182 ?_
      refine lv_istore (lv' := [(4, .int (y3 + y2)), (0, .ref (g 0)), (1, .int y1), (2, .int y2), (3, .int y3)]) hx hb dX12_reckons_183 hl (by decide) rfl (fun ls hl => ?_)
      refine lv_goto (tgt := 271) hx hb dX12_reckons_185 (by decide) ?_
      exact w271  (y3 + y2) ((s.1 - 1, s.2)) H locs ls hP hD hS (lv_sub hl [1, 0] rfl) hE
    have hE := if_f c12 hE
    by_cases c13 : y1 = 24
    · have hE := if_t c13 hE
      refine lv_tableIn (tgt := 188) (off := 68) hx hb dX12_reckons_120 (by rw [c13]; decide +kernel) (by rw [c13]; decide +kernel) (by rw [c13]; decide +kernel) (by decide) ?_
      refine lv_iload_n hx hb dX12_reckons_188 rfl (lv_at hl 4 rfl) ?_
      refine lv_iload_n hx hb dX12_reckons_189 rfl (lv_at hl 3 rfl) ?_
      refine lv_isub hx hb dX12_reckons_190 ?_
      refine lv_istore (lv' := [(4, .int (y3 - y2)), (0, .ref (g 0)), (1, .int y1), (2, .int y2), (3, .int y3)]) hx hb dX12_reckons_191 hl (by decide) rfl (fun ls hl => ?_)
      refine lv_goto (tgt := 271) hx hb dX12_reckons_193 (by decide) ?_
      exact w271  (y3 - y2) ((s.1 - 1, s.2)) H locs ls hP hD hS (lv_sub hl [1, 0] rfl) hE
    have hE := if_f c13 hE
    by_cases c14 : y1 = 25
    · have hE := if_t c14 hE
      refine lv_tableIn (tgt := 196) (off := 76) hx hb dX12_reckons_120 (by rw [c14]; decide +kernel) (by rw [c14]; decide +kernel) (by rw [c14]; decide +kernel) (by decide) ?_
      refine lv_iload_n hx hb dX12_reckons_196 rfl (lv_at hl 4 rfl) ?_
      refine lv_iload_n hx hb dX12_reckons_197 rfl (lv_at hl 3 rfl) ?_
      refine lv_imul hx hb dX12_reckons_198 ?_
      refine lv_istore (lv' := [(4, .int (y3 * y2)), (0, .ref (g 0)), (1, .int y1), (2, .int y2), (3, .int y3)]) hx hb dX12_reckons_199 hl (by decide) rfl (fun ls hl => ?_)
      refine lv_goto (tgt := 271) hx hb dX12_reckons_201 (by decide) ?_
      exact w271  (y3 * y2) ((s.1 - 1, s.2)) H locs ls hP hD hS (lv_sub hl [1, 0] rfl) hE
    have hE := if_f c14 hE
    by_cases c15 : y1 = 26
    · have hE := if_t c15 hE
      refine lv_tableIn (tgt := 204) (off := 84) hx hb dX12_reckons_120 (by rw [c15]; decide +kernel) (by rw [c15]; decide +kernel) (by rw [c15]; decide +kernel) (by decide) ?_
      refine lv_iload_n hx hb dX12_reckons_204 rfl (lv_at hl 4 rfl) ?_
      refine lv_iload_n hx hb dX12_reckons_205 rfl (lv_at hl 3 rfl) ?_
      have ⟨c16, hE⟩ := ck_some hE
      refine lv_idiv hx hb dX12_reckons_206 c16 ?_
      refine lv_istore (lv' := [(4, .int (y3 / y2)), (0, .ref (g 0)), (1, .int y1), (2, .int y2), (3, .int y3)]) hx hb dX12_reckons_207 hl (by decide) rfl (fun ls hl => ?_)
      refine lv_goto (tgt := 271) hx hb dX12_reckons_209 (by decide) ?_
      exact w271  (y3 / y2) ((s.1 - 1, s.2)) H locs ls hP hD hS (lv_sub hl [1, 0] rfl) hE
    have hE := if_f c15 hE
    by_cases c17 : y1 = 27
    · have hE := if_t c17 hE
      refine lv_tableIn (tgt := 212) (off := 92) hx hb dX12_reckons_120 (by rw [c17]; decide +kernel) (by rw [c17]; decide +kernel) (by rw [c17]; decide +kernel) (by decide) ?_
      refine lv_iload_n hx hb dX12_reckons_212 rfl (lv_at hl 4 rfl) ?_
      refine lv_iload_n hx hb dX12_reckons_213 rfl (lv_at hl 3 rfl) ?_
      have ⟨c18, hE⟩ := ck_some hE
      refine lv_irem hx hb dX12_reckons_214 c18 ?_
      refine lv_istore (lv' := [(4, .int (y3 - y3 / y2 * y2)), (0, .ref (g 0)), (1, .int y1), (2, .int y2), (3, .int y3)]) hx hb dX12_reckons_215 hl (by decide) rfl (fun ls hl => ?_)
      refine lv_goto (tgt := 271) hx hb dX12_reckons_217 (by decide) ?_
      exact w271  (y3 - y3 / y2 * y2) ((s.1 - 1, s.2)) H locs ls hP hD hS (lv_sub hl [1, 0] rfl) hE
    have hE := if_f c17 hE
    by_cases c19 : y1 = 30
    · have hE := if_t c19 hE
      refine lv_tableIn (tgt := 220) (off := 100) hx hb dX12_reckons_120 (by rw [c19]; decide +kernel) (by rw [c19]; decide +kernel) (by rw [c19]; decide +kernel) (by decide) ?_
      refine lv_iload_n hx hb dX12_reckons_220 rfl (lv_at hl 4 rfl) ?_
      refine lv_iload_n hx hb dX12_reckons_221 rfl (lv_at hl 3 rfl) ?_
      refine lv_icmp_ge (tgt := 229) hx hb dX12_reckons_222 (by decide) (fun c20 => ?_) (fun c20 => ?_)
      · have hE := if_t c20 hE
        refine lv_iload_n hx hb dX12_reckons_229 rfl (lv_at hl 3 rfl) ?_
        exact w230  y2 ((s.1 - 1, s.2)) H locs ls hP hD hS (lv_sub hl [1] rfl) hE
      · have hE := if_f c20 hE
        refine lv_iload_n hx hb dX12_reckons_225 rfl (lv_at hl 4 rfl) ?_
        refine lv_goto (tgt := 230) hx hb dX12_reckons_226 (by decide) ?_
        exact w230  y3 ((s.1 - 1, s.2)) H locs ls hP hD hS (lv_sub hl [1] rfl) hE
    have hE := if_f c19 hE
    by_cases c21 : y1 = 31
    · have hE := if_t c21 hE
      refine lv_tableIn (tgt := 235) (off := 115) hx hb dX12_reckons_120 (by rw [c21]; decide +kernel) (by rw [c21]; decide +kernel) (by rw [c21]; decide +kernel) (by decide) ?_
      refine lv_iload_n hx hb dX12_reckons_235 rfl (lv_at hl 4 rfl) ?_
      refine lv_iload_n hx hb dX12_reckons_236 rfl (lv_at hl 3 rfl) ?_
      refine lv_icmp_le (tgt := 244) hx hb dX12_reckons_237 (by decide) (fun c22 => ?_) (fun c22 => ?_)
      · have hE := if_t c22 hE
        refine lv_iload_n hx hb dX12_reckons_244 rfl (lv_at hl 3 rfl) ?_
        exact w245  y2 ((s.1 - 1, s.2)) H locs ls hP hD hS (lv_sub hl [1] rfl) hE
      · have hE := if_f c22 hE
        refine lv_iload_n hx hb dX12_reckons_240 rfl (lv_at hl 4 rfl) ?_
        refine lv_goto (tgt := 245) hx hb dX12_reckons_241 (by decide) ?_
        exact w245  y3 ((s.1 - 1, s.2)) H locs ls hP hD hS (lv_sub hl [1] rfl) hE
    have hE := if_f c21 hE
    by_cases c23 : y1 = 32
    · have hE := if_t c23 hE
      refine lv_tableIn (tgt := 250) (off := 130) hx hb dX12_reckons_120 (by rw [c23]; decide +kernel) (by rw [c23]; decide +kernel) (by rw [c23]; decide +kernel) (by decide) ?_
      refine lv_iload_n hx hb dX12_reckons_250 rfl (lv_at hl 4 rfl) ?_
      refine lv_iload_n hx hb dX12_reckons_251 rfl (lv_at hl 3 rfl) ?_
      refine lv_iand hx hb dX12_reckons_252 ?_
      refine lv_istore (lv' := [(4, .int (y3 &&& y2)), (0, .ref (g 0)), (1, .int y1), (2, .int y2), (3, .int y3)]) hx hb dX12_reckons_253 hl (by decide) rfl (fun ls hl => ?_)
      refine lv_goto (tgt := 271) hx hb dX12_reckons_255 (by decide) ?_
      exact w271  (y3 &&& y2) ((s.1 - 1, s.2)) H locs ls hP hD hS (lv_sub hl [1, 0] rfl) hE
    have hE := if_f c23 hE
    by_cases c24 : y1 = 33
    · have hE := if_t c24 hE
      refine lv_tableIn (tgt := 258) (off := 138) hx hb dX12_reckons_120 (by rw [c24]; decide +kernel) (by rw [c24]; decide +kernel) (by rw [c24]; decide +kernel) (by decide) ?_
      refine lv_iload_n hx hb dX12_reckons_258 rfl (lv_at hl 4 rfl) ?_
      refine lv_iload_n hx hb dX12_reckons_259 rfl (lv_at hl 3 rfl) ?_
      refine lv_ior hx hb dX12_reckons_260 ?_
      refine lv_istore (lv' := [(4, .int (y3 ||| y2)), (0, .ref (g 0)), (1, .int y1), (2, .int y2), (3, .int y3)]) hx hb dX12_reckons_261 hl (by decide) rfl (fun ls hl => ?_)
      refine lv_goto (tgt := 271) hx hb dX12_reckons_263 (by decide) ?_
      exact w271  (y3 ||| y2) ((s.1 - 1, s.2)) H locs ls hP hD hS (lv_sub hl [1, 0] rfl) hE
    have hE := if_f c24 hE
    by_cases c25 : y1 = 28
    · refine lv_tableIn (tgt := 266) (off := 146) hx hb dX12_reckons_120 (by rw [c25]; decide +kernel) (by rw [c25]; decide +kernel) (by rw [c25]; decide +kernel) (by decide) ?_
      refine lv_iload_n hx hb dX12_reckons_266 rfl (lv_at hl 4 rfl) ?_
      refine lv_iload_n hx hb dX12_reckons_267 rfl (lv_at hl 3 rfl) ?_
      refine lv_ixor hx hb dX12_reckons_268 ?_
      refine lv_istore (lv' := [(4, .int (y3 ^^^ y2)), (0, .ref (g 0)), (1, .int y1), (2, .int y2), (3, .int y3)]) hx hb dX12_reckons_269 hl (by decide) rfl (fun ls hl => ?_)
      exact w271  (y3 ^^^ y2) ((s.1 - 1, s.2)) H locs ls hP hD hS (lv_sub hl [1, 0] rfl) hE
    by_cases c26 : y1 = 29
    · refine lv_tableIn (tgt := 266) (off := 146) hx hb dX12_reckons_120 (by rw [c26]; decide +kernel) (by rw [c26]; decide +kernel) (by rw [c26]; decide +kernel) (by decide) ?_
      refine lv_iload_n hx hb dX12_reckons_266 rfl (lv_at hl 4 rfl) ?_
      refine lv_iload_n hx hb dX12_reckons_267 rfl (lv_at hl 3 rfl) ?_
      refine lv_ixor hx hb dX12_reckons_268 ?_
      refine lv_istore (lv' := [(4, .int (y3 ^^^ y2)), (0, .ref (g 0)), (1, .int y1), (2, .int y2), (3, .int y3)]) hx hb dX12_reckons_269 hl (by decide) rfl (fun ls hl => ?_)
      exact w271  (y3 ^^^ y2) ((s.1 - 1, s.2)) H locs ls hP hD hS (lv_sub hl [1, 0] rfl) hE
    have tc12 := lv_neT c12 (show (23 : Int32).toInt = 23 by decide +kernel)
    have tc13 := lv_neT c13 (show (24 : Int32).toInt = 24 by decide +kernel)
    have tc14 := lv_neT c14 (show (25 : Int32).toInt = 25 by decide +kernel)
    have tc15 := lv_neT c15 (show (26 : Int32).toInt = 26 by decide +kernel)
    have tc17 := lv_neT c17 (show (27 : Int32).toInt = 27 by decide +kernel)
    have tc19 := lv_neT c19 (show (30 : Int32).toInt = 30 by decide +kernel)
    have tc21 := lv_neT c21 (show (31 : Int32).toInt = 31 by decide +kernel)
    have tc23 := lv_neT c23 (show (32 : Int32).toInt = 32 by decide +kernel)
    have tc24 := lv_neT c24 (show (33 : Int32).toInt = 33 by decide +kernel)
    have tc25 := lv_neT c25 (show (28 : Int32).toInt = 28 by decide +kernel)
    have tc26 := lv_neT c26 (show (29 : Int32).toInt = 29 by decide +kernel)
    refine lv_tableOut (tgt := 266) hx hb dX12_reckons_120 (by omega) (by decide) ?_
    refine lv_iload_n hx hb dX12_reckons_266 rfl (lv_at hl 4 rfl) ?_
    refine lv_iload_n hx hb dX12_reckons_267 rfl (lv_at hl 3 rfl) ?_
    refine lv_ixor hx hb dX12_reckons_268 ?_
    refine lv_istore (lv' := [(4, .int (y3 ^^^ y2)), (0, .ref (g 0)), (1, .int y1), (2, .int y2), (3, .int y3)]) hx hb dX12_reckons_269 hl (by decide) rfl (fun ls hl => ?_)
    exact w271  (y3 ^^^ y2) ((s.1 - 1, s.2)) H locs ls hP hD hS (lv_sub hl [1, 0] rfl) hE
  have w99 : ∀ (y1 : Int32) (y2 : Int32) (y3 : Int32) (s : mS) (H : Heap) (locs : List Loc) (ls : Array Slot), va_P D vwCl (wX g cA t s r c y d k q o m) H → va_D A (wX g cA t s r c y d k q o m) → va_S A S0.heap H locs → lv_has ls 5 [(0, .ref (g 0)), (1, .int y1), (2, .int y2), (3, .int y3)] → b_X12_reckons_99  y1 y2 y3 s = some u → W PP l EE (headSpec wsX12_reckons ({ frames := 0, cells := 0, slots := 0, locals := 0 })).room S0 MM (#[.ref (g 0), .int x1] : Array Value) below meth CC H locs 0 0 (MQ below (cQi D (wX g cA t u.2 r c y d k q o m) A u.1) (#[.ref (g 0), .int x1] : Array Value) S0 0 0 A) (F0 MM 99 ls []) := by
    intro y1 y2 y3 s
    intro H locs ls hP hD hS hl hE
    unfold b_X12_reckons_99 at hE
    refine lv_iload_n hx hb dX12_reckons_99 rfl (lv_at hl 2 rfl) ?_
    refine lv_if_ne (tgt := 106) hx hb dX12_reckons_100 (by decide) (fun c11 => ?_) (fun c11 => ?_)
    · have hE := if_f c11 hE
      exact w106  y1 y2 y3 s H locs ls hP hD hS (lv_sub hl [0, 1, 2, 3] rfl) hE
    · have hE := if_t c11 hE
      refine lv_bipush (v := (-10)) hx hb dX12_reckons_103 (by decide +kernel) ?_
      obtain rfl := Option.some.inj hE
      exact rt_i hx hb hr hP hS rfl hlocks dX12_reckons_105
  unfold f_X12_reckons at hE
  suffices main : ∀ (H : Heap) (locs : List Loc) (ls : Array Slot), va_P D vwCl (wX g cA t s r c y d k q o m) H → va_D A (wX g cA t s r c y d k q o m) → va_S A S0.heap H locs → lv_has ls 5 [(0, .ref (g 0)), (1, .int x1)] → W PP l EE (headSpec wsX12_reckons ({ frames := 0, cells := 0, slots := 0, locals := 0 })).room S0 MM (#[.ref (g 0), .int x1] : Array Value) below meth CC H locs 0 0 (MQ below (cQi D (wX g cA t u.2 r c y d k q o m) A u.1) (#[.ref (g 0), .int x1] : Array Value) S0 0 0 A) (F0 MM 0 ls []) from main _ _ _ hP hD hS hl
  intro H locs ls hP hD hS hl
  refine lv_aload_n hx hb dX12_reckons_0 rfl (lv_at hl 0 rfl) ?_
  refine va_get (D := D) (ci := 10) (v := .ref (g 5)) (C := RX12) (T := TX12) (N := 40) hx hb hts inX12 hown hK hP 0 rfl rfl 8 (by decide) k0 (fun _ h9 => h9) rfl dX12_reckons_1 ?_
  refine lv_aload_n hx hb dX12_reckons_4 rfl (lv_at hl 0 rfl) ?_
  refine va_get (D := D) (ci := 10) (v := .int s.1) (C := RX12) (T := TX12) (N := 40) hx hb hts inX12 hown hK hP 0 rfl rfl 9 (by decide) k2 (fun _ h9 => h9) rfl dX12_reckons_5 ?_
  refine lv_iconst (v := 1) hx hb dX12_reckons_8 (by decide +kernel) ?_
  refine lv_isub hx hb dX12_reckons_9 ?_
  have ⟨c1, hE⟩ := ck_some hE
  refine va_iald hx hb hK hP 5 0 rfl rfl c1 dX12_reckons_10 ?_
  refine lv_istore_n (lv' := [(2, .int (s.2 ((s.1 - 1).toNatClampNeg))), (0, .ref (g 0)), (1, .int x1)]) hx hb dX12_reckons_11 rfl hl (by decide) rfl (fun ls hl => ?_)
  refine lv_iload_n hx hb dX12_reckons_12 rfl (lv_at hl 2 rfl) ?_
  refine lv_bipush (v := 28) hx hb dX12_reckons_13 (by decide +kernel) ?_
  refine lv_icmp_eq (tgt := 24) hx hb dX12_reckons_15 (by decide) (fun c2 => ?_) (fun c2 => ?_)
  · have hE := if_t c2 hE
    exact w24  x1 (s.2 ((s.1 - 1).toNatClampNeg)) s H locs ls hP hD hS (lv_sub hl [1, 2, 0] rfl) hE
  · have hE := if_f c2 hE
    refine lv_iload_n hx hb dX12_reckons_18 rfl (lv_at hl 2 rfl) ?_
    refine lv_bipush (v := 29) hx hb dX12_reckons_19 (by decide +kernel) ?_
    refine lv_icmp_ne (tgt := 53) hx hb dX12_reckons_21 (by decide) (fun c3 => ?_) (fun c3 => ?_)
    · have hE := if_f c3 hE
      refine lv_iload_n hx hb dX12_reckons_53 rfl (lv_at hl 2 rfl) ?_
      refine lv_bipush (v := 35) hx hb dX12_reckons_54 (by decide +kernel) ?_
      refine lv_icmp_ne (tgt := 75) hx hb dX12_reckons_56 (by decide) (fun c4 => ?_) (fun c4 => ?_)
      · have hE := if_f c4 hE
        refine lv_aload_n hx hb dX12_reckons_75 rfl (lv_at hl 1 rfl) ?_
        refine va_get (D := D) (ci := 10) (v := .ref (g 5)) (C := RX12) (T := TX12) (N := 40) hx hb hts inX12 hown hK hP 0 rfl rfl 8 (by decide) k0 (fun _ h9 => h9) rfl dX12_reckons_76 ?_
        refine lv_aload_n hx hb dX12_reckons_79 rfl (lv_at hl 1 rfl) ?_
        refine va_get (D := D) (ci := 10) (v := .int s.1) (C := RX12) (T := TX12) (N := 40) hx hb hts inX12 hown hK hP 0 rfl rfl 9 (by decide) k2 (fun _ h9 => h9) rfl dX12_reckons_80 ?_
        refine lv_iconst (v := 2) hx hb dX12_reckons_83 (by decide +kernel) ?_
        refine lv_isub hx hb dX12_reckons_84 ?_
        have ⟨c5, hE⟩ := ck_some hE
        refine va_iald hx hb hK hP 5 0 rfl rfl c5 dX12_reckons_85 ?_
        refine lv_istore_n (lv' := [(3, .int (s.2 ((s.1 - 2).toNatClampNeg))), (2, .int (s.2 ((s.1 - 1).toNatClampNeg))), (0, .ref (g 0)), (1, .int x1)]) hx hb dX12_reckons_86 rfl hl (by decide) rfl (fun ls hl => ?_)
        refine lv_iload_n hx hb dX12_reckons_87 rfl (lv_at hl 3 rfl) ?_
        refine lv_bipush (v := 26) hx hb dX12_reckons_88 (by decide +kernel) ?_
        refine lv_icmp_eq (tgt := 99) hx hb dX12_reckons_90 (by decide) (fun c6 => ?_) (fun c6 => ?_)
        · have hE := if_t c6 hE
          exact w99  x1 (s.2 ((s.1 - 1).toNatClampNeg)) (s.2 ((s.1 - 2).toNatClampNeg)) s H locs ls hP hD hS (lv_sub hl [2, 3, 1, 0] rfl) hE
        · have hE := if_f c6 hE
          refine lv_iload_n hx hb dX12_reckons_93 rfl (lv_at hl 3 rfl) ?_
          refine lv_bipush (v := 27) hx hb dX12_reckons_94 (by decide +kernel) ?_
          refine lv_icmp_ne (tgt := 106) hx hb dX12_reckons_96 (by decide) (fun c7 => ?_) (fun c7 => ?_)
          · have hE := if_f c7 hE
            exact w106  x1 (s.2 ((s.1 - 1).toNatClampNeg)) (s.2 ((s.1 - 2).toNatClampNeg)) s H locs ls hP hD hS (lv_sub hl [2, 3, 1, 0] rfl) hE
          · have hE := if_t c7 hE
            exact w99  x1 (s.2 ((s.1 - 1).toNatClampNeg)) (s.2 ((s.1 - 2).toNatClampNeg)) s H locs ls hP hD hS (lv_sub hl [2, 3, 1, 0] rfl) hE
      · have hE := if_t c4 hE
        refine lv_aload_n hx hb dX12_reckons_59 rfl (lv_at hl 1 rfl) ?_
        refine va_get (D := D) (ci := 10) (v := .ref (g 5)) (C := RX12) (T := TX12) (N := 40) hx hb hts inX12 hown hK hP 0 rfl rfl 8 (by decide) k0 (fun _ h9 => h9) rfl dX12_reckons_60 ?_
        refine lv_aload_n hx hb dX12_reckons_63 rfl (lv_at hl 1 rfl) ?_
        refine va_get (D := D) (ci := 10) (v := .int s.1) (C := RX12) (T := TX12) (N := 40) hx hb hts inX12 hown hK hP 0 rfl rfl 9 (by decide) k2 (fun _ h9 => h9) rfl dX12_reckons_64 ?_
        refine lv_iconst (v := 1) hx hb dX12_reckons_67 (by decide +kernel) ?_
        refine lv_isub hx hb dX12_reckons_68 ?_
        refine lv_iconst (v := (-1)) hx hb dX12_reckons_69 (by decide +kernel) ?_
        refine lv_iload_n hx hb dX12_reckons_70 rfl (lv_at hl 0 rfl) ?_
        refine lv_isub hx hb dX12_reckons_71 ?_
        have ⟨c8, hE⟩ := ck_some hE
        refine va_iast hx hb hK hP hD hS 5 0 rfl rfl c8 dX12_reckons_72 (fun H locs hP hD hS => ?_)
        have hP : va_P D vwCl (wX g cA t ((s.1, upd s.2 ((s.1 - 1).toNatClampNeg) (((-1)) - (s.2 ((s.1 - 1).toNatClampNeg))))) r c y d k q o m) H := hP
        have hD : va_D A (wX g cA t ((s.1, upd s.2 ((s.1 - 1).toNatClampNeg) (((-1)) - (s.2 ((s.1 - 1).toNatClampNeg))))) r c y d k q o m) := hD
        refine lv_iconst (v := 0) hx hb dX12_reckons_73 (by decide +kernel) ?_
        obtain rfl := Option.some.inj hE
        exact rt_i hx hb hr hP hS rfl hlocks dX12_reckons_74
    · have hE := if_t c3 hE
      exact w24  x1 (s.2 ((s.1 - 1).toNatClampNeg)) s H locs ls hP hD hS (lv_sub hl [1, 2, 0] rfl) hE
set_option maxRecDepth 20000 in
theorem hX12_truth_X12_push_296 : GoodIn wsX12_truth (wsV RX12 296 RX12 yX12_push wsX12_push) := goodIn_r _ [1, 2, 3, 4, 5, 6, 7, 8, 9, 10, 11, 12, 13, 14, 15, 16, 17, 18, 19, 20, 21, 22, 23, 24, 25, 26, 27, 28, 29, 30, 31, 32, 33, 34, 35, 36, 37, 38, 39, 40, 41, 42, 43, 44, 45, 46, 47] rfl (by decide +kernel)
set_option maxHeartbeats 4000000 in
set_option maxRecDepth 100000 in
theorem c_X12_truth (l : Launch) (D : va_G) (cA : Nat → ClassId) (g : Nat → Nat) (sz : Nat) (x1 : Int32) (t : mT) (s : mS) (r : mR) (c : mC) (y : mY) (d : mD) (k : mK) (q : mP) (o : mO) (m : mM) (u : Int32 × mS) (hE : f_X12_truth x1 s = some u) : Met l yX12_truth wsX12_truth ({ frames := 1, cells := 0, slots := 0, locals := 21 }) (va_Pc [.ref (g 0), .int x1] (PRE D cA (wX g cA t s r c y d k q o m) sz (fun _ => True))) (cQi D (wX g cA t u.2 r c y d k q o m) (va_A (wX g cA t s r c y d k q o m) sz) u.1) 0 0 (va_A (wX g cA t s r c y d k q o m) sz) := by
  refine Met.ofW (cc := cX12_truth) (maxL := 2) (ret := (some .int)) (by decide) rfl ?_
  intro PP EE S0 MM args below meth CC S1 B hml hv
  obtain ⟨rfl, hsz, hP, hK, hD0, hX⟩ := hv
  have hx := B.exec
  have hb := B.bytes
  have hr := B.returns
  have hts := atoms_spec (ws := wsX12_truth) B.pre
  have hown : S0.vm.findClass RX12 = some MM.cls := findClass_of_methodNamed B.named
  have hlocks := B.notSynchronized
  subst hsz
  have hD := hD0.self (sz := S0.heap.size)
  generalize hAe : va_A (wX g cA t s r c y d k q o m) S0.heap.size = A at hD ⊢
  have hA : ∀ q : Nat, S0.heap.size ≤ q → A q := fun q h => by rw [← hAe]; exact Or.inr h
  have hS : va_S A S0.heap S0.heap [] := va_S.rf
  have hl := lv_entry ([.ref (g 0), .int x1]) (n := 2) (Nat.le_of_ble_eq_true rfl)
  rw [lg_entry_eq]
  generalize (lg_sl ([.ref (g 0), .int x1]) ++ List.replicate (2 - (lg_sl ([.ref (g 0), .int x1])).length) Slot.unset).toArray = ls at hl ⊢
  have hl : lv_has ls 2 [(0, .ref (g 0)), (1, .int x1)] := hl
  have w10 : ∀ (z0 : Int32) (s : mS) (H : Heap) (locs : List Loc) (ls : Array Slot), va_P D vwCl (wX g cA t s r c y d k q o m) H → va_D A (wX g cA t s r c y d k q o m) → va_S A S0.heap H locs → lv_has ls 2 [] → b_X12_truth_10  z0 s = some u → W PP l EE (headSpec wsX12_truth ({ frames := 1, cells := 0, slots := 0, locals := 21 })).room S0 MM (#[.ref (g 0), .int x1] : Array Value) below meth CC H locs 0 0 (MQ below (cQi D (wX g cA t u.2 r c y d k q o m) A u.1) (#[.ref (g 0), .int x1] : Array Value) S0 0 0 A) (F0 MM 10 ls [.int z0, .ref (g 0)]) := by
    intro z0 s
    intro H locs ls hP hD hS hl hE
    unfold b_X12_truth_10 at hE
    obtain ⟨u2, h3, hE⟩ := bd_some hE
    refine cw_i (As := [.int z0]) (rest := []) (r := u2.1) (wc := (wX g cA t s r c y d k q o m)) ⟨hx, hb, hml, hown, hts⟩ (c_X12_push l D cA g H.size z0 t s r c y d k q o m u2 h3) (cwV 1 hts hX12_truth_X12_push_296 rfl rfl rfl (by decide +kernel) ⟨Nat.le_of_ble_eq_true rfl, Nat.le_of_ble_eq_true rfl⟩) rfl hl.1 rfl (Nat.le_of_ble_eq_true rfl) dX12_truth_10 ⟨Nat.zero_le _, Nat.zero_le _⟩ hK hP hD hS hA (va_recv hK hP (ci := 10) (q0 := 0) rfl rfl) [g 0, g 1, g 2, g 3, g 4, g 5, g 6, g 7, g 8, g 9, g 10, g 11, g 12, g 13, g 14, g 15, g 16, g 17, g 18, g 19] rfl rfl (fun _ _ _ _ h => h) (fun _ _ _ => trivial) (fun H locs hP hD hS => ?_)
    have hP : va_P D vwCl (wX g cA t u2.2 r c y d k q o m) H := hP
    have hD : va_D A (wX g cA t u2.2 r c y d k q o m) := hD
    obtain rfl := Option.some.inj hE
    exact rt_i hx hb hr hP hS rfl hlocks dX12_truth_13
  unfold f_X12_truth at hE
  suffices main : ∀ (H : Heap) (locs : List Loc) (ls : Array Slot), va_P D vwCl (wX g cA t s r c y d k q o m) H → va_D A (wX g cA t s r c y d k q o m) → va_S A S0.heap H locs → lv_has ls 2 [(0, .ref (g 0)), (1, .int x1)] → W PP l EE (headSpec wsX12_truth ({ frames := 1, cells := 0, slots := 0, locals := 21 })).room S0 MM (#[.ref (g 0), .int x1] : Array Value) below meth CC H locs 0 0 (MQ below (cQi D (wX g cA t u.2 r c y d k q o m) A u.1) (#[.ref (g 0), .int x1] : Array Value) S0 0 0 A) (F0 MM 0 ls []) from main _ _ _ hP hD hS hl
  intro H locs ls hP hD hS hl
  refine lv_aload_n hx hb dX12_truth_0 rfl (lv_at hl 0 rfl) ?_
  refine lv_iload_n hx hb dX12_truth_1 rfl (lv_at hl 1 rfl) ?_
  refine lv_if_eq (tgt := 9) hx hb dX12_truth_2 (by decide) (fun c1 => ?_) (fun c1 => ?_)
  · have hE := if_t c1 hE
    refine lv_iconst (v := 0) hx hb dX12_truth_9 (by decide +kernel) ?_
    exact w10  0 s H locs ls hP hD hS (lv_sub hl [] rfl) hE
  · have hE := if_f c1 hE
    refine lv_iconst (v := (-1)) hx hb dX12_truth_5 (by decide +kernel) ?_
    refine lv_goto (tgt := 10) hx hb dX12_truth_6 (by decide) ?_
    exact w10  ((-1)) s H locs ls hP hD hS (lv_sub hl [] rfl) hE
set_option maxRecDepth 20000 in
theorem hX12_compares_X12_pop_390 : GoodIn wsX12_compares (wsV RX12 390 RX12 yX12_pop wsX12_pop) := goodIn_r _ [2, 3, 4, 5, 6, 7, 8, 17, 18, 19, 20, 21, 22, 23, 24, 25, 26, 27, 28, 29, 30, 31, 32, 33, 34, 35, 36, 37, 38, 39, 40, 41, 42, 43, 44, 45, 46, 47, 48, 49, 50, 51, 52, 53, 54, 55, 56] rfl (by decide +kernel)
set_option maxRecDepth 20000 in
theorem hX12_compares_X12_truth_404 : GoodIn wsX12_compares (wsV RX12 404 RX12 yX12_truth wsX12_truth) := goodIn_r _ [9, 10, 11, 5, 12, 13, 14, 15, 5, 16, 8, 7, 17, 18, 19, 20, 21, 22, 23, 24, 25, 26, 27, 28, 29, 30, 31, 32, 33, 34, 35, 36, 37, 38, 39, 40, 41, 42, 43, 44, 45, 46, 47, 48, 49, 50, 51, 52, 53, 54, 55, 56] rfl (by decide +kernel)
set_option maxRecDepth 20000 in
theorem hX12_compares_X12_push_296 : GoodIn wsX12_compares (wsV RX12 296 RX12 yX12_push wsX12_push) := goodIn_r _ [13, 14, 15, 5, 16, 8, 7, 17, 18, 19, 20, 21, 22, 23, 24, 25, 26, 27, 28, 29, 30, 31, 32, 33, 34, 35, 36, 37, 38, 39, 40, 41, 42, 43, 44, 45, 46, 47, 48, 49, 50, 51, 52, 53, 54, 55, 56] rfl (by decide +kernel)
set_option maxHeartbeats 4000000 in
set_option maxRecDepth 100000 in
theorem c_X12_compares (l : Launch) (D : va_G) (cA : Nat → ClassId) (g : Nat → Nat) (sz : Nat) (x1 : Int32) (t : mT) (s : mS) (r : mR) (c : mC) (y : mY) (d : mD) (k : mK) (q : mP) (o : mO) (m : mM) (u : Int32 × mS) (hE : f_X12_compares x1 s = some u) : Met l yX12_compares wsX12_compares ({ frames := 2, cells := 0, slots := 0, locals := 42 }) (va_Pc [.ref (g 0), .int x1] (PRE D cA (wX g cA t s r c y d k q o m) sz (fun _ => True))) (cQi D (wX g cA t u.2 r c y d k q o m) (va_A (wX g cA t s r c y d k q o m) sz) u.1) 0 0 (va_A (wX g cA t s r c y d k q o m) sz) := by
  refine Met.ofW (cc := cX12_compares) (maxL := 3) (ret := (some .int)) (by decide) rfl ?_
  intro PP EE S0 MM args below meth CC S1 B hml hv
  obtain ⟨rfl, hsz, hP, hK, hD0, hX⟩ := hv
  have hx := B.exec
  have hb := B.bytes
  have hr := B.returns
  have hts := atoms_spec (ws := wsX12_compares) B.pre
  have hown : S0.vm.findClass RX12 = some MM.cls := findClass_of_methodNamed B.named
  have hlocks := B.notSynchronized
  subst hsz
  have hD := hD0.self (sz := S0.heap.size)
  generalize hAe : va_A (wX g cA t s r c y d k q o m) S0.heap.size = A at hD ⊢
  have hA : ∀ q : Nat, S0.heap.size ≤ q → A q := fun q h => by rw [← hAe]; exact Or.inr h
  have hS : va_S A S0.heap S0.heap [] := va_S.rf
  have k0 := hts (.constantLong RX12 408 (4294967295)) (List.mem_of_getElem? (i := 1) rfl)
  have hl := lv_entry ([.ref (g 0), .int x1]) (n := 3) (Nat.le_of_ble_eq_true rfl)
  rw [lg_entry_eq]
  generalize (lg_sl ([.ref (g 0), .int x1]) ++ List.replicate (3 - (lg_sl ([.ref (g 0), .int x1])).length) Slot.unset).toArray = ls at hl ⊢
  have hl : lv_has ls 3 [(0, .ref (g 0)), (1, .int x1)] := hl
  have w54 : ∀ (z0 : Int32) (s : mS) (H : Heap) (locs : List Loc) (ls : Array Slot), va_P D vwCl (wX g cA t s r c y d k q o m) H → va_D A (wX g cA t s r c y d k q o m) → va_S A S0.heap H locs → lv_has ls 3 [] → b_X12_compares_54  z0 s = some u → W PP l EE (headSpec wsX12_compares ({ frames := 2, cells := 0, slots := 0, locals := 42 })).room S0 MM (#[.ref (g 0), .int x1] : Array Value) below meth CC H locs 0 0 (MQ below (cQi D (wX g cA t u.2 r c y d k q o m) A u.1) (#[.ref (g 0), .int x1] : Array Value) S0 0 0 A) (F0 MM 54 ls [.int z0, .ref (g 0)]) := by
    intro z0 s
    intro H locs ls hP hD hS hl hE
    unfold b_X12_compares_54 at hE
    obtain ⟨u21, h22, hE⟩ := bd_some hE
    refine cw_i (As := [.int z0]) (rest := []) (r := u21.1) (wc := (wX g cA t s r c y d k q o m)) ⟨hx, hb, hml, hown, hts⟩ (c_X12_truth l D cA g H.size z0 t s r c y d k q o m u21 h22) (cwV 1 hts hX12_compares_X12_truth_404 rfl rfl rfl (by decide +kernel) ⟨Nat.le_of_ble_eq_true rfl, Nat.le_of_ble_eq_true rfl⟩) rfl hl.1 rfl (Nat.le_of_ble_eq_true rfl) dX12_compares_54 ⟨Nat.zero_le _, Nat.zero_le _⟩ hK hP hD hS hA (va_recv hK hP (ci := 10) (q0 := 0) rfl rfl) [g 0, g 1, g 2, g 3, g 4, g 5, g 6, g 7, g 8, g 9, g 10, g 11, g 12, g 13, g 14, g 15, g 16, g 17, g 18, g 19] rfl rfl (fun _ _ _ _ h => h) (fun _ _ _ => trivial) (fun H locs hP hD hS => ?_)
    have hP : va_P D vwCl (wX g cA t u21.2 r c y d k q o m) H := hP
    have hD : va_D A (wX g cA t u21.2 r c y d k q o m) := hD
    obtain rfl := Option.some.inj hE
    exact rt_i hx hb hr hP hS rfl hlocks dX12_compares_57
  have w72 : ∀ (z0 : Int32) (s : mS) (H : Heap) (locs : List Loc) (ls : Array Slot), va_P D vwCl (wX g cA t s r c y d k q o m) H → va_D A (wX g cA t s r c y d k q o m) → va_S A S0.heap H locs → lv_has ls 3 [] → b_X12_compares_72  z0 s = some u → W PP l EE (headSpec wsX12_compares ({ frames := 2, cells := 0, slots := 0, locals := 42 })).room S0 MM (#[.ref (g 0), .int x1] : Array Value) below meth CC H locs 0 0 (MQ below (cQi D (wX g cA t u.2 r c y d k q o m) A u.1) (#[.ref (g 0), .int x1] : Array Value) S0 0 0 A) (F0 MM 72 ls [.int z0, .ref (g 0)]) := by
    intro z0 s
    intro H locs ls hP hD hS hl hE
    unfold b_X12_compares_72 at hE
    obtain ⟨u23, h24, hE⟩ := bd_some hE
    refine cw_i (As := [.int z0]) (rest := []) (r := u23.1) (wc := (wX g cA t s r c y d k q o m)) ⟨hx, hb, hml, hown, hts⟩ (c_X12_truth l D cA g H.size z0 t s r c y d k q o m u23 h24) (cwV 1 hts hX12_compares_X12_truth_404 rfl rfl rfl (by decide +kernel) ⟨Nat.le_of_ble_eq_true rfl, Nat.le_of_ble_eq_true rfl⟩) rfl hl.1 rfl (Nat.le_of_ble_eq_true rfl) dX12_compares_72 ⟨Nat.zero_le _, Nat.zero_le _⟩ hK hP hD hS hA (va_recv hK hP (ci := 10) (q0 := 0) rfl rfl) [g 0, g 1, g 2, g 3, g 4, g 5, g 6, g 7, g 8, g 9, g 10, g 11, g 12, g 13, g 14, g 15, g 16, g 17, g 18, g 19] rfl rfl (fun _ _ _ _ h => h) (fun _ _ _ => trivial) (fun H locs hP hD hS => ?_)
    have hP : va_P D vwCl (wX g cA t u23.2 r c y d k q o m) H := hP
    have hD : va_D A (wX g cA t u23.2 r c y d k q o m) := hD
    obtain rfl := Option.some.inj hE
    exact rt_i hx hb hr hP hS rfl hlocks dX12_compares_75
  have w101 : ∀ (z0 : Int32) (s : mS) (H : Heap) (locs : List Loc) (ls : Array Slot), va_P D vwCl (wX g cA t s r c y d k q o m) H → va_D A (wX g cA t s r c y d k q o m) → va_S A S0.heap H locs → lv_has ls 3 [] → b_X12_compares_101  z0 s = some u → W PP l EE (headSpec wsX12_compares ({ frames := 2, cells := 0, slots := 0, locals := 42 })).room S0 MM (#[.ref (g 0), .int x1] : Array Value) below meth CC H locs 0 0 (MQ below (cQi D (wX g cA t u.2 r c y d k q o m) A u.1) (#[.ref (g 0), .int x1] : Array Value) S0 0 0 A) (F0 MM 101 ls [.int z0, .ref (g 0)]) := by
    intro z0 s
    intro H locs ls hP hD hS hl hE
    unfold b_X12_compares_101 at hE
    obtain ⟨u25, h26, hE⟩ := bd_some hE
    refine cw_i (As := [.int z0]) (rest := []) (r := u25.1) (wc := (wX g cA t s r c y d k q o m)) ⟨hx, hb, hml, hown, hts⟩ (c_X12_truth l D cA g H.size z0 t s r c y d k q o m u25 h26) (cwV 1 hts hX12_compares_X12_truth_404 rfl rfl rfl (by decide +kernel) ⟨Nat.le_of_ble_eq_true rfl, Nat.le_of_ble_eq_true rfl⟩) rfl hl.1 rfl (Nat.le_of_ble_eq_true rfl) dX12_compares_101 ⟨Nat.zero_le _, Nat.zero_le _⟩ hK hP hD hS hA (va_recv hK hP (ci := 10) (q0 := 0) rfl rfl) [g 0, g 1, g 2, g 3, g 4, g 5, g 6, g 7, g 8, g 9, g 10, g 11, g 12, g 13, g 14, g 15, g 16, g 17, g 18, g 19] rfl rfl (fun _ _ _ _ h => h) (fun _ _ _ => trivial) (fun H locs hP hD hS => ?_)
    have hP : va_P D vwCl (wX g cA t u25.2 r c y d k q o m) H := hP
    have hD : va_D A (wX g cA t u25.2 r c y d k q o m) := hD
    obtain rfl := Option.some.inj hE
    exact rt_i hx hb hr hP hS rfl hlocks dX12_compares_104
  have w115 : ∀ (z0 : Int32) (s : mS) (H : Heap) (locs : List Loc) (ls : Array Slot), va_P D vwCl (wX g cA t s r c y d k q o m) H → va_D A (wX g cA t s r c y d k q o m) → va_S A S0.heap H locs → lv_has ls 3 [] → b_X12_compares_115  z0 s = some u → W PP l EE (headSpec wsX12_compares ({ frames := 2, cells := 0, slots := 0, locals := 42 })).room S0 MM (#[.ref (g 0), .int x1] : Array Value) below meth CC H locs 0 0 (MQ below (cQi D (wX g cA t u.2 r c y d k q o m) A u.1) (#[.ref (g 0), .int x1] : Array Value) S0 0 0 A) (F0 MM 115 ls [.int z0, .ref (g 0)]) := by
    intro z0 s
    intro H locs ls hP hD hS hl hE
    unfold b_X12_compares_115 at hE
    obtain ⟨u27, h28, hE⟩ := bd_some hE
    refine cw_i (As := [.int z0]) (rest := []) (r := u27.1) (wc := (wX g cA t s r c y d k q o m)) ⟨hx, hb, hml, hown, hts⟩ (c_X12_truth l D cA g H.size z0 t s r c y d k q o m u27 h28) (cwV 1 hts hX12_compares_X12_truth_404 rfl rfl rfl (by decide +kernel) ⟨Nat.le_of_ble_eq_true rfl, Nat.le_of_ble_eq_true rfl⟩) rfl hl.1 rfl (Nat.le_of_ble_eq_true rfl) dX12_compares_115 ⟨Nat.zero_le _, Nat.zero_le _⟩ hK hP hD hS hA (va_recv hK hP (ci := 10) (q0 := 0) rfl rfl) [g 0, g 1, g 2, g 3, g 4, g 5, g 6, g 7, g 8, g 9, g 10, g 11, g 12, g 13, g 14, g 15, g 16, g 17, g 18, g 19] rfl rfl (fun _ _ _ _ h => h) (fun _ _ _ => trivial) (fun H locs hP hD hS => ?_)
    have hP : va_P D vwCl (wX g cA t u27.2 r c y d k q o m) H := hP
    have hD : va_D A (wX g cA t u27.2 r c y d k q o m) := hD
    obtain rfl := Option.some.inj hE
    exact rt_i hx hb hr hP hS rfl hlocks dX12_compares_118
  have w129 : ∀ (z0 : Int32) (s : mS) (H : Heap) (locs : List Loc) (ls : Array Slot), va_P D vwCl (wX g cA t s r c y d k q o m) H → va_D A (wX g cA t s r c y d k q o m) → va_S A S0.heap H locs → lv_has ls 3 [] → b_X12_compares_129  z0 s = some u → W PP l EE (headSpec wsX12_compares ({ frames := 2, cells := 0, slots := 0, locals := 42 })).room S0 MM (#[.ref (g 0), .int x1] : Array Value) below meth CC H locs 0 0 (MQ below (cQi D (wX g cA t u.2 r c y d k q o m) A u.1) (#[.ref (g 0), .int x1] : Array Value) S0 0 0 A) (F0 MM 129 ls [.int z0, .ref (g 0)]) := by
    intro z0 s
    intro H locs ls hP hD hS hl hE
    unfold b_X12_compares_129 at hE
    obtain ⟨u29, h30, hE⟩ := bd_some hE
    refine cw_i (As := [.int z0]) (rest := []) (r := u29.1) (wc := (wX g cA t s r c y d k q o m)) ⟨hx, hb, hml, hown, hts⟩ (c_X12_truth l D cA g H.size z0 t s r c y d k q o m u29 h30) (cwV 1 hts hX12_compares_X12_truth_404 rfl rfl rfl (by decide +kernel) ⟨Nat.le_of_ble_eq_true rfl, Nat.le_of_ble_eq_true rfl⟩) rfl hl.1 rfl (Nat.le_of_ble_eq_true rfl) dX12_compares_129 ⟨Nat.zero_le _, Nat.zero_le _⟩ hK hP hD hS hA (va_recv hK hP (ci := 10) (q0 := 0) rfl rfl) [g 0, g 1, g 2, g 3, g 4, g 5, g 6, g 7, g 8, g 9, g 10, g 11, g 12, g 13, g 14, g 15, g 16, g 17, g 18, g 19] rfl rfl (fun _ _ _ _ h => h) (fun _ _ _ => trivial) (fun H locs hP hD hS => ?_)
    have hP : va_P D vwCl (wX g cA t u29.2 r c y d k q o m) H := hP
    have hD : va_D A (wX g cA t u29.2 r c y d k q o m) := hD
    obtain rfl := Option.some.inj hE
    exact rt_i hx hb hr hP hS rfl hlocks dX12_compares_132
  have w161 : ∀ (z0 : Int32) (s : mS) (H : Heap) (locs : List Loc) (ls : Array Slot), va_P D vwCl (wX g cA t s r c y d k q o m) H → va_D A (wX g cA t s r c y d k q o m) → va_S A S0.heap H locs → lv_has ls 3 [] → b_X12_compares_161  z0 s = some u → W PP l EE (headSpec wsX12_compares ({ frames := 2, cells := 0, slots := 0, locals := 42 })).room S0 MM (#[.ref (g 0), .int x1] : Array Value) below meth CC H locs 0 0 (MQ below (cQi D (wX g cA t u.2 r c y d k q o m) A u.1) (#[.ref (g 0), .int x1] : Array Value) S0 0 0 A) (F0 MM 161 ls [.int z0, .ref (g 0)]) := by
    intro z0 s
    intro H locs ls hP hD hS hl hE
    unfold b_X12_compares_161 at hE
    obtain ⟨u31, h32, hE⟩ := bd_some hE
    refine cw_i (As := [.int z0]) (rest := []) (r := u31.1) (wc := (wX g cA t s r c y d k q o m)) ⟨hx, hb, hml, hown, hts⟩ (c_X12_push l D cA g H.size z0 t s r c y d k q o m u31 h32) (cwV 1 hts hX12_compares_X12_push_296 rfl rfl rfl (by decide +kernel) ⟨Nat.le_of_ble_eq_true rfl, Nat.le_of_ble_eq_true rfl⟩) rfl hl.1 rfl (Nat.le_of_ble_eq_true rfl) dX12_compares_161 ⟨Nat.zero_le _, Nat.zero_le _⟩ hK hP hD hS hA (va_recv hK hP (ci := 10) (q0 := 0) rfl rfl) [g 0, g 1, g 2, g 3, g 4, g 5, g 6, g 7, g 8, g 9, g 10, g 11, g 12, g 13, g 14, g 15, g 16, g 17, g 18, g 19] rfl rfl (fun _ _ _ _ h => h) (fun _ _ _ => trivial) (fun H locs hP hD hS => ?_)
    have hP : va_P D vwCl (wX g cA t u31.2 r c y d k q o m) H := hP
    have hD : va_D A (wX g cA t u31.2 r c y d k q o m) := hD
    obtain rfl := Option.some.inj hE
    exact rt_i hx hb hr hP hS rfl hlocks dX12_compares_164
  unfold f_X12_compares at hE
  suffices main : ∀ (H : Heap) (locs : List Loc) (ls : Array Slot), va_P D vwCl (wX g cA t s r c y d k q o m) H → va_D A (wX g cA t s r c y d k q o m) → va_S A S0.heap H locs → lv_has ls 3 [(0, .ref (g 0)), (1, .int x1)] → W PP l EE (headSpec wsX12_compares ({ frames := 2, cells := 0, slots := 0, locals := 42 })).room S0 MM (#[.ref (g 0), .int x1] : Array Value) below meth CC H locs 0 0 (MQ below (cQi D (wX g cA t u.2 r c y d k q o m) A u.1) (#[.ref (g 0), .int x1] : Array Value) S0 0 0 A) (F0 MM 0 ls []) from main _ _ _ hP hD hS hl
  intro H locs ls hP hD hS hl
  refine lv_aload_n hx hb dX12_compares_0 rfl (lv_at hl 0 rfl) ?_
  obtain ⟨u1, h2, hE⟩ := bd_some hE
  refine cw_i (As := []) (rest := []) (r := u1.1) (wc := (wX g cA t s r c y d k q o m)) ⟨hx, hb, hml, hown, hts⟩ (c_X12_pop l D cA g H.size t s r c y d k q o m u1 h2) (cwV 0 hts hX12_compares_X12_pop_390 rfl rfl rfl (by decide +kernel) ⟨Nat.le_of_ble_eq_true rfl, Nat.le_of_ble_eq_true rfl⟩) rfl hl.1 rfl (Nat.le_of_ble_eq_true rfl) dX12_compares_1 ⟨Nat.zero_le _, Nat.zero_le _⟩ hK hP hD hS hA (va_recv hK hP (ci := 10) (q0 := 0) rfl rfl) [g 0, g 1, g 2, g 3, g 4, g 5, g 6, g 7, g 8, g 9, g 10, g 11, g 12, g 13, g 14, g 15, g 16, g 17, g 18, g 19] rfl rfl (fun _ _ _ _ h => h) (fun _ _ _ => trivial) (fun H locs hP hD hS => ?_)
  have hP : va_P D vwCl (wX g cA t u1.2 r c y d k q o m) H := hP
  have hD : va_D A (wX g cA t u1.2 r c y d k q o m) := hD
  refine lv_istore_n (lv' := [(2, .int u1.1), (0, .ref (g 0)), (1, .int x1)]) hx hb dX12_compares_4 rfl hl (by decide) rfl (fun ls hl => ?_)
  refine lv_iload_n hx hb dX12_compares_5 rfl (lv_at hl 2 rfl) ?_
  by_cases c3 : x1 = 36
  · have hE := if_t c3 hE
    refine lv_tableIn (tgt := 40) (off := 34) hx hb dX12_compares_6 (by rw [c3]; decide +kernel) (by rw [c3]; decide +kernel) (by rw [c3]; decide +kernel) (by decide) ?_
    refine lv_aload_n hx hb dX12_compares_40 rfl (lv_at hl 1 rfl) ?_
    refine lv_aload_n hx hb dX12_compares_41 rfl (lv_at hl 1 rfl) ?_
    obtain ⟨u4, h5, hE⟩ := bd_some hE
    refine cw_i (As := []) (rest := [.ref (g 0)]) (r := u4.1) (wc := (wX g cA t u1.2 r c y d k q o m)) ⟨hx, hb, hml, hown, hts⟩ (c_X12_pop l D cA g H.size t u1.2 r c y d k q o m u4 h5) (cwV 0 hts hX12_compares_X12_pop_390 rfl rfl rfl (by decide +kernel) ⟨Nat.le_of_ble_eq_true rfl, Nat.le_of_ble_eq_true rfl⟩) rfl hl.1 rfl (Nat.le_of_ble_eq_true rfl) dX12_compares_42 ⟨Nat.zero_le _, Nat.zero_le _⟩ hK hP hD hS hA (va_recv hK hP (ci := 10) (q0 := 0) rfl rfl) [g 0, g 1, g 2, g 3, g 4, g 5, g 6, g 7, g 8, g 9, g 10, g 11, g 12, g 13, g 14, g 15, g 16, g 17, g 18, g 19] rfl rfl (fun _ _ _ _ h => h) (fun _ _ _ => trivial) (fun H locs hP hD hS => ?_)
    have hP : va_P D vwCl (wX g cA t u4.2 r c y d k q o m) H := hP
    have hD : va_D A (wX g cA t u4.2 r c y d k q o m) := hD
    refine lv_iload_n hx hb dX12_compares_45 rfl (lv_at hl 0 rfl) ?_
    refine lv_icmp_ne (tgt := 53) hx hb dX12_compares_46 (by decide) (fun c6 => ?_) (fun c6 => ?_)
    · have hE := if_f c6 hE
      refine lv_iconst (v := 0) hx hb dX12_compares_53 (by decide +kernel) ?_
      exact w54  0 u4.2 H locs ls hP hD hS (lv_sub hl [] rfl) hE
    · have hE := if_t c6 hE
      refine lv_iconst (v := 1) hx hb dX12_compares_49 (by decide +kernel) ?_
      refine lv_goto (tgt := 54) hx hb dX12_compares_50 (by decide) ?_
      exact w54  1 u4.2 H locs ls hP hD hS (lv_sub hl [] rfl) hE
  have hE := if_f c3 hE
  by_cases c7 : x1 = 37
  · have hE := if_t c7 hE
    refine lv_tableIn (tgt := 58) (off := 52) hx hb dX12_compares_6 (by rw [c7]; decide +kernel) (by rw [c7]; decide +kernel) (by rw [c7]; decide +kernel) (by decide) ?_
    refine lv_aload_n hx hb dX12_compares_58 rfl (lv_at hl 1 rfl) ?_
    refine lv_aload_n hx hb dX12_compares_59 rfl (lv_at hl 1 rfl) ?_
    obtain ⟨u8, h9, hE⟩ := bd_some hE
    refine cw_i (As := []) (rest := [.ref (g 0)]) (r := u8.1) (wc := (wX g cA t u1.2 r c y d k q o m)) ⟨hx, hb, hml, hown, hts⟩ (c_X12_pop l D cA g H.size t u1.2 r c y d k q o m u8 h9) (cwV 0 hts hX12_compares_X12_pop_390 rfl rfl rfl (by decide +kernel) ⟨Nat.le_of_ble_eq_true rfl, Nat.le_of_ble_eq_true rfl⟩) rfl hl.1 rfl (Nat.le_of_ble_eq_true rfl) dX12_compares_60 ⟨Nat.zero_le _, Nat.zero_le _⟩ hK hP hD hS hA (va_recv hK hP (ci := 10) (q0 := 0) rfl rfl) [g 0, g 1, g 2, g 3, g 4, g 5, g 6, g 7, g 8, g 9, g 10, g 11, g 12, g 13, g 14, g 15, g 16, g 17, g 18, g 19] rfl rfl (fun _ _ _ _ h => h) (fun _ _ _ => trivial) (fun H locs hP hD hS => ?_)
    have hP : va_P D vwCl (wX g cA t u8.2 r c y d k q o m) H := hP
    have hD : va_D A (wX g cA t u8.2 r c y d k q o m) := hD
    refine lv_iload_n hx hb dX12_compares_63 rfl (lv_at hl 0 rfl) ?_
    refine lv_icmp_ge (tgt := 71) hx hb dX12_compares_64 (by decide) (fun c10 => ?_) (fun c10 => ?_)
    · have hE := if_t c10 hE
      refine lv_iconst (v := 0) hx hb dX12_compares_71 (by decide +kernel) ?_
      exact w72  0 u8.2 H locs ls hP hD hS (lv_sub hl [] rfl) hE
    · have hE := if_f c10 hE
      refine lv_iconst (v := 1) hx hb dX12_compares_67 (by decide +kernel) ?_
      refine lv_goto (tgt := 72) hx hb dX12_compares_68 (by decide) ?_
      exact w72  1 u8.2 H locs ls hP hD hS (lv_sub hl [] rfl) hE
  have hE := if_f c7 hE
  by_cases c11 : x1 = 38
  · have hE := if_t c11 hE
    refine lv_tableIn (tgt := 76) (off := 70) hx hb dX12_compares_6 (by rw [c11]; decide +kernel) (by rw [c11]; decide +kernel) (by rw [c11]; decide +kernel) (by decide) ?_
    refine lv_aload_n hx hb dX12_compares_76 rfl (lv_at hl 1 rfl) ?_
    refine lv_aload_n hx hb dX12_compares_77 rfl (lv_at hl 1 rfl) ?_
    obtain ⟨u12, h13, hE⟩ := bd_some hE
    refine cw_i (As := []) (rest := [.ref (g 0)]) (r := u12.1) (wc := (wX g cA t u1.2 r c y d k q o m)) ⟨hx, hb, hml, hown, hts⟩ (c_X12_pop l D cA g H.size t u1.2 r c y d k q o m u12 h13) (cwV 0 hts hX12_compares_X12_pop_390 rfl rfl rfl (by decide +kernel) ⟨Nat.le_of_ble_eq_true rfl, Nat.le_of_ble_eq_true rfl⟩) rfl hl.1 rfl (Nat.le_of_ble_eq_true rfl) dX12_compares_78 ⟨Nat.zero_le _, Nat.zero_le _⟩ hK hP hD hS hA (va_recv hK hP (ci := 10) (q0 := 0) rfl rfl) [g 0, g 1, g 2, g 3, g 4, g 5, g 6, g 7, g 8, g 9, g 10, g 11, g 12, g 13, g 14, g 15, g 16, g 17, g 18, g 19] rfl rfl (fun _ _ _ _ h => h) (fun _ _ _ => trivial) (fun H locs hP hD hS => ?_)
    have hP : va_P D vwCl (wX g cA t u12.2 r c y d k q o m) H := hP
    have hD : va_D A (wX g cA t u12.2 r c y d k q o m) := hD
    refine lv_i2l hx hb dX12_compares_81 rfl ?_
    refine lv_ldc2 (v := 4294967295) hx hb hown k0 dX12_compares_82 ?_
    refine lv_land hx hb dX12_compares_85 ?_
    refine lv_iload_n hx hb dX12_compares_86 rfl (lv_at hl 0 rfl) ?_
    refine lv_i2l hx hb dX12_compares_87 rfl ?_
    refine lv_ldc2 (v := 4294967295) hx hb hown k0 dX12_compares_88 ?_
    refine lv_land hx hb dX12_compares_91 ?_
    refine W.lcmp hx hb dX12_compares_92 ?_
    refine lv_if_ge (tgt := 100) hx hb dX12_compares_93 (by decide) (fun c14 => ?_) (fun c14 => ?_)
    · have hE := if_t c14 hE
      refine lv_iconst (v := 0) hx hb dX12_compares_100 (by decide +kernel) ?_
      exact w101  0 u12.2 H locs ls hP hD hS (lv_sub hl [] rfl) hE
    · have hE := if_f c14 hE
      refine lv_iconst (v := 1) hx hb dX12_compares_96 (by decide +kernel) ?_
      refine lv_goto (tgt := 101) hx hb dX12_compares_97 (by decide) ?_
      exact w101  1 u12.2 H locs ls hP hD hS (lv_sub hl [] rfl) hE
  have hE := if_f c11 hE
  by_cases c15 : x1 = 39
  · have hE := if_t c15 hE
    refine lv_tableIn (tgt := 105) (off := 99) hx hb dX12_compares_6 (by rw [c15]; decide +kernel) (by rw [c15]; decide +kernel) (by rw [c15]; decide +kernel) (by decide) ?_
    refine lv_aload_n hx hb dX12_compares_105 rfl (lv_at hl 1 rfl) ?_
    refine lv_iload_n hx hb dX12_compares_106 rfl (lv_at hl 0 rfl) ?_
    refine lv_if_ne (tgt := 114) hx hb dX12_compares_107 (by decide) (fun c16 => ?_) (fun c16 => ?_)
    · have hE := if_f c16 hE
      refine lv_iconst (v := 0) hx hb dX12_compares_114 (by decide +kernel) ?_
      exact w115  0 u1.2 H locs ls hP hD hS (lv_sub hl [] rfl) hE
    · have hE := if_t c16 hE
      refine lv_iconst (v := 1) hx hb dX12_compares_110 (by decide +kernel) ?_
      refine lv_goto (tgt := 115) hx hb dX12_compares_111 (by decide) ?_
      exact w115  1 u1.2 H locs ls hP hD hS (lv_sub hl [] rfl) hE
  have hE := if_f c15 hE
  by_cases c17 : x1 = 40
  · have hE := if_t c17 hE
    refine lv_tableIn (tgt := 119) (off := 113) hx hb dX12_compares_6 (by rw [c17]; decide +kernel) (by rw [c17]; decide +kernel) (by rw [c17]; decide +kernel) (by decide) ?_
    refine lv_aload_n hx hb dX12_compares_119 rfl (lv_at hl 1 rfl) ?_
    refine lv_iload_n hx hb dX12_compares_120 rfl (lv_at hl 0 rfl) ?_
    refine lv_if_ge (tgt := 128) hx hb dX12_compares_121 (by decide) (fun c18 => ?_) (fun c18 => ?_)
    · have hE := if_t c18 hE
      refine lv_iconst (v := 0) hx hb dX12_compares_128 (by decide +kernel) ?_
      exact w129  0 u1.2 H locs ls hP hD hS (lv_sub hl [] rfl) hE
    · have hE := if_f c18 hE
      refine lv_iconst (v := 1) hx hb dX12_compares_124 (by decide +kernel) ?_
      refine lv_goto (tgt := 129) hx hb dX12_compares_125 (by decide) ?_
      exact w129  1 u1.2 H locs ls hP hD hS (lv_sub hl [] rfl) hE
  have hE := if_f c17 hE
  have tc3 := lv_neT c3 (show (36 : Int32).toInt = 36 by decide +kernel)
  have tc7 := lv_neT c7 (show (37 : Int32).toInt = 37 by decide +kernel)
  have tc11 := lv_neT c11 (show (38 : Int32).toInt = 38 by decide +kernel)
  have tc15 := lv_neT c15 (show (39 : Int32).toInt = 39 by decide +kernel)
  have tc17 := lv_neT c17 (show (40 : Int32).toInt = 40 by decide +kernel)
  refine lv_tableOut (tgt := 133) hx hb dX12_compares_6 (by omega) (by decide) ?_
  refine lv_aload_n hx hb dX12_compares_133 rfl (lv_at hl 1 rfl) ?_
  refine lv_iload_n hx hb dX12_compares_134 rfl (lv_at hl 2 rfl) ?_
  refine lv_bipush (v := 41) hx hb dX12_compares_135 (by decide +kernel) ?_
  refine lv_icmp_ne (tgt := 146) hx hb dX12_compares_137 (by decide) (fun c19 => ?_) (fun c19 => ?_)
  · have hE := if_f c19 hE
    refine lv_iload_n hx hb dX12_compares_146 rfl (lv_at hl 2 rfl) ?_
    refine lv_bipush (v := 42) hx hb dX12_compares_147 (by decide +kernel) ?_
    refine lv_icmp_ne (tgt := 158) hx hb dX12_compares_149 (by decide) (fun c20 => ?_) (fun c20 => ?_)
    · have hE := if_f c20 hE
      refine lv_iload_n hx hb dX12_compares_158 rfl (lv_at hl 0 rfl) ?_
      refine lv_iload_n hx hb dX12_compares_159 rfl (lv_at hl 0 rfl) ?_
      refine lv_iadd hx hb dX12_compares_160 ?_
      exact w161  (u1.1 + u1.1) u1.2 H locs ls hP hD hS (lv_sub hl [] rfl) hE
    · have hE := if_t c20 hE
      refine lv_iload_n hx hb dX12_compares_152 rfl (lv_at hl 0 rfl) ?_
      refine lv_iconst (v := 1) hx hb dX12_compares_153 (by decide +kernel) ?_
      refine lv_isub hx hb dX12_compares_154 ?_
      refine lv_goto (tgt := 161) hx hb dX12_compares_155 (by decide) ?_
      exact w161  (u1.1 - 1) u1.2 H locs ls hP hD hS (lv_sub hl [] rfl) hE
  · have hE := if_t c19 hE
    refine lv_iload_n hx hb dX12_compares_140 rfl (lv_at hl 0 rfl) ?_
    refine lv_iconst (v := 1) hx hb dX12_compares_141 (by decide +kernel) ?_
    refine lv_iadd hx hb dX12_compares_142 ?_
    refine lv_goto (tgt := 161) hx hb dX12_compares_143 (by decide) ?_
    exact w161  (u1.1 + 1) u1.2 H locs ls hP hD hS (lv_sub hl [] rfl) hE
set_option maxHeartbeats 4000000 in
set_option maxRecDepth 100000 in
theorem c_X12_write (l : Launch) (D : va_G) (cA : Nat → ClassId) (g : Nat → Nat) (sz : Nat) (x1 : Int32) (t : mT) (s : mS) (r : mR) (c : mC) (y : mY) (d : mD) (k : mK) (q : mP) (o : mO) (m : mM) (u : mO) (hE : f_X12_write x1 o = some u) : Met l yX12_write wsX12_write ({ frames := 0, cells := 0, slots := 0, locals := 0 }) (va_Pc [.ref (g 0), .int x1] (PRE D cA (wX g cA t s r c y d k q o m) sz (fun _ => True))) (cQv D (wX g cA t s r c y d k q u m) (va_A (wX g cA t s r c y d k q o m) sz)) 0 0 (va_A (wX g cA t s r c y d k q o m) sz) := by
  refine Met.ofW (cc := cX12_write) (maxL := 2) (ret := none) (by decide) rfl ?_
  intro PP EE S0 MM args below meth CC S1 B hml hv
  obtain ⟨rfl, hsz, hP, hK, hD0, hX⟩ := hv
  have hx := B.exec
  have hb := B.bytes
  have hr := B.returns
  have hts := atoms_spec (ws := wsX12_write) B.pre
  have hown : S0.vm.findClass RX12 = some MM.cls := findClass_of_methodNamed B.named
  have hlocks := B.notSynchronized
  subst hsz
  have hD := hD0.self (sz := S0.heap.size)
  generalize hAe : va_A (wX g cA t s r c y d k q o m) S0.heap.size = A at hD ⊢
  have hA : ∀ q : Nat, S0.heap.size ≤ q → A q := fun q h => by rw [← hAe]; exact Or.inr h
  have hS : va_S A S0.heap S0.heap [] := va_S.rf
  have k0 := hts (.fieldLink RX12 308 "WordForgeModel" "written" "I") (List.mem_of_getElem? (i := 1) rfl)
  have inX12 : ∀ w ∈ wsX120, w ∈ wsX12_write := fun _ h => List.mem_cons_of_mem _ (List.mem_append_right _ h)
  have k2 := hts (.fieldLink RX12 166 "WordForgeModel" "output" "[I") (List.mem_of_getElem? (i := 2) rfl)
  have hl := lv_entry ([.ref (g 0), .int x1]) (n := 2) (Nat.le_of_ble_eq_true rfl)
  rw [lg_entry_eq]
  generalize (lg_sl ([.ref (g 0), .int x1]) ++ List.replicate (2 - (lg_sl ([.ref (g 0), .int x1])).length) Slot.unset).toArray = ls at hl ⊢
  have hl : lv_has ls 2 [(0, .ref (g 0)), (1, .int x1)] := hl
  unfold f_X12_write at hE
  suffices main : ∀ (H : Heap) (locs : List Loc) (ls : Array Slot), va_P D vwCl (wX g cA t s r c y d k q o m) H → va_D A (wX g cA t s r c y d k q o m) → va_S A S0.heap H locs → lv_has ls 2 [(0, .ref (g 0)), (1, .int x1)] → W PP l EE (headSpec wsX12_write ({ frames := 0, cells := 0, slots := 0, locals := 0 })).room S0 MM (#[.ref (g 0), .int x1] : Array Value) below meth CC H locs 0 0 (MQ below (cQv D (wX g cA t s r c y d k q u m) A) (#[.ref (g 0), .int x1] : Array Value) S0 0 0 A) (F0 MM 0 ls []) from main _ _ _ hP hD hS hl
  intro H locs ls hP hD hS hl
  refine lv_aload_n hx hb dX12_write_0 rfl (lv_at hl 0 rfl) ?_
  refine va_get (D := D) (ci := 10) (v := .int o.1) (C := RX12) (T := TX12) (N := 40) hx hb hts inX12 hown hK hP 0 rfl rfl 7 (by decide) k0 (fun _ h9 => h9) rfl dX12_write_1 ?_
  refine lv_sipush (v := 300) hx hb dX12_write_4 (by decide +kernel) ?_
  refine lv_icmp_ne (tgt := 11) hx hb dX12_write_7 (by decide) (fun c1 => ?_) (fun c1 => ?_)
  · have hE := if_f c1 hE
    refine lv_aload_n hx hb dX12_write_11 rfl (lv_at hl 0 rfl) ?_
    refine va_get (D := D) (ci := 10) (v := .ref (g 4)) (C := RX12) (T := TX12) (N := 40) hx hb hts inX12 hown hK hP 0 rfl rfl 6 (by decide) k2 (fun _ h9 => h9) rfl dX12_write_12 ?_
    refine lv_aload_n hx hb dX12_write_15 rfl (lv_at hl 0 rfl) ?_
    refine va_get (D := D) (ci := 10) (v := .int o.1) (C := RX12) (T := TX12) (N := 40) hx hb hts inX12 hown hK hP 0 rfl rfl 7 (by decide) k0 (fun _ h9 => h9) rfl dX12_write_16 ?_
    refine lv_iload_n hx hb dX12_write_19 rfl (lv_at hl 1 rfl) ?_
    have ⟨c2, hE⟩ := ck_some hE
    refine va_iast hx hb hK hP hD hS 4 0 rfl rfl c2 dX12_write_20 (fun H locs hP hD hS => ?_)
    have hP : va_P D vwCl (wX g cA t s r c y d k q ((o.1, upd o.2 o.1.toNatClampNeg x1)) m) H := hP
    have hD : va_D A (wX g cA t s r c y d k q ((o.1, upd o.2 o.1.toNatClampNeg x1)) m) := hD
    refine lv_aload_n hx hb dX12_write_21 rfl (lv_at hl 0 rfl) ?_
    refine lv_dup hx hb dX12_write_22 rfl ?_
    refine va_get (D := D) (ci := 10) (v := .int o.1) (C := RX12) (T := TX12) (N := 40) hx hb hts inX12 hown hK hP 0 rfl rfl 7 (by decide) k0 (fun _ h9 => h9) rfl dX12_write_23 ?_
    refine lv_iconst (v := 1) hx hb dX12_write_26 (by decide +kernel) ?_
    refine lv_iadd hx hb dX12_write_27 ?_
    refine va_put (D := D) (ci := 10) (v := .int (o.1 + 1)) (ty := .int) (C := RX12) (T := TX12) (N := 40) hx hb hts inX12 tyX12 tyX12_ok nmX12 hown hK hP hD hS 0 rfl rfl 7 (by decide) k0 (fun _ h9 => h9) rfl (by decide +kernel) rfl rfl (Nat.le_of_ble_eq_true rfl) dX12_write_28 (fun H locs hP hD hS => ?_)
    have hP : va_P D vwCl (wX g cA t s r c y d k q ((o.1 + 1, upd o.2 o.1.toNatClampNeg x1)) m) H := hP
    have hD : va_D A (wX g cA t s r c y d k q ((o.1 + 1, upd o.2 o.1.toNatClampNeg x1)) m) := hD
    obtain rfl := Option.some.inj hE
    exact rt_v hx hb hr hP hS hlocks dX12_write_31
  · have hE := if_t c1 hE
    obtain rfl := Option.some.inj hE
    exact rt_v hx hb hr hP hS hlocks dX12_write_10
set_option maxRecDepth 20000 in
theorem hX12_number_X12_write_413 : GoodIn wsX12_number (wsV RX12 413 RX12 yX12_write wsX12_write) := goodIn_r _ [2, 3, 4, 5, 6, 7, 8, 9, 10, 11, 12, 13, 14, 15, 16, 17, 18, 19, 20, 21, 22, 23, 24, 25, 26, 27, 28, 29, 30, 31, 32, 33, 34, 35, 36, 37, 38, 39, 40, 41, 42, 43, 44, 45, 46, 47, 48] rfl (by decide +kernel)
set_option maxHeartbeats 4000000 in
set_option maxRecDepth 100000 in
theorem c_X12_number (l : Launch) (D : va_G) (cA : Nat → ClassId) (g : Nat → Nat) (sz : Nat) (x1 : Int32) (t : mT) (s : mS) (r : mR) (c : mC) (y : mY) (d : mD) (k : mK) (q : mP) (o : mO) (m : mM) (u : mO) (hE : f_X12_number x1 o = some u) : Met l yX12_number wsX12_number ({ frames := 1, cells := 0, slots := 0, locals := 21 }) (va_Pc [.ref (g 0), .int x1] (PRE D cA (wX g cA t s r c y d k q o m) sz (fun _ => True))) (cQv D (wX g cA t s r c y d k q u m) (va_A (wX g cA t s r c y d k q o m) sz)) 0 0 (va_A (wX g cA t s r c y d k q o m) sz) := by
  refine Met.ofW (cc := cX12_number) (maxL := 8) (ret := none) (by decide) rfl ?_
  intro PP EE S0 MM args below meth CC S1 B hml hv
  obtain ⟨rfl, hsz, hP, hK, hD0, hX⟩ := hv
  have hx := B.exec
  have hb := B.bytes
  have hr := B.returns
  have hts := atoms_spec (ws := wsX12_number) B.pre
  have hown : S0.vm.findClass RX12 = some MM.cls := findClass_of_methodNamed B.named
  have hlocks := B.notSynchronized
  subst hsz
  have hD := hD0.self (sz := S0.heap.size)
  generalize hAe : va_A (wX g cA t s r c y d k q o m) S0.heap.size = A at hD ⊢
  have hA : ∀ q : Nat, S0.heap.size ≤ q → A q := fun q h => by rw [← hAe]; exact Or.inr h
  have hS : va_S A S0.heap S0.heap [] := va_S.rf
  have k0 := hts (.constantLong RX12 251 (10)) (List.mem_of_getElem? (i := 1) rfl)
  have hl := lv_entry ([.ref (g 0), .int x1]) (n := 8) (Nat.le_of_ble_eq_true rfl)
  rw [lg_entry_eq]
  generalize (lg_sl ([.ref (g 0), .int x1]) ++ List.replicate (8 - (lg_sl ([.ref (g 0), .int x1])).length) Slot.unset).toArray = ls at hl ⊢
  have hl : lv_has ls 8 [(0, .ref (g 0)), (1, .int x1)] := hl
  have w65 : ∀ (n : Nat), ∀ (y2 : Int64) (y6 : Int64) (o : mO) (H : Heap) (locs : List Loc) (ls : Array Slot), va_P D vwCl (wX g cA t s r c y d k q o m) H → va_D A (wX g cA t s r c y d k q o m) → va_S A S0.heap H locs → lv_has ls 8 [(0, .ref (g 0)), (2, .long y2), (6, .long y6)] → b_X12_number_65 n y2 y6 o = some u → W PP l EE (headSpec wsX12_number ({ frames := 1, cells := 0, slots := 0, locals := 21 })).room S0 MM (#[.ref (g 0), .int x1] : Array Value) below meth CC H locs 0 0 (MQ below (cQv D (wX g cA t s r c y d k q u m) A) (#[.ref (g 0), .int x1] : Array Value) S0 0 0 A) (F0 MM 65 ls []) := by
    intro  n
    induction n with
    | zero => intros; rename_i hE; exact absurd hE (by simp [b_X12_number_65])
    | succ n ih65 =>
      intro y2 y6 o
      intro H locs ls hP hD hS hl hE
      unfold b_X12_number_65 at hE
      refine lv_lload hx hb dX12_number_65 (lv_at hl 2 rfl) ?_
      refine lv_lconst (v := 0) hx hb dX12_number_67 (by decide +kernel) ?_
      refine W.lcmp hx hb dX12_number_68 ?_
      refine lv_if_le (tgt := 99) hx hb dX12_number_69 (by decide) (fun c8 => ?_) (fun c8 => ?_)
      · have hE := if_t c8 hE
        obtain rfl := Option.some.inj hE
        exact rt_v hx hb hr hP hS hlocks dX12_number_99
      · have hE := if_f c8 hE
        refine lv_aload_n hx hb dX12_number_72 rfl (lv_at hl 0 rfl) ?_
        refine lv_lload_n hx hb dX12_number_73 rfl (lv_at hl 1 rfl) ?_
        refine lv_lload hx hb dX12_number_74 (lv_at hl 2 rfl) ?_
        have ⟨c9, hE⟩ := ck_some hE
        refine lv_ldiv hx hb dX12_number_76 c9 ?_
        refine lv_ldc2 (v := 10) hx hb hown k0 dX12_number_77 ?_
        have ⟨c10, hE⟩ := ck_some hE
        refine lv_lrem hx hb dX12_number_80 c10 ?_
        refine lv_l2i hx hb dX12_number_81 rfl ?_
        refine lv_bipush (v := 48) hx hb dX12_number_82 (by decide +kernel) ?_
        refine lv_iadd hx hb dX12_number_84 ?_
        obtain ⟨u11, h12, hE⟩ := bd_some hE
        refine cw_v (As := [.int ((((y2 / y6) - (y2 / y6) / 10 * 10).toInt32) + 48)]) (rest := []) (wc := (wX g cA t s r c y d k q o m)) ⟨hx, hb, hml, hown, hts⟩ (c_X12_write l D cA g H.size ((((y2 / y6) - (y2 / y6) / 10 * 10).toInt32) + 48) t s r c y d k q o m u11 h12) (cwV 1 hts hX12_number_X12_write_413 rfl rfl rfl (by decide +kernel) ⟨Nat.le_of_ble_eq_true rfl, Nat.le_of_ble_eq_true rfl⟩) rfl hl.1 rfl (Nat.le_of_ble_eq_true rfl) dX12_number_85 ⟨Nat.zero_le _, Nat.zero_le _⟩ hK hP hD hS hA (va_recv hK hP (ci := 10) (q0 := 0) rfl rfl) [g 0, g 1, g 2, g 3, g 4, g 5, g 6, g 7, g 8, g 9, g 10, g 11, g 12, g 13, g 14, g 15, g 16, g 17, g 18, g 19] rfl rfl (fun _ _ _ _ h => h) (fun _ _ _ => trivial) (fun H locs hP hD hS => ?_)
        have hP : va_P D vwCl (wX g cA t s r c y d k q u11 m) H := hP
        have hD : va_D A (wX g cA t s r c y d k q u11 m) := hD
        refine lv_lload hx hb dX12_number_88 (lv_at hl 2 rfl) ?_
        refine lv_ldc2 (v := 10) hx hb hown k0 dX12_number_90 ?_
        have ⟨c13, hE⟩ := ck_some hE
        refine lv_ldiv hx hb dX12_number_93 c13 ?_
        refine lv_lstore (lv' := [(6, .long (y6 / 10)), (0, .ref (g 0)), (2, .long y2)]) hx hb dX12_number_94 hl (by decide) rfl (fun ls hl => ?_)
        refine lv_goto (tgt := 65) hx hb dX12_number_96 (by decide) ?_
        exact ih65 y2 (y6 / 10) u11 H locs ls hP hD hS (lv_sub hl [1, 2, 0] rfl) hE
  have w61 : ∀ (y2 : Int64) (y4 : Int64) (o : mO) (H : Heap) (locs : List Loc) (ls : Array Slot), va_P D vwCl (wX g cA t s r c y d k q o m) H → va_D A (wX g cA t s r c y d k q o m) → va_S A S0.heap H locs → lv_has ls 8 [(0, .ref (g 0)), (2, .long y2), (4, .long y4)] → b_X12_number_61  y2 y4 o = some u → W PP l EE (headSpec wsX12_number ({ frames := 1, cells := 0, slots := 0, locals := 21 })).room S0 MM (#[.ref (g 0), .int x1] : Array Value) below meth CC H locs 0 0 (MQ below (cQv D (wX g cA t s r c y d k q u m) A) (#[.ref (g 0), .int x1] : Array Value) S0 0 0 A) (F0 MM 61 ls []) := by
    intro y2 y4 o
    intro H locs ls hP hD hS hl hE
    unfold b_X12_number_61 at hE
    refine lv_lload hx hb dX12_number_61 (lv_at hl 2 rfl) ?_
    refine lv_lstore (lv' := [(6, .long y4), (0, .ref (g 0)), (2, .long y2), (4, .long y4)]) hx hb dX12_number_63 hl (by decide) rfl (fun ls hl => ?_)
    exact w65 FU y2 y4 o H locs ls hP hD hS (lv_sub hl [1, 2, 0] rfl) hE
  have w51 : ∀ (y1 : Int32) (y2 : Int64) (y4 : Int64) (o : mO) (H : Heap) (locs : List Loc) (ls : Array Slot), va_P D vwCl (wX g cA t s r c y d k q o m) H → va_D A (wX g cA t s r c y d k q o m) → va_S A S0.heap H locs → lv_has ls 8 [(0, .ref (g 0)), (1, .int y1), (2, .long y2), (4, .long y4)] → b_X12_number_51  y1 y2 y4 o = some u → W PP l EE (headSpec wsX12_number ({ frames := 1, cells := 0, slots := 0, locals := 21 })).room S0 MM (#[.ref (g 0), .int x1] : Array Value) below meth CC H locs 0 0 (MQ below (cQv D (wX g cA t s r c y d k q u m) A) (#[.ref (g 0), .int x1] : Array Value) S0 0 0 A) (F0 MM 51 ls []) := by
    intro y1 y2 y4 o
    intro H locs ls hP hD hS hl hE
    unfold b_X12_number_51 at hE
    refine lv_iload_n hx hb dX12_number_51 rfl (lv_at hl 1 rfl) ?_
    refine lv_if_ge (tgt := 61) hx hb dX12_number_52 (by decide) (fun c5 => ?_) (fun c5 => ?_)
    · have hE := if_t c5 hE
      exact w61  y2 y4 o H locs ls hP hD hS (lv_sub hl [0, 2, 3] rfl) hE
    · have hE := if_f c5 hE
      refine lv_aload_n hx hb dX12_number_55 rfl (lv_at hl 0 rfl) ?_
      refine lv_bipush (v := 45) hx hb dX12_number_56 (by decide +kernel) ?_
      obtain ⟨u6, h7, hE⟩ := bd_some hE
      refine cw_v (As := [.int 45]) (rest := []) (wc := (wX g cA t s r c y d k q o m)) ⟨hx, hb, hml, hown, hts⟩ (c_X12_write l D cA g H.size 45 t s r c y d k q o m u6 h7) (cwV 1 hts hX12_number_X12_write_413 rfl rfl rfl (by decide +kernel) ⟨Nat.le_of_ble_eq_true rfl, Nat.le_of_ble_eq_true rfl⟩) rfl hl.1 rfl (Nat.le_of_ble_eq_true rfl) dX12_number_58 ⟨Nat.zero_le _, Nat.zero_le _⟩ hK hP hD hS hA (va_recv hK hP (ci := 10) (q0 := 0) rfl rfl) [g 0, g 1, g 2, g 3, g 4, g 5, g 6, g 7, g 8, g 9, g 10, g 11, g 12, g 13, g 14, g 15, g 16, g 17, g 18, g 19] rfl rfl (fun _ _ _ _ h => h) (fun _ _ _ => trivial) (fun H locs hP hD hS => ?_)
      have hP : va_P D vwCl (wX g cA t s r c y d k q u6 m) H := hP
      have hD : va_D A (wX g cA t s r c y d k q u6 m) := hD
      exact w61  y2 y4 u6 H locs ls hP hD hS (lv_sub hl [0, 2, 3] rfl) hE
  have w19 : ∀ (n : Nat), ∀ (y1 : Int32) (y2 : Int64) (y4 : Int64) (y6 : Int32) (o : mO) (H : Heap) (locs : List Loc) (ls : Array Slot), va_P D vwCl (wX g cA t s r c y d k q o m) H → va_D A (wX g cA t s r c y d k q o m) → va_S A S0.heap H locs → lv_has ls 8 [(0, .ref (g 0)), (1, .int y1), (2, .long y2), (4, .long y4), (6, .int y6)] → b_X12_number_19 n y1 y2 y4 y6 o = some u → W PP l EE (headSpec wsX12_number ({ frames := 1, cells := 0, slots := 0, locals := 21 })).room S0 MM (#[.ref (g 0), .int x1] : Array Value) below meth CC H locs 0 0 (MQ below (cQv D (wX g cA t s r c y d k q u m) A) (#[.ref (g 0), .int x1] : Array Value) S0 0 0 A) (F0 MM 19 ls []) := by
    intro  n
    induction n with
    | zero => intros; rename_i hE; exact absurd hE (by simp [b_X12_number_19])
    | succ n ih19 =>
      intro y1 y2 y4 y6 o
      intro H locs ls hP hD hS hl hE
      unfold b_X12_number_19 at hE
      refine lv_iload hx hb dX12_number_19 (lv_at hl 4 rfl) ?_
      refine lv_bipush (v := 10) hx hb dX12_number_21 (by decide +kernel) ?_
      refine lv_icmp_ge (tgt := 51) hx hb dX12_number_23 (by decide) (fun c2 => ?_) (fun c2 => ?_)
      · have hE := if_t c2 hE
        exact w51  y1 y2 y4 o H locs ls hP hD hS (lv_sub hl [0, 1, 2, 3] rfl) hE
      · have hE := if_f c2 hE
        refine lv_lload_n hx hb dX12_number_26 rfl (lv_at hl 2 rfl) ?_
        refine lv_lload hx hb dX12_number_27 (lv_at hl 3 rfl) ?_
        have ⟨c3, hE⟩ := ck_some hE
        refine lv_ldiv hx hb dX12_number_29 c3 ?_
        refine lv_ldc2 (v := 10) hx hb hown k0 dX12_number_30 ?_
        refine W.lcmp hx hb dX12_number_33 ?_
        refine lv_if_lt (tgt := 51) hx hb dX12_number_34 (by decide) (fun c4 => ?_) (fun c4 => ?_)
        · have hE := if_t c4 hE
          exact w51  y1 y2 y4 o H locs ls hP hD hS (lv_sub hl [0, 1, 2, 3] rfl) hE
        · have hE := if_f c4 hE
          refine lv_lload hx hb dX12_number_37 (lv_at hl 3 rfl) ?_
          refine lv_ldc2 (v := 10) hx hb hown k0 dX12_number_39 ?_
          refine lv_lmul hx hb dX12_number_42 ?_
          refine lv_lstore (lv' := [(4, .long (y4 * 10)), (0, .ref (g 0)), (1, .int y1), (2, .long y2), (6, .int y6)]) hx hb dX12_number_43 hl (by decide) rfl (fun ls hl => ?_)
          refine lv_iinc (v := y6 + 1) (lv' := [(6, .int (y6 + 1)), (4, .long (y4 * 10)), (0, .ref (g 0)), (1, .int y1), (2, .long y2)]) hx hb dX12_number_45 hl (k := 4) rfl rfl (by decide) rfl (fun ls hl => ?_)
          refine lv_goto (tgt := 19) hx hb dX12_number_48 (by decide) ?_
          exact ih19 y1 y2 (y4 * 10) (y6 + 1) o H locs ls hP hD hS (lv_sub hl [2, 3, 4, 1, 0] rfl) hE
  have w12 : ∀ (y1 : Int32) (z0 : Int64) (o : mO) (H : Heap) (locs : List Loc) (ls : Array Slot), va_P D vwCl (wX g cA t s r c y d k q o m) H → va_D A (wX g cA t s r c y d k q o m) → va_S A S0.heap H locs → lv_has ls 8 [(0, .ref (g 0)), (1, .int y1)] → b_X12_number_12  y1 z0 o = some u → W PP l EE (headSpec wsX12_number ({ frames := 1, cells := 0, slots := 0, locals := 21 })).room S0 MM (#[.ref (g 0), .int x1] : Array Value) below meth CC H locs 0 0 (MQ below (cQv D (wX g cA t s r c y d k q u m) A) (#[.ref (g 0), .int x1] : Array Value) S0 0 0 A) (F0 MM 12 ls [.long z0]) := by
    intro y1 z0 o
    intro H locs ls hP hD hS hl hE
    unfold b_X12_number_12 at hE
    refine lv_lstore_n (lv' := [(2, .long z0), (0, .ref (g 0)), (1, .int y1)]) hx hb dX12_number_12 rfl hl (by decide) rfl (fun ls hl => ?_)
    refine lv_lconst (v := 1) hx hb dX12_number_13 (by decide +kernel) ?_
    refine lv_lstore (lv' := [(4, .long 1), (2, .long z0), (0, .ref (g 0)), (1, .int y1)]) hx hb dX12_number_14 hl (by decide) rfl (fun ls hl => ?_)
    refine lv_iconst (v := 0) hx hb dX12_number_16 (by decide +kernel) ?_
    refine lv_istore (lv' := [(6, .int 0), (4, .long 1), (2, .long z0), (0, .ref (g 0)), (1, .int y1)]) hx hb dX12_number_17 hl (by decide) rfl (fun ls hl => ?_)
    exact w19 FU y1 z0 1 0 o H locs ls hP hD hS (lv_sub hl [3, 4, 2, 1, 0] rfl) hE
  unfold f_X12_number at hE
  suffices main : ∀ (H : Heap) (locs : List Loc) (ls : Array Slot), va_P D vwCl (wX g cA t s r c y d k q o m) H → va_D A (wX g cA t s r c y d k q o m) → va_S A S0.heap H locs → lv_has ls 8 [(0, .ref (g 0)), (1, .int x1)] → W PP l EE (headSpec wsX12_number ({ frames := 1, cells := 0, slots := 0, locals := 21 })).room S0 MM (#[.ref (g 0), .int x1] : Array Value) below meth CC H locs 0 0 (MQ below (cQv D (wX g cA t s r c y d k q u m) A) (#[.ref (g 0), .int x1] : Array Value) S0 0 0 A) (F0 MM 0 ls []) from main _ _ _ hP hD hS hl
  intro H locs ls hP hD hS hl
  refine lv_iload_n hx hb dX12_number_0 rfl (lv_at hl 1 rfl) ?_
  refine lv_if_ge (tgt := 10) hx hb dX12_number_1 (by decide) (fun c1 => ?_) (fun c1 => ?_)
  · have hE := if_t c1 hE
    refine lv_iload_n hx hb dX12_number_10 rfl (lv_at hl 1 rfl) ?_
    refine lv_i2l hx hb dX12_number_11 rfl ?_
    exact w12  x1 x1.toInt64 o H locs ls hP hD hS (lv_sub hl [0, 1] rfl) hE
  · have hE := if_f c1 hE
    refine lv_iload_n hx hb dX12_number_4 rfl (lv_at hl 1 rfl) ?_
    refine lv_i2l hx hb dX12_number_5 rfl ?_
    refine lv_lneg hx hb dX12_number_6 ?_
    refine lv_goto (tgt := 12) hx hb dX12_number_7 (by decide) ?_
    exact w12  x1 (-x1.toInt64) o H locs ls hP hD hS (lv_sub hl [0, 1] rfl) hE
