set_option maxRecDepth 20000 in
theorem hX4_giveUp_X2_isMaking_42 : GoodIn wsX4_giveUp (wsV RX4 42 RX2 yX2_isMaking wsX2_isMaking) := goodIn_r _ [5, 6, 7, 8, 9, 10, 11, 21, 22, 23, 24, 25, 26, 27, 28] rfl (by decide +kernel)
set_option maxHeartbeats 4000000 in
set_option maxRecDepth 100000 in
theorem c_X4_giveUp (l : Launch) (D : va_G) (cA : Nat → ClassId) (ad adK adV : Nat → Nat) (tA tS : Nat) (g : Nat → Nat) (sz : Nat) (t : tT) (s : tR) (y : tY) (d : tD) (q : tP) (k : tK) (u : tY × tD × tP × tK) (hE : f_X4_giveUp y d q k = some u) : Met l yX4_giveUp wsX4_giveUp ({ frames := 1, cells := 0, slots := 0, locals := 20 }) (va_Pc [.ref (g 0)] (PRE D cA (wK g cA t s y d q k) sz (fun U => SX ad adK adV tA tS (va_A (wK g cA t s y d q k) sz) U U.heap))) (cQv D (wK g cA t s u.1 u.2.1 u.2.2.1 u.2.2.2) (va_A (wK g cA t s y d q k) sz)) 0 0 (va_A (wK g cA t s y d q k) sz) := by
  refine Met.ofW (cc := cX4_giveUp) (maxL := 1) (ret := none) (by decide) rfl ?_
  intro PP EE S0 MM args below meth CC S1 B hml hv
  obtain ⟨rfl, hsz, hP, hK, hD0, hX⟩ := hv
  have hx := B.exec
  have hb := B.bytes
  have hr := B.returns
  have hts := atoms_spec (ws := wsX4_giveUp) B.pre
  have hown : S0.vm.findClass RX4 = some MM.cls := findClass_of_methodNamed B.named
  have hlocks := B.notSynchronized
  subst hsz
  have hD := hD0.self (sz := S0.heap.size)
  have hX : SX ad adK adV tA tS (va_A (wK g cA t s y d q k) S0.heap.size) S0 S0.heap := hX
  generalize hAe : va_A (wK g cA t s y d q k) S0.heap.size = A at hD hX ⊢
  have hA : ∀ q : Nat, S0.heap.size ≤ q → A q := fun q h => by rw [← hAe]; exact Or.inr h
  have hS : va_S A S0.heap S0.heap [] := va_S.rf
  have k0 := hts (.fieldLink RX4 34 "WordForge$Maker" "compiling" "Z") (List.mem_of_getElem? (i := 1) rfl)
  have inX4 : ∀ w ∈ wsX40, w ∈ wsX4_giveUp := fun _ h => List.mem_cons_of_mem _ (List.mem_append_left _ (List.mem_append_left _ (List.mem_append_left _ (List.mem_append_right _ h))))
  have k2 := hts (.fieldLink RX4 12 "WordForge$Maker" "open" "LWordForge$OpenThings;") (List.mem_of_getElem? (i := 2) rfl)
  have k3 := hX.nest (.fieldLinkNest RX4 38 "WordForge$OpenThings" "size" "I" "WordForge") (List.mem_of_getElem? (i := 24) rfl)
  have inX6 : ∀ w ∈ wsX60, w ∈ wsX4_giveUp := fun _ h => List.mem_cons_of_mem _ (List.mem_append_left _ (List.mem_append_left _ (List.mem_append_right _ h)))
  have k5 := hts (.fieldLink RX4 30 "WordForge$Maker" "dictionary" "LWordForge$Dictionary;") (List.mem_of_getElem? (i := 3) rfl)
  have k6 := hX.nest (.fieldLinkNest RX4 48 "WordForge$Dictionary" "size" "I" "WordForge") (List.mem_of_getElem? (i := 16) rfl)
  have inX2 : ∀ w ∈ wsX20, w ∈ wsX4_giveUp := fun _ h => List.mem_cons_of_mem _ (List.mem_append_left _ (List.mem_append_right _ h))
  have k8 := hts (.fieldLink RX4 26 "WordForge$Maker" "memory" "LWordForge$Memory;") (List.mem_of_getElem? (i := 4) rfl)
  have k9 := hX.nest (.fieldLinkNest RX4 49 "WordForge$Dictionary" "places" "[I" "WordForge") (List.mem_of_getElem? (i := 7) rfl)
  have k10 := hX.nest (.fieldLinkNest RX4 53 "WordForge$Memory" "here" "I" "WordForge") (List.mem_of_getElem? (i := 4) rfl)
  have inX5 : ∀ w ∈ wsX50, w ∈ wsX4_giveUp := fun _ h => List.mem_cons_of_mem _ (List.mem_append_right _ h)
  have hl := lv_entry ([.ref (g 0)]) (n := 1) (Nat.le_of_ble_eq_true rfl)
  rw [lg_entry_eq]
  generalize (lg_sl ([.ref (g 0)]) ++ List.replicate (1 - (lg_sl ([.ref (g 0)])).length) Slot.unset).toArray = ls at hl ⊢
  have hl : lv_has ls 1 [(0, .ref (g 0))] := hl
  unfold f_X4_giveUp at hE
  suffices main : ∀ (H : Heap) (locs : List Loc) (ls : Array Slot), va_P D vwCl (wK g cA t s y d q k) H → va_D A (wK g cA t s y d q k) → va_S A S0.heap H locs → lv_has ls 1 [(0, .ref (g 0))] → W PP l EE (headSpec wsX4_giveUp ({ frames := 1, cells := 0, slots := 0, locals := 20 })).room S0 MM (#[.ref (g 0)] : Array Value) below meth CC H locs 0 0 (MQ below (cQv D (wK g cA t s u.1 u.2.1 u.2.2.1 u.2.2.2) A) (#[.ref (g 0)] : Array Value) S0 0 0 A) (F0 MM 0 ls []) from main _ _ _ hP hD hS hl
  intro H locs ls hP hD hS hl
  refine lv_aload_n hx hb dX4_giveUp_0 rfl (lv_at hl 0 rfl) ?_
  refine lv_iconst (v := 0) hx hb dX4_giveUp_1 (by decide +kernel) ?_
  refine va_put (D := D) (ci := 3) (v := .int 0) (ty := .boolean) (C := RX4) (T := TX4) (N := 6) hx hb hts inX4 tyX4 tyX4_ok nmX4 hown hK hP hD hS 0 rfl rfl 5 (by decide) k0 (fun _ h9 => h9) rfl (by decide +kernel) (by decide +kernel) (by decide +kernel) (Nat.le_of_ble_eq_true rfl) dX4_giveUp_2 (fun H locs hP hD hS => ?_)
  have hP : va_P D vwCl (wK g cA t s y d q 0) H := hP
  have hD : va_D A (wK g cA t s y d q 0) := hD
  refine lv_aload_n hx hb dX4_giveUp_5 rfl (lv_at hl 0 rfl) ?_
  refine va_get (D := D) (ci := 3) (v := .ref (g 15)) (C := RX4) (T := TX4) (N := 6) hx hb hts inX4 hown hK hP 0 rfl rfl 4 (by decide) k2 (fun _ h9 => h9) rfl dX4_giveUp_6 ?_
  refine lv_iconst (v := 0) hx hb dX4_giveUp_9 (by decide +kernel) ?_
  refine va_putN (D := D) (ci := 5) (v := .int 0) (ty := .int) (C := RX6) (T := TX6) (N := 3) hx hb hts inX6 tyX6 tyX6_ok nmX6 hown hK hP hD hS 15 rfl rfl 2 (by decide) (k3 _) (fun _ h9 => h9) rfl (by decide +kernel) rfl rfl (Nat.le_of_ble_eq_true rfl) dX4_giveUp_10 (fun H locs hP hD hS => ?_)
  have hP : va_P D vwCl (wK g cA t s y d ((0, q.2.1, q.2.2)) 0) H := hP
  have hD : va_D A (wK g cA t s y d ((0, q.2.1, q.2.2)) 0) := hD
  refine lv_aload_n hx hb dX4_giveUp_13 rfl (lv_at hl 0 rfl) ?_
  refine va_get (D := D) (ci := 3) (v := .ref (g 7)) (C := RX4) (T := TX4) (N := 6) hx hb hts inX4 hown hK hP 0 rfl rfl 3 (by decide) k5 (fun _ h9 => h9) rfl dX4_giveUp_14 ?_
  obtain ⟨u1, h2, hE⟩ := bd_some hE
  refine cn_i (As := []) (rest := []) (r := u1) (w0 := (wK g cA t s y d ((0, q.2.1, q.2.2)) 0)) (N := 18) ⟨hx, hb, hml, hown, hts⟩ (c_X2_isMaking l D cA ad adK adV tA tS (g 7) (g 8) (g 9) (g 10) (g 11) (g 12) (g 13) (g 14) H.size d u1 h2) (cwV 0 hts hX4_giveUp_X2_isMaking_42 rfl rfl rfl (by decide +kernel) ⟨Nat.le_of_ble_eq_true rfl, Nat.le_of_ble_eq_true rfl⟩) rfl hl.1 rfl (Nat.le_of_ble_eq_true rfl) dX4_giveUp_17 ⟨Nat.zero_le _, Nat.zero_le _⟩ hK hP hD hS hA (va_recv hK hP (ci := 1) (q0 := 7) rfl rfl) [7, 8, 9, 10, 11, 12, 13, 14] [0, 1, 2, 3, 4, 5, 6, 15, 16, 17] (wK g cA t s y d ((0, q.2.1, q.2.2)) 0) rfl (by decide +kernel) rfl (wr := List.filterMap (fun i => (wK g cA t s y d ((0, q.2.1, q.2.2)) 0)[i]?) [0, 1, 2, 3, 4, 5, 6, 15, 16, 17]) rfl rfl (by decide +kernel) rfl (by decide +kernel) [g 0, g 1, g 2, g 3, g 4, g 5, g 6, g 7, g 8, g 9, g 10, g 11, g 12, g 13, g 14, g 15, g 16, g 17] rfl rfl (fun a U g mk h => SX.blind a U g mk h) (fun U hU hW => SX.call hX hS (va_free (wc := (wD (g 7) (g 8) (g 9) (g 10) (g 11) (g 12) (g 13) (g 14) cA d)) hD hS hA [7, 8, 9, 10, 11, 12, 13, 14] rfl) U hU hW) (fun H locs hP hD hS => ?_)
  have hP : va_P D vwCl (wK g cA t s y d ((0, q.2.1, q.2.2)) 0) H := hP
  have hD : va_D A (wK g cA t s y d ((0, q.2.1, q.2.2)) 0) := hD
  refine lv_if_eq (tgt := 58) hx hb dX4_giveUp_20 (by decide) (fun c3 => ?_) (fun c3 => ?_)
  · have hE := if_t c3 hE
    obtain rfl := Option.some.inj hE
    exact rt_v hx hb hr hP hS hlocks dX4_giveUp_58
  · have hE := if_f c3 hE
    refine lv_aload_n hx hb dX4_giveUp_23 rfl (lv_at hl 0 rfl) ?_
    refine va_get (D := D) (ci := 3) (v := .ref (g 7)) (C := RX4) (T := TX4) (N := 6) hx hb hts inX4 hown hK hP 0 rfl rfl 3 (by decide) k5 (fun _ h9 => h9) rfl dX4_giveUp_24 ?_
    refine lv_dup hx hb dX4_giveUp_27 rfl ?_
    refine va_getN (D := D) (ci := 1) (v := .int d.1) (C := RX2) (T := TX2) (N := 8) hx hb hts inX2 hown hK hP 7 rfl rfl 7 (by decide) (k6 _) (fun _ h9 => h9) rfl dX4_giveUp_28 ?_
    refine lv_iconst (v := 1) hx hb dX4_giveUp_31 (by decide +kernel) ?_
    refine lv_isub hx hb dX4_giveUp_32 ?_
    refine va_putN (D := D) (ci := 1) (v := .int (d.1 - 1)) (ty := .int) (C := RX2) (T := TX2) (N := 8) hx hb hts inX2 tyX2 tyX2_ok nmX2 hown hK hP hD hS 7 rfl rfl 7 (by decide) (k6 _) (fun _ h9 => h9) rfl (by decide +kernel) rfl rfl (Nat.le_of_ble_eq_true rfl) dX4_giveUp_33 (fun H locs hP hD hS => ?_)
    have hP : va_P D vwCl (wK g cA t s y ((d.1 - 1, d.2.1, d.2.2.1, d.2.2.2.1, d.2.2.2.2.1, d.2.2.2.2.2.1, d.2.2.2.2.2.2.1, d.2.2.2.2.2.2.2)) ((0, q.2.1, q.2.2)) 0) H := hP
    have hD : va_D A (wK g cA t s y ((d.1 - 1, d.2.1, d.2.2.1, d.2.2.2.1, d.2.2.2.2.1, d.2.2.2.2.2.1, d.2.2.2.2.2.2.1, d.2.2.2.2.2.2.2)) ((0, q.2.1, q.2.2)) 0) := hD
    refine lv_aload_n hx hb dX4_giveUp_36 rfl (lv_at hl 0 rfl) ?_
    refine va_get (D := D) (ci := 3) (v := .ref (g 5)) (C := RX4) (T := TX4) (N := 6) hx hb hts inX4 hown hK hP 0 rfl rfl 2 (by decide) k8 (fun _ h9 => h9) rfl dX4_giveUp_37 ?_
    refine lv_aload_n hx hb dX4_giveUp_40 rfl (lv_at hl 0 rfl) ?_
    refine va_get (D := D) (ci := 3) (v := .ref (g 7)) (C := RX4) (T := TX4) (N := 6) hx hb hts inX4 hown hK hP 0 rfl rfl 3 (by decide) k5 (fun _ h9 => h9) rfl dX4_giveUp_41 ?_
    refine va_getN (D := D) (ci := 1) (v := .ref (g 10)) (C := RX2) (T := TX2) (N := 8) hx hb hts inX2 hown hK hP 7 rfl rfl 2 (by decide) (k9 _) (fun _ h9 => h9) rfl dX4_giveUp_44 ?_
    refine lv_aload_n hx hb dX4_giveUp_47 rfl (lv_at hl 0 rfl) ?_
    refine va_get (D := D) (ci := 3) (v := .ref (g 7)) (C := RX4) (T := TX4) (N := 6) hx hb hts inX4 hown hK hP 0 rfl rfl 3 (by decide) k5 (fun _ h9 => h9) rfl dX4_giveUp_48 ?_
    refine va_getN (D := D) (ci := 1) (v := .int (d.1 - 1)) (C := RX2) (T := TX2) (N := 8) hx hb hts inX2 hown hK hP 7 rfl rfl 7 (by decide) (k6 _) (fun _ h9 => h9) rfl dX4_giveUp_51 ?_
    have ⟨c4, hE⟩ := ck_some hE
    refine va_iald hx hb hK hP 10 0 rfl rfl c4 dX4_giveUp_54 ?_
    refine va_putN (D := D) (ci := 4) (v := .int (d.2.2.2.1 ((d.1 - 1).toNatClampNeg))) (ty := .int) (C := RX5) (T := TX5) (N := 2) hx hb hts inX5 tyX5 tyX5_ok nmX5 hown hK hP hD hS 5 rfl rfl 1 (by decide) (k10 _) (fun _ h9 => h9) rfl (by decide +kernel) rfl rfl (Nat.le_of_ble_eq_true rfl) dX4_giveUp_55 (fun H locs hP hD hS => ?_)
    have hP : va_P D vwCl (wK g cA t s ((d.2.2.2.1 ((d.1 - 1).toNatClampNeg), y.2)) ((d.1 - 1, d.2.1, d.2.2.1, d.2.2.2.1, d.2.2.2.2.1, d.2.2.2.2.2.1, d.2.2.2.2.2.2.1, d.2.2.2.2.2.2.2)) ((0, q.2.1, q.2.2)) 0) H := hP
    have hD : va_D A (wK g cA t s ((d.2.2.2.1 ((d.1 - 1).toNatClampNeg), y.2)) ((d.1 - 1, d.2.1, d.2.2.1, d.2.2.2.1, d.2.2.2.2.1, d.2.2.2.2.2.1, d.2.2.2.2.2.2.1, d.2.2.2.2.2.2.2)) ((0, q.2.1, q.2.2)) 0) := hD
    obtain rfl := Option.some.inj hE
    exact rt_v hx hb hr hP hS hlocks dX4_giveUp_58
set_option maxRecDepth 20000 in
theorem hX4_begin_X2_add_88 : GoodIn wsX4_begin (wsV RX4 88 RX2 yX2_add wsX2_add) := goodIn_r _ [14, 15, 16, 17, 18, 19, 20, 21, 22, 23, 24, 25, 26, 27, 28, 29, 17, 30, 31, 32, 33, 34, 35, 36, 37, 38, 39, 40, 41, 42, 77, 78, 79, 80, 81, 82, 83, 84, 85, 86, 87, 88, 89] rfl (by decide +kernel)
set_option maxRecDepth 20000 in
theorem hX4_begin_X8_take_92 : GoodIn wsX4_begin (wsV RX4 92 RX8 yX8_take wsX8_take) := goodIn_r _ [43, 44, 45, 46, 47, 48, 49, 50, 46, 51, 52, 53, 54, 55, 56, 57, 90, 91, 92] rfl (by decide +kernel)
set_option maxRecDepth 20000 in
theorem hX4_begin_X5_append_97 : GoodIn wsX4_begin (wsV RX4 97 RX5 yX5_append wsX5_append) := goodIn_r _ [58, 59, 60, 61, 62, 63, 64, 65, 66, 67, 61, 68, 75, 76] rfl (by decide +kernel)
set_option maxHeartbeats 4000000 in
set_option maxRecDepth 100000 in
theorem c_X4_begin (l : Launch) (D : va_G) (cA : Nat → ClassId) (ad adK adV : Nat → Nat) (tA tS : Nat) (g : Nat → Nat) (sz : Nat) (w1 : Nat) (t : tT) (s : tR) (y : tY) (d : tD) (q : tP) (k : tK) (u : tR × tY × tD × tK) (hE : f_X4_begin w1 t s y d k = some u) : Met l yX4_begin wsX4_begin ({ frames := 2, cells := 0, slots := 0, locals := 45 }) (va_Pc [.ref (g 0), .ref (ad w1)] (PRE D cA (wK g cA t s y d q k) sz (fun U => SX ad adK adV tA tS (va_A (wK g cA t s y d q k) sz) U U.heap))) (cQv D (wK g cA t u.1 u.2.1 u.2.2.1 q u.2.2.2) (va_A (wK g cA t s y d q k) sz)) 0 0 (va_A (wK g cA t s y d q k) sz) := by
  refine Met.ofW (cc := cX4_begin) (maxL := 2) (ret := none) (by decide) rfl ?_
  intro PP EE S0 MM args below meth CC S1 B hml hv
  obtain ⟨rfl, hsz, hP, hK, hD0, hX⟩ := hv
  have hx := B.exec
  have hb := B.bytes
  have hr := B.returns
  have hts := atoms_spec (ws := wsX4_begin) B.pre
  have hown : S0.vm.findClass RX4 = some MM.cls := findClass_of_methodNamed B.named
  have hlocks := B.notSynchronized
  subst hsz
  have hD := hD0.self (sz := S0.heap.size)
  have hX : SX ad adK adV tA tS (va_A (wK g cA t s y d q k) S0.heap.size) S0 S0.heap := hX
  generalize hAe : va_A (wK g cA t s y d q k) S0.heap.size = A at hD hX ⊢
  have hA : ∀ q : Nat, S0.heap.size ≤ q → A q := fun q h => by rw [← hAe]; exact Or.inr h
  have hS : va_S A S0.heap S0.heap [] := va_S.rf
  have k0 := hts (.fieldLink RX4 80 "WordForge$1" "$SwitchMap$WordForge$Word" "[I") (List.mem_of_getElem? (i := 1) rfl)
  have k1 := hts (.fieldLink RX4 30 "WordForge$Maker" "dictionary" "LWordForge$Dictionary;") (List.mem_of_getElem? (i := 2) rfl)
  have inX4 : ∀ w ∈ wsX40, w ∈ wsX4_begin := fun _ h => List.mem_cons_of_mem _ (List.mem_append_left _ (List.mem_append_left _ (List.mem_append_left _ (List.mem_append_left _ (List.mem_append_right _ h)))))
  have k3 := hts (.fieldLink RX4 18 "WordForge$Maker" "text" "LWordForge$Text;") (List.mem_of_getElem? (i := 3) rfl)
  have k4 := hts (.fieldLink RX4 26 "WordForge$Maker" "memory" "LWordForge$Memory;") (List.mem_of_getElem? (i := 4) rfl)
  have k5 := hX.nest (.fieldLinkNest RX4 53 "WordForge$Memory" "here" "I" "WordForge") (List.mem_of_getElem? (i := 4) rfl)
  have inX5 : ∀ w ∈ wsX50, w ∈ wsX4_begin := fun _ h => List.mem_cons_of_mem _ (List.mem_append_left _ (List.mem_append_left _ (List.mem_append_left _ (List.mem_append_right _ h))))
  have k7 := hts (.fieldLink RX4 34 "WordForge$Maker" "compiling" "Z") (List.mem_of_getElem? (i := 5) rfl)
  have k8 := hts (.fieldLink RX4 22 "WordForge$Maker" "stack" "LWordForge$Row;") (List.mem_of_getElem? (i := 6) rfl)
  have hl := lv_entry ([.ref (g 0), .ref (ad w1)]) (n := 2) (Nat.le_of_ble_eq_true rfl)
  rw [lg_entry_eq]
  generalize (lg_sl ([.ref (g 0), .ref (ad w1)]) ++ List.replicate (2 - (lg_sl ([.ref (g 0), .ref (ad w1)])).length) Slot.unset).toArray = ls at hl ⊢
  have hl : lv_has ls 2 [(0, .ref (g 0)), (1, .ref (ad w1))] := hl
  unfold f_X4_begin at hE
  have ⟨hw1, hE⟩ := ck_some hE
  suffices main : ∀ (H : Heap) (locs : List Loc) (ls : Array Slot), va_P D vwCl (wK g cA t s y d q k) H → va_D A (wK g cA t s y d q k) → va_S A S0.heap H locs → lv_has ls 2 [(0, .ref (g 0)), (1, .ref (ad w1))] → W PP l EE (headSpec wsX4_begin ({ frames := 2, cells := 0, slots := 0, locals := 45 })).room S0 MM (#[.ref (g 0), .ref (ad w1)] : Array Value) below meth CC H locs 0 0 (MQ below (cQv D (wK g cA t u.1 u.2.1 u.2.2.1 q u.2.2.2) A) (#[.ref (g 0), .ref (ad w1)] : Array Value) S0 0 0 A) (F0 MM 0 ls []) from main _ _ _ hP hD hS hl
  intro H locs ls hP hD hS hl
  refine va_gets hx hb hX.2.2.2.1 hS hown k0 (fun _ h9 => h9) dX4_begin_0 ?_
  refine lv_aload_n hx hb dX4_begin_3 rfl (lv_at hl 1 rfl) ?_
  refine cu_i (As := []) (rest := [.ref tS]) (r := wV_ordinal.getD w1 0) ⟨hx, hb, hml, hown, hts⟩ (c_ordinal l w1 (ad w1) H.size) (va_cwU 0 hts gX4_begin_Jx29ce0_ordinal_8abf5_u85X10 rfl rfl rfl rfl (by decide +kernel) ⟨Nat.le_of_ble_eq_true rfl, Nat.le_of_ble_eq_true rfl⟩) rfl hl.1 rfl (Nat.le_of_ble_eq_true rfl) dX4_begin_4 ⟨Nat.zero_le _, Nat.zero_le _⟩ hP hD hS hA (recvO (hX.2.2.2.2.2.2.1 w1 hw1).2.1 hS) PO_blind (PO_call ((hX.2.2.2.2.2.2.1 w1 hw1).2.2.1 ("java/lang/Enum", "ordinal", "I", wV_ordinal) (List.mem_of_getElem? (i := 0) rfl)) hS hA) (fun H locs hP hD hS => ?_)
  have ⟨c1, hE⟩ := ck_some hE
  refine va_ti hx hb hX.2.2.2.2.1 hS c1 rfl dX4_begin_7 ?_
  by_cases c2 : (swm ((wV_ordinal.getD w1 0).toNatClampNeg)) = 1
  · have hE := if_t c2 hE
    refine lv_tableIn (tgt := 36) (off := 28) hx hb dX4_begin_8 (by rw [c2]; decide +kernel) (by rw [c2]; decide +kernel) (by rw [c2]; decide +kernel) (by decide) ?_
    refine lv_aload_n hx hb dX4_begin_36 rfl (lv_at hl 0 rfl) ?_
    refine va_get (D := D) (ci := 3) (v := .ref (g 7)) (C := RX4) (T := TX4) (N := 6) hx hb hts inX4 hown hK hP 0 rfl rfl 3 (by decide) k1 (fun _ h9 => h9) rfl dX4_begin_37 ?_
    refine lv_aload_n hx hb dX4_begin_40 rfl (lv_at hl 0 rfl) ?_
    refine va_get (D := D) (ci := 3) (v := .ref (g 1)) (C := RX4) (T := TX4) (N := 6) hx hb hts inX4 hown hK hP 0 rfl rfl 0 (by decide) k3 (fun _ h9 => h9) rfl dX4_begin_41 ?_
    refine lv_iconst (v := 1) hx hb dX4_begin_44 (by decide +kernel) ?_
    refine lv_aload_n hx hb dX4_begin_45 rfl (lv_at hl 0 rfl) ?_
    refine va_get (D := D) (ci := 3) (v := .ref (g 5)) (C := RX4) (T := TX4) (N := 6) hx hb hts inX4 hown hK hP 0 rfl rfl 2 (by decide) k4 (fun _ h9 => h9) rfl dX4_begin_46 ?_
    refine va_getN (D := D) (ci := 4) (v := .int y.1) (C := RX5) (T := TX5) (N := 2) hx hb hts inX5 hown hK hP 5 rfl rfl 1 (by decide) (k5 _) (fun _ h9 => h9) rfl dX4_begin_49 ?_
    obtain ⟨u3, h4, hE⟩ := bd_some hE
    refine cn_v (As := [.ref (g 1), .int 1, .int y.1]) (rest := []) (w0 := (wK g cA t s y d q k)) (N := 18) ⟨hx, hb, hml, hown, hts⟩ (c_X2_add l D cA ad adK adV tA tS (g 7) (g 8) (g 9) (g 10) (g 11) (g 12) (g 13) (g 14) (g 1) (g 2) H.size 1 y.1 d t u3 h4) (cwV 3 hts hX4_begin_X2_add_88 rfl rfl rfl (by decide +kernel) ⟨Nat.le_of_ble_eq_true rfl, Nat.le_of_ble_eq_true rfl⟩) rfl hl.1 rfl (Nat.le_of_ble_eq_true rfl) dX4_begin_52 ⟨Nat.zero_le _, Nat.zero_le _⟩ hK hP hD hS hA (va_recv hK hP (ci := 1) (q0 := 7) rfl rfl) [7, 8, 9, 10, 11, 12, 13, 14, 1, 2] [0, 3, 4, 5, 6, 15, 16, 17] (wK g cA t s y u3 q k) rfl (by decide +kernel) rfl (wr := List.filterMap (fun i => (wK g cA t s y d q k)[i]?) [0, 3, 4, 5, 6, 15, 16, 17]) rfl rfl (by decide +kernel) rfl (by decide +kernel) [g 0, g 1, g 2, g 3, g 4, g 5, g 6, g 7, g 8, g 9, g 10, g 11, g 12, g 13, g 14, g 15, g 16, g 17] rfl rfl (fun a U g mk h => SX.blind a U g mk h) (fun U hU hW => SX.call hX hS (va_free (wc := (wDT (g 7) (g 8) (g 9) (g 10) (g 11) (g 12) (g 13) (g 14) (g 1) (g 2) cA d t)) hD hS hA [7, 8, 9, 10, 11, 12, 13, 14, 1, 2] rfl) U hU hW) (fun H locs hP hD hS => ?_)
    have hP : va_P D vwCl (wK g cA t s y u3 q k) H := hP
    have hD : va_D A (wK g cA t s y u3 q k) := hD
    refine lv_aload_n hx hb dX4_begin_55 rfl (lv_at hl 0 rfl) ?_
    refine lv_iconst (v := 1) hx hb dX4_begin_56 (by decide +kernel) ?_
    refine va_put (D := D) (ci := 3) (v := .int 1) (ty := .boolean) (C := RX4) (T := TX4) (N := 6) hx hb hts inX4 tyX4 tyX4_ok nmX4 hown hK hP hD hS 0 rfl rfl 5 (by decide) k7 (fun _ h9 => h9) rfl (by decide +kernel) (by decide +kernel) (by decide +kernel) (Nat.le_of_ble_eq_true rfl) dX4_begin_57 (fun H locs hP hD hS => ?_)
    have hP : va_P D vwCl (wK g cA t s y u3 q 1) H := hP
    have hD : va_D A (wK g cA t s y u3 q 1) := hD
    refine lv_goto (tgt := 150) hx hb dX4_begin_60 (by decide) ?_
    obtain rfl := Option.some.inj hE
    exact rt_v hx hb hr hP hS hlocks dX4_begin_150
  have hE := if_f c2 hE
  by_cases c5 : (swm ((wV_ordinal.getD w1 0).toNatClampNeg)) = 2
  · have hE := if_t c5 hE
    refine lv_tableIn (tgt := 63) (off := 55) hx hb dX4_begin_8 (by rw [c5]; decide +kernel) (by rw [c5]; decide +kernel) (by rw [c5]; decide +kernel) (by decide) ?_
    refine lv_aload_n hx hb dX4_begin_63 rfl (lv_at hl 0 rfl) ?_
    refine va_get (D := D) (ci := 3) (v := .ref (g 7)) (C := RX4) (T := TX4) (N := 6) hx hb hts inX4 hown hK hP 0 rfl rfl 3 (by decide) k1 (fun _ h9 => h9) rfl dX4_begin_64 ?_
    refine lv_aload_n hx hb dX4_begin_67 rfl (lv_at hl 0 rfl) ?_
    refine va_get (D := D) (ci := 3) (v := .ref (g 1)) (C := RX4) (T := TX4) (N := 6) hx hb hts inX4 hown hK hP 0 rfl rfl 0 (by decide) k3 (fun _ h9 => h9) rfl dX4_begin_68 ?_
    refine lv_iconst (v := 3) hx hb dX4_begin_71 (by decide +kernel) ?_
    refine lv_aload_n hx hb dX4_begin_72 rfl (lv_at hl 0 rfl) ?_
    refine va_get (D := D) (ci := 3) (v := .ref (g 5)) (C := RX4) (T := TX4) (N := 6) hx hb hts inX4 hown hK hP 0 rfl rfl 2 (by decide) k4 (fun _ h9 => h9) rfl dX4_begin_73 ?_
    refine va_getN (D := D) (ci := 4) (v := .int y.1) (C := RX5) (T := TX5) (N := 2) hx hb hts inX5 hown hK hP 5 rfl rfl 1 (by decide) (k5 _) (fun _ h9 => h9) rfl dX4_begin_76 ?_
    obtain ⟨u6, h7, hE⟩ := bd_some hE
    refine cn_v (As := [.ref (g 1), .int 3, .int y.1]) (rest := []) (w0 := (wK g cA t s y d q k)) (N := 18) ⟨hx, hb, hml, hown, hts⟩ (c_X2_add l D cA ad adK adV tA tS (g 7) (g 8) (g 9) (g 10) (g 11) (g 12) (g 13) (g 14) (g 1) (g 2) H.size 3 y.1 d t u6 h7) (cwV 3 hts hX4_begin_X2_add_88 rfl rfl rfl (by decide +kernel) ⟨Nat.le_of_ble_eq_true rfl, Nat.le_of_ble_eq_true rfl⟩) rfl hl.1 rfl (Nat.le_of_ble_eq_true rfl) dX4_begin_79 ⟨Nat.zero_le _, Nat.zero_le _⟩ hK hP hD hS hA (va_recv hK hP (ci := 1) (q0 := 7) rfl rfl) [7, 8, 9, 10, 11, 12, 13, 14, 1, 2] [0, 3, 4, 5, 6, 15, 16, 17] (wK g cA t s y u6 q k) rfl (by decide +kernel) rfl (wr := List.filterMap (fun i => (wK g cA t s y d q k)[i]?) [0, 3, 4, 5, 6, 15, 16, 17]) rfl rfl (by decide +kernel) rfl (by decide +kernel) [g 0, g 1, g 2, g 3, g 4, g 5, g 6, g 7, g 8, g 9, g 10, g 11, g 12, g 13, g 14, g 15, g 16, g 17] rfl rfl (fun a U g mk h => SX.blind a U g mk h) (fun U hU hW => SX.call hX hS (va_free (wc := (wDT (g 7) (g 8) (g 9) (g 10) (g 11) (g 12) (g 13) (g 14) (g 1) (g 2) cA d t)) hD hS hA [7, 8, 9, 10, 11, 12, 13, 14, 1, 2] rfl) U hU hW) (fun H locs hP hD hS => ?_)
    have hP : va_P D vwCl (wK g cA t s y u6 q k) H := hP
    have hD : va_D A (wK g cA t s y u6 q k) := hD
    refine lv_aload_n hx hb dX4_begin_82 rfl (lv_at hl 0 rfl) ?_
    refine va_get (D := D) (ci := 3) (v := .ref (g 5)) (C := RX4) (T := TX4) (N := 6) hx hb hts inX4 hown hK hP 0 rfl rfl 2 (by decide) k4 (fun _ h9 => h9) rfl dX4_begin_83 ?_
    refine lv_aload_n hx hb dX4_begin_86 rfl (lv_at hl 0 rfl) ?_
    refine va_get (D := D) (ci := 3) (v := .ref (g 3)) (C := RX4) (T := TX4) (N := 6) hx hb hts inX4 hown hK hP 0 rfl rfl 1 (by decide) k8 (fun _ h9 => h9) rfl dX4_begin_87 ?_
    obtain ⟨u8, h9, hE⟩ := bd_some hE
    refine cn_i (As := []) (rest := [.ref (g 5)]) (r := u8.1) (w0 := (wK g cA t s y u6 q k)) (N := 18) ⟨hx, hb, hml, hown, hts⟩ (c_X8_take l D cA (g 3) (g 4) H.size (-3) s u8 h9) (cwV 0 hts hX4_begin_X8_take_92 rfl rfl rfl (by decide +kernel) ⟨Nat.le_of_ble_eq_true rfl, Nat.le_of_ble_eq_true rfl⟩) rfl hl.1 rfl (Nat.le_of_ble_eq_true rfl) dX4_begin_90 ⟨Nat.zero_le _, Nat.zero_le _⟩ hK hP hD hS hA (va_recv hK hP (ci := 7) (q0 := 3) rfl rfl) [3, 4] [0, 1, 2, 5, 6, 7, 8, 9, 10, 11, 12, 13, 14, 15, 16, 17] (wK g cA t u8.2 y u6 q k) rfl (by decide +kernel) rfl (wr := List.filterMap (fun i => (wK g cA t s y u6 q k)[i]?) [0, 1, 2, 5, 6, 7, 8, 9, 10, 11, 12, 13, 14, 15, 16, 17]) rfl rfl (by decide +kernel) rfl (by decide +kernel) [g 0, g 1, g 2, g 3, g 4, g 5, g 6, g 7, g 8, g 9, g 10, g 11, g 12, g 13, g 14, g 15, g 16, g 17] rfl rfl (fun _ _ _ _ h => h) (fun _ _ _ => trivial) (fun H locs hP hD hS => ?_)
    have hP : va_P D vwCl (wK g cA t u8.2 y u6 q k) H := hP
    have hD : va_D A (wK g cA t u8.2 y u6 q k) := hD
    obtain ⟨u10, h11, hE⟩ := bd_some hE
    refine cn_i (As := [.int u8.1]) (rest := []) (r := u10.1) (w0 := (wK g cA t u8.2 y u6 q k)) (N := 18) ⟨hx, hb, hml, hown, hts⟩ (c_X5_append l D cA (g 5) (g 6) H.size u8.1 y u10 h11) (cwV 1 hts hX4_begin_X5_append_97 rfl rfl rfl (by decide +kernel) ⟨Nat.le_of_ble_eq_true rfl, Nat.le_of_ble_eq_true rfl⟩) rfl hl.1 rfl (Nat.le_of_ble_eq_true rfl) dX4_begin_93 ⟨Nat.zero_le _, Nat.zero_le _⟩ hK hP hD hS hA (va_recv hK hP (ci := 4) (q0 := 5) rfl rfl) [5, 6] [0, 1, 2, 3, 4, 7, 8, 9, 10, 11, 12, 13, 14, 15, 16, 17] (wK g cA t u8.2 u10.2 u6 q k) rfl (by decide +kernel) rfl (wr := List.filterMap (fun i => (wK g cA t u8.2 y u6 q k)[i]?) [0, 1, 2, 3, 4, 7, 8, 9, 10, 11, 12, 13, 14, 15, 16, 17]) rfl rfl (by decide +kernel) rfl (by decide +kernel) [g 0, g 1, g 2, g 3, g 4, g 5, g 6, g 7, g 8, g 9, g 10, g 11, g 12, g 13, g 14, g 15, g 16, g 17] rfl rfl (fun _ _ _ _ h => h) (fun _ _ _ => trivial) (fun H locs hP hD hS => ?_)
    have hP : va_P D vwCl (wK g cA t u8.2 u10.2 u6 q k) H := hP
    have hD : va_D A (wK g cA t u8.2 u10.2 u6 q k) := hD
    refine lv_pop hx hb dX4_begin_96 rfl ?_
    refine lv_goto (tgt := 150) hx hb dX4_begin_97 (by decide) ?_
    obtain rfl := Option.some.inj hE
    exact rt_v hx hb hr hP hS hlocks dX4_begin_150
  have hE := if_f c5 hE
  by_cases c12 : (swm ((wV_ordinal.getD w1 0).toNatClampNeg)) = 3
  · have hE := if_t c12 hE
    refine lv_tableIn (tgt := 100) (off := 92) hx hb dX4_begin_8 (by rw [c12]; decide +kernel) (by rw [c12]; decide +kernel) (by rw [c12]; decide +kernel) (by decide) ?_
    refine lv_aload_n hx hb dX4_begin_100 rfl (lv_at hl 0 rfl) ?_
    refine va_get (D := D) (ci := 3) (v := .ref (g 7)) (C := RX4) (T := TX4) (N := 6) hx hb hts inX4 hown hK hP 0 rfl rfl 3 (by decide) k1 (fun _ h9 => h9) rfl dX4_begin_101 ?_
    refine lv_aload_n hx hb dX4_begin_104 rfl (lv_at hl 0 rfl) ?_
    refine va_get (D := D) (ci := 3) (v := .ref (g 1)) (C := RX4) (T := TX4) (N := 6) hx hb hts inX4 hown hK hP 0 rfl rfl 0 (by decide) k3 (fun _ h9 => h9) rfl dX4_begin_105 ?_
    refine lv_iconst (v := 2) hx hb dX4_begin_108 (by decide +kernel) ?_
    refine lv_aload_n hx hb dX4_begin_109 rfl (lv_at hl 0 rfl) ?_
    refine va_get (D := D) (ci := 3) (v := .ref (g 5)) (C := RX4) (T := TX4) (N := 6) hx hb hts inX4 hown hK hP 0 rfl rfl 2 (by decide) k4 (fun _ h9 => h9) rfl dX4_begin_110 ?_
    refine va_getN (D := D) (ci := 4) (v := .int y.1) (C := RX5) (T := TX5) (N := 2) hx hb hts inX5 hown hK hP 5 rfl rfl 1 (by decide) (k5 _) (fun _ h9 => h9) rfl dX4_begin_113 ?_
    obtain ⟨u13, h14, hE⟩ := bd_some hE
    refine cn_v (As := [.ref (g 1), .int 2, .int y.1]) (rest := []) (w0 := (wK g cA t s y d q k)) (N := 18) ⟨hx, hb, hml, hown, hts⟩ (c_X2_add l D cA ad adK adV tA tS (g 7) (g 8) (g 9) (g 10) (g 11) (g 12) (g 13) (g 14) (g 1) (g 2) H.size 2 y.1 d t u13 h14) (cwV 3 hts hX4_begin_X2_add_88 rfl rfl rfl (by decide +kernel) ⟨Nat.le_of_ble_eq_true rfl, Nat.le_of_ble_eq_true rfl⟩) rfl hl.1 rfl (Nat.le_of_ble_eq_true rfl) dX4_begin_116 ⟨Nat.zero_le _, Nat.zero_le _⟩ hK hP hD hS hA (va_recv hK hP (ci := 1) (q0 := 7) rfl rfl) [7, 8, 9, 10, 11, 12, 13, 14, 1, 2] [0, 3, 4, 5, 6, 15, 16, 17] (wK g cA t s y u13 q k) rfl (by decide +kernel) rfl (wr := List.filterMap (fun i => (wK g cA t s y d q k)[i]?) [0, 3, 4, 5, 6, 15, 16, 17]) rfl rfl (by decide +kernel) rfl (by decide +kernel) [g 0, g 1, g 2, g 3, g 4, g 5, g 6, g 7, g 8, g 9, g 10, g 11, g 12, g 13, g 14, g 15, g 16, g 17] rfl rfl (fun a U g mk h => SX.blind a U g mk h) (fun U hU hW => SX.call hX hS (va_free (wc := (wDT (g 7) (g 8) (g 9) (g 10) (g 11) (g 12) (g 13) (g 14) (g 1) (g 2) cA d t)) hD hS hA [7, 8, 9, 10, 11, 12, 13, 14, 1, 2] rfl) U hU hW) (fun H locs hP hD hS => ?_)
    have hP : va_P D vwCl (wK g cA t s y u13 q k) H := hP
    have hD : va_D A (wK g cA t s y u13 q k) := hD
    refine lv_aload_n hx hb dX4_begin_119 rfl (lv_at hl 0 rfl) ?_
    refine va_get (D := D) (ci := 3) (v := .ref (g 5)) (C := RX4) (T := TX4) (N := 6) hx hb hts inX4 hown hK hP 0 rfl rfl 2 (by decide) k4 (fun _ h9 => h9) rfl dX4_begin_120 ?_
    refine lv_iconst (v := 0) hx hb dX4_begin_123 (by decide +kernel) ?_
    obtain ⟨u15, h16, hE⟩ := bd_some hE
    refine cn_i (As := [.int 0]) (rest := []) (r := u15.1) (w0 := (wK g cA t s y u13 q k)) (N := 18) ⟨hx, hb, hml, hown, hts⟩ (c_X5_append l D cA (g 5) (g 6) H.size 0 y u15 h16) (cwV 1 hts hX4_begin_X5_append_97 rfl rfl rfl (by decide +kernel) ⟨Nat.le_of_ble_eq_true rfl, Nat.le_of_ble_eq_true rfl⟩) rfl hl.1 rfl (Nat.le_of_ble_eq_true rfl) dX4_begin_124 ⟨Nat.zero_le _, Nat.zero_le _⟩ hK hP hD hS hA (va_recv hK hP (ci := 4) (q0 := 5) rfl rfl) [5, 6] [0, 1, 2, 3, 4, 7, 8, 9, 10, 11, 12, 13, 14, 15, 16, 17] (wK g cA t s u15.2 u13 q k) rfl (by decide +kernel) rfl (wr := List.filterMap (fun i => (wK g cA t s y u13 q k)[i]?) [0, 1, 2, 3, 4, 7, 8, 9, 10, 11, 12, 13, 14, 15, 16, 17]) rfl rfl (by decide +kernel) rfl (by decide +kernel) [g 0, g 1, g 2, g 3, g 4, g 5, g 6, g 7, g 8, g 9, g 10, g 11, g 12, g 13, g 14, g 15, g 16, g 17] rfl rfl (fun _ _ _ _ h => h) (fun _ _ _ => trivial) (fun H locs hP hD hS => ?_)
    have hP : va_P D vwCl (wK g cA t s u15.2 u13 q k) H := hP
    have hD : va_D A (wK g cA t s u15.2 u13 q k) := hD
    refine lv_pop hx hb dX4_begin_127 rfl ?_
    refine lv_goto (tgt := 150) hx hb dX4_begin_128 (by decide) ?_
    obtain rfl := Option.some.inj hE
    exact rt_v hx hb hr hP hS hlocks dX4_begin_150
  have hE := if_f c12 hE
  have tc2 := lv_neT c2 (show (1 : Int32).toInt = 1 by decide +kernel)
  have tc5 := lv_neT c5 (show (2 : Int32).toInt = 2 by decide +kernel)
  have tc12 := lv_neT c12 (show (3 : Int32).toInt = 3 by decide +kernel)
  refine lv_tableOut (tgt := 131) hx hb dX4_begin_8 (by omega) (by decide) ?_
  refine lv_aload_n hx hb dX4_begin_131 rfl (lv_at hl 0 rfl) ?_
  refine va_get (D := D) (ci := 3) (v := .ref (g 7)) (C := RX4) (T := TX4) (N := 6) hx hb hts inX4 hown hK hP 0 rfl rfl 3 (by decide) k1 (fun _ h9 => h9) rfl dX4_begin_132 ?_
  refine lv_aload_n hx hb dX4_begin_135 rfl (lv_at hl 0 rfl) ?_
  refine va_get (D := D) (ci := 3) (v := .ref (g 1)) (C := RX4) (T := TX4) (N := 6) hx hb hts inX4 hown hK hP 0 rfl rfl 0 (by decide) k3 (fun _ h9 => h9) rfl dX4_begin_136 ?_
  refine lv_iconst (v := 2) hx hb dX4_begin_139 (by decide +kernel) ?_
  refine lv_aload_n hx hb dX4_begin_140 rfl (lv_at hl 0 rfl) ?_
  refine va_get (D := D) (ci := 3) (v := .ref (g 5)) (C := RX4) (T := TX4) (N := 6) hx hb hts inX4 hown hK hP 0 rfl rfl 2 (by decide) k4 (fun _ h9 => h9) rfl dX4_begin_141 ?_
  refine va_getN (D := D) (ci := 4) (v := .int y.1) (C := RX5) (T := TX5) (N := 2) hx hb hts inX5 hown hK hP 5 rfl rfl 1 (by decide) (k5 _) (fun _ h9 => h9) rfl dX4_begin_144 ?_
  obtain ⟨u17, h18, hE⟩ := bd_some hE
  refine cn_v (As := [.ref (g 1), .int 2, .int y.1]) (rest := []) (w0 := (wK g cA t s y d q k)) (N := 18) ⟨hx, hb, hml, hown, hts⟩ (c_X2_add l D cA ad adK adV tA tS (g 7) (g 8) (g 9) (g 10) (g 11) (g 12) (g 13) (g 14) (g 1) (g 2) H.size 2 y.1 d t u17 h18) (cwV 3 hts hX4_begin_X2_add_88 rfl rfl rfl (by decide +kernel) ⟨Nat.le_of_ble_eq_true rfl, Nat.le_of_ble_eq_true rfl⟩) rfl hl.1 rfl (Nat.le_of_ble_eq_true rfl) dX4_begin_147 ⟨Nat.zero_le _, Nat.zero_le _⟩ hK hP hD hS hA (va_recv hK hP (ci := 1) (q0 := 7) rfl rfl) [7, 8, 9, 10, 11, 12, 13, 14, 1, 2] [0, 3, 4, 5, 6, 15, 16, 17] (wK g cA t s y u17 q k) rfl (by decide +kernel) rfl (wr := List.filterMap (fun i => (wK g cA t s y d q k)[i]?) [0, 3, 4, 5, 6, 15, 16, 17]) rfl rfl (by decide +kernel) rfl (by decide +kernel) [g 0, g 1, g 2, g 3, g 4, g 5, g 6, g 7, g 8, g 9, g 10, g 11, g 12, g 13, g 14, g 15, g 16, g 17] rfl rfl (fun a U g mk h => SX.blind a U g mk h) (fun U hU hW => SX.call hX hS (va_free (wc := (wDT (g 7) (g 8) (g 9) (g 10) (g 11) (g 12) (g 13) (g 14) (g 1) (g 2) cA d t)) hD hS hA [7, 8, 9, 10, 11, 12, 13, 14, 1, 2] rfl) U hU hW) (fun H locs hP hD hS => ?_)
  have hP : va_P D vwCl (wK g cA t s y u17 q k) H := hP
  have hD : va_D A (wK g cA t s y u17 q k) := hD
  obtain rfl := Option.some.inj hE
  exact rt_v hx hb hr hP hS hlocks dX4_begin_150
set_option maxRecDepth 20000 in
theorem hX4_define_X2_isMaking_42 : GoodIn wsX4_define (wsV RX4 42 RX2 yX2_isMaking wsX2_isMaking) := goodIn_r _ [4, 5, 6, 7, 8, 9, 10, 101, 102, 103, 104, 105, 106, 107, 108] rfl (by decide +kernel)
set_option maxRecDepth 20000 in
theorem hX4_define_X9_parseName_58 : GoodIn wsX4_define (wsV RX4 58 RX9 yX9_parseName wsX9_parseName) := goodIn_r _ [11, 12, 13, 14, 15, 16, 17, 18, 14, 19, 20, 21, 22, 23, 24, 25, 26, 27, 28, 29, 30, 31, 32, 109, 110, 111, 112, 113] rfl (by decide +kernel)
set_option maxRecDepth 20000 in
theorem hX4_define_X2_isFull_64 : GoodIn wsX4_define (wsV RX4 64 RX2 yX2_isFull wsX2_isFull) := goodIn_r _ [33, 34, 35, 7, 36, 9, 101, 102, 103, 104, 105, 106, 107, 108] rfl (by decide +kernel)
set_option maxRecDepth 20000 in
theorem hX4_define_X5_hasRoom_72 : GoodIn wsX4_define (wsV RX4 72 RX5 yX5_hasRoom wsX5_hasRoom) := goodIn_r _ [37, 38, 39, 40, 41, 42, 114, 115] rfl (by decide +kernel)
set_option maxRecDepth 20000 in
theorem hX4_define_X4_begin_76 : GoodIn wsX4_define (wsV RX4 76 RX4 yX4_begin wsX4_begin) := goodIn_r _ [43, 44, 45, 46, 47, 48, 1, 2, 3, 49, 50, 51, 52, 53, 54, 55, 56, 57, 58, 59, 60, 7, 61, 62, 9, 63, 64, 65, 66, 67, 10, 68, 34, 35, 36, 69, 30, 31, 14, 32, 23, 70, 71, 72, 73, 28, 22, 74, 75, 76, 77, 78, 79, 80, 81, 82, 83, 84, 85, 86, 87, 88, 89, 90, 91, 40, 92, 93, 42, 94, 38, 39, 41, 95, 96, 97, 98, 99, 100, 114, 115, 109, 110, 111, 112, 113, 101, 102, 103, 104, 105, 106, 107, 108, 116, 117, 118] rfl (by decide +kernel)
set_option maxHeartbeats 4000000 in
set_option maxRecDepth 100000 in
theorem c_X4_define (l : Launch) (D : va_G) (cA : Nat → ClassId) (ad adK adV : Nat → Nat) (tA tS : Nat) (g : Nat → Nat) (sz : Nat) (w1 : Nat) (t : tT) (s : tR) (y : tY) (d : tD) (q : tP) (k : tK) (u : Int32 × tT × tR × tY × tD × tK) (hE : f_X4_define w1 t s y d k = some u) : Met l yX4_define wsX4_define ({ frames := 3, cells := 0, slots := 0, locals := 66 }) (va_Pc [.ref (g 0), .ref (ad w1)] (PRE D cA (wK g cA t s y d q k) sz (fun U => SX ad adK adV tA tS (va_A (wK g cA t s y d q k) sz) U U.heap))) (cQi D (wK g cA u.2.1 u.2.2.1 u.2.2.2.1 u.2.2.2.2.1 q u.2.2.2.2.2) (va_A (wK g cA t s y d q k) sz) u.1) 0 0 (va_A (wK g cA t s y d q k) sz) := by
  refine Met.ofW (cc := cX4_define) (maxL := 3) (ret := (some .int)) (by decide) rfl ?_
  intro PP EE S0 MM args below meth CC S1 B hml hv
  obtain ⟨rfl, hsz, hP, hK, hD0, hX⟩ := hv
  have hx := B.exec
  have hb := B.bytes
  have hr := B.returns
  have hts := atoms_spec (ws := wsX4_define) B.pre
  have hown : S0.vm.findClass RX4 = some MM.cls := findClass_of_methodNamed B.named
  have hlocks := B.notSynchronized
  subst hsz
  have hD := hD0.self (sz := S0.heap.size)
  have hX : SX ad adK adV tA tS (va_A (wK g cA t s y d q k) S0.heap.size) S0 S0.heap := hX
  generalize hAe : va_A (wK g cA t s y d q k) S0.heap.size = A at hD hX ⊢
  have hA : ∀ q : Nat, S0.heap.size ≤ q → A q := fun q h => by rw [← hAe]; exact Or.inr h
  have hS : va_S A S0.heap S0.heap [] := va_S.rf
  have k0 := hts (.fieldLink RX4 30 "WordForge$Maker" "dictionary" "LWordForge$Dictionary;") (List.mem_of_getElem? (i := 1) rfl)
  have inX4 : ∀ w ∈ wsX40, w ∈ wsX4_define := fun _ h => List.mem_cons_of_mem _ (List.mem_append_left _ (List.mem_append_left _ (List.mem_append_left _ (List.mem_append_left _ (List.mem_append_right _ h)))))
  have k2 := hts (.fieldLink RX4 18 "WordForge$Maker" "text" "LWordForge$Text;") (List.mem_of_getElem? (i := 2) rfl)
  have k3 := hts (.fieldLink RX4 26 "WordForge$Maker" "memory" "LWordForge$Memory;") (List.mem_of_getElem? (i := 3) rfl)
  have k4 := hX.nest (.fieldLinkNest RX4 67 "WordForge$Word" "appends" "I" "WordForge") (List.mem_of_getElem? (i := 46) rfl)
  have hl := lv_entry ([.ref (g 0), .ref (ad w1)]) (n := 3) (Nat.le_of_ble_eq_true rfl)
  rw [lg_entry_eq]
  generalize (lg_sl ([.ref (g 0), .ref (ad w1)]) ++ List.replicate (3 - (lg_sl ([.ref (g 0), .ref (ad w1)])).length) Slot.unset).toArray = ls at hl ⊢
  have hl : lv_has ls 3 [(0, .ref (g 0)), (1, .ref (ad w1))] := hl
  unfold f_X4_define at hE
  have ⟨hw1, hE⟩ := ck_some hE
  suffices main : ∀ (H : Heap) (locs : List Loc) (ls : Array Slot), va_P D vwCl (wK g cA t s y d q k) H → va_D A (wK g cA t s y d q k) → va_S A S0.heap H locs → lv_has ls 3 [(0, .ref (g 0)), (1, .ref (ad w1))] → W PP l EE (headSpec wsX4_define ({ frames := 3, cells := 0, slots := 0, locals := 66 })).room S0 MM (#[.ref (g 0), .ref (ad w1)] : Array Value) below meth CC H locs 0 0 (MQ below (cQi D (wK g cA u.2.1 u.2.2.1 u.2.2.2.1 u.2.2.2.2.1 q u.2.2.2.2.2) A u.1) (#[.ref (g 0), .ref (ad w1)] : Array Value) S0 0 0 A) (F0 MM 0 ls []) from main _ _ _ hP hD hS hl
  intro H locs ls hP hD hS hl
  refine lv_aload_n hx hb dX4_define_0 rfl (lv_at hl 0 rfl) ?_
  refine va_get (D := D) (ci := 3) (v := .ref (g 7)) (C := RX4) (T := TX4) (N := 6) hx hb hts inX4 hown hK hP 0 rfl rfl 3 (by decide) k0 (fun _ h9 => h9) rfl dX4_define_1 ?_
  obtain ⟨u1, h2, hE⟩ := bd_some hE
  refine cn_i (As := []) (rest := []) (r := u1) (w0 := (wK g cA t s y d q k)) (N := 18) ⟨hx, hb, hml, hown, hts⟩ (c_X2_isMaking l D cA ad adK adV tA tS (g 7) (g 8) (g 9) (g 10) (g 11) (g 12) (g 13) (g 14) H.size d u1 h2) (cwV 0 hts hX4_define_X2_isMaking_42 rfl rfl rfl (by decide +kernel) ⟨Nat.le_of_ble_eq_true rfl, Nat.le_of_ble_eq_true rfl⟩) rfl hl.1 rfl (Nat.le_of_ble_eq_true rfl) dX4_define_4 ⟨Nat.zero_le _, Nat.zero_le _⟩ hK hP hD hS hA (va_recv hK hP (ci := 1) (q0 := 7) rfl rfl) [7, 8, 9, 10, 11, 12, 13, 14] [0, 1, 2, 3, 4, 5, 6, 15, 16, 17] (wK g cA t s y d q k) rfl (by decide +kernel) rfl (wr := List.filterMap (fun i => (wK g cA t s y d q k)[i]?) [0, 1, 2, 3, 4, 5, 6, 15, 16, 17]) rfl rfl (by decide +kernel) rfl (by decide +kernel) [g 0, g 1, g 2, g 3, g 4, g 5, g 6, g 7, g 8, g 9, g 10, g 11, g 12, g 13, g 14, g 15, g 16, g 17] rfl rfl (fun a U g mk h => SX.blind a U g mk h) (fun U hU hW => SX.call hX hS (va_free (wc := (wD (g 7) (g 8) (g 9) (g 10) (g 11) (g 12) (g 13) (g 14) cA d)) hD hS hA [7, 8, 9, 10, 11, 12, 13, 14] rfl) U hU hW) (fun H locs hP hD hS => ?_)
  have hP : va_P D vwCl (wK g cA t s y d q k) H := hP
  have hD : va_D A (wK g cA t s y d q k) := hD
  refine lv_if_eq (tgt := 13) hx hb dX4_define_7 (by decide) (fun c3 => ?_) (fun c3 => ?_)
  · have hE := if_t c3 hE
    refine lv_aload_n hx hb dX4_define_13 rfl (lv_at hl 0 rfl) ?_
    refine va_get (D := D) (ci := 3) (v := .ref (g 1)) (C := RX4) (T := TX4) (N := 6) hx hb hts inX4 hown hK hP 0 rfl rfl 0 (by decide) k2 (fun _ h9 => h9) rfl dX4_define_14 ?_
    obtain ⟨u4, h5, hE⟩ := bd_some hE
    refine cn_i (As := []) (rest := []) (r := u4.1) (w0 := (wK g cA t s y d q k)) (N := 18) ⟨hx, hb, hml, hown, hts⟩ (c_X9_parseName l D cA (g 1) (g 2) H.size t u4 h5) (cwV 0 hts hX4_define_X9_parseName_58 rfl rfl rfl (by decide +kernel) ⟨Nat.le_of_ble_eq_true rfl, Nat.le_of_ble_eq_true rfl⟩) rfl hl.1 rfl (Nat.le_of_ble_eq_true rfl) dX4_define_17 ⟨Nat.zero_le _, Nat.zero_le _⟩ hK hP hD hS hA (va_recv hK hP (ci := 8) (q0 := 1) rfl rfl) [1, 2] [0, 3, 4, 5, 6, 7, 8, 9, 10, 11, 12, 13, 14, 15, 16, 17] (wK g cA u4.2 s y d q k) rfl (by decide +kernel) rfl (wr := List.filterMap (fun i => (wK g cA t s y d q k)[i]?) [0, 3, 4, 5, 6, 7, 8, 9, 10, 11, 12, 13, 14, 15, 16, 17]) rfl rfl (by decide +kernel) rfl (by decide +kernel) [g 0, g 1, g 2, g 3, g 4, g 5, g 6, g 7, g 8, g 9, g 10, g 11, g 12, g 13, g 14, g 15, g 16, g 17] rfl rfl (fun _ _ _ _ h => h) (fun _ _ _ => trivial) (fun H locs hP hD hS => ?_)
    have hP : va_P D vwCl (wK g cA u4.2 s y d q k) H := hP
    have hD : va_D A (wK g cA u4.2 s y d q k) := hD
    refine lv_istore_n (lv' := [(2, .int u4.1), (0, .ref (g 0)), (1, .ref (ad w1))]) hx hb dX4_define_20 rfl hl (by decide) rfl (fun ls hl => ?_)
    refine lv_iload_n hx hb dX4_define_21 rfl (lv_at hl 0 rfl) ?_
    refine lv_if_eq (tgt := 27) hx hb dX4_define_22 (by decide) (fun c6 => ?_) (fun c6 => ?_)
    · have hE := if_t c6 hE
      refine lv_aload_n hx hb dX4_define_27 rfl (lv_at hl 1 rfl) ?_
      refine va_get (D := D) (ci := 3) (v := .ref (g 7)) (C := RX4) (T := TX4) (N := 6) hx hb hts inX4 hown hK hP 0 rfl rfl 3 (by decide) k0 (fun _ h9 => h9) rfl dX4_define_28 ?_
      obtain ⟨u7, h8, hE⟩ := bd_some hE
      refine cn_i (As := []) (rest := []) (r := u7) (w0 := (wK g cA u4.2 s y d q k)) (N := 18) ⟨hx, hb, hml, hown, hts⟩ (c_X2_isFull l D cA ad adK adV tA tS (g 7) (g 8) (g 9) (g 10) (g 11) (g 12) (g 13) (g 14) H.size d u7 h8) (cwV 0 hts hX4_define_X2_isFull_64 rfl rfl rfl (by decide +kernel) ⟨Nat.le_of_ble_eq_true rfl, Nat.le_of_ble_eq_true rfl⟩) rfl hl.1 rfl (Nat.le_of_ble_eq_true rfl) dX4_define_31 ⟨Nat.zero_le _, Nat.zero_le _⟩ hK hP hD hS hA (va_recv hK hP (ci := 1) (q0 := 7) rfl rfl) [7, 8, 9, 10, 11, 12, 13, 14] [0, 1, 2, 3, 4, 5, 6, 15, 16, 17] (wK g cA u4.2 s y d q k) rfl (by decide +kernel) rfl (wr := List.filterMap (fun i => (wK g cA u4.2 s y d q k)[i]?) [0, 1, 2, 3, 4, 5, 6, 15, 16, 17]) rfl rfl (by decide +kernel) rfl (by decide +kernel) [g 0, g 1, g 2, g 3, g 4, g 5, g 6, g 7, g 8, g 9, g 10, g 11, g 12, g 13, g 14, g 15, g 16, g 17] rfl rfl (fun a U g mk h => SX.blind a U g mk h) (fun U hU hW => SX.call hX hS (va_free (wc := (wD (g 7) (g 8) (g 9) (g 10) (g 11) (g 12) (g 13) (g 14) cA d)) hD hS hA [7, 8, 9, 10, 11, 12, 13, 14] rfl) U hU hW) (fun H locs hP hD hS => ?_)
      have hP : va_P D vwCl (wK g cA u4.2 s y d q k) H := hP
      have hD : va_D A (wK g cA u4.2 s y d q k) := hD
      refine lv_if_ne (tgt := 51) hx hb dX4_define_34 (by decide) (fun c9 => ?_) (fun c9 => ?_)
      · have hE := if_f c9 hE
        refine lv_bipush (v := (-8)) hx hb dX4_define_51 (by decide +kernel) ?_
        obtain rfl := Option.some.inj hE
        exact rt_i hx hb hr hP hS rfl hlocks dX4_define_53
      · have hE := if_t c9 hE
        refine lv_aload_n hx hb dX4_define_37 rfl (lv_at hl 1 rfl) ?_
        refine va_get (D := D) (ci := 3) (v := .ref (g 5)) (C := RX4) (T := TX4) (N := 6) hx hb hts inX4 hown hK hP 0 rfl rfl 2 (by decide) k3 (fun _ h9 => h9) rfl dX4_define_38 ?_
        refine lv_aload_n hx hb dX4_define_41 rfl (lv_at hl 2 rfl) ?_
        refine vk_getfN (v := .int (wV_appends.getD w1 0)) hx hb ((hX.2.2.2.2.2.2.1 w1 hw1).2.2.1 ("WordForge$Word", "appends", "I", wV_appends) (List.mem_of_getElem? (i := 1) rfl)) hS hown (k4 _) (fun _ h9 => h9) dX4_define_42 ?_
        obtain ⟨u10, h11, hE⟩ := bd_some hE
        refine cn_i (As := [.int (wV_appends.getD w1 0)]) (rest := []) (r := u10) (w0 := (wK g cA u4.2 s y d q k)) (N := 18) ⟨hx, hb, hml, hown, hts⟩ (c_X5_hasRoom l D cA (g 5) (g 6) H.size (wV_appends.getD w1 0) y u10 h11) (cwV 1 hts hX4_define_X5_hasRoom_72 rfl rfl rfl (by decide +kernel) ⟨Nat.le_of_ble_eq_true rfl, Nat.le_of_ble_eq_true rfl⟩) rfl hl.1 rfl (Nat.le_of_ble_eq_true rfl) dX4_define_45 ⟨Nat.zero_le _, Nat.zero_le _⟩ hK hP hD hS hA (va_recv hK hP (ci := 4) (q0 := 5) rfl rfl) [5, 6] [0, 1, 2, 3, 4, 7, 8, 9, 10, 11, 12, 13, 14, 15, 16, 17] (wK g cA u4.2 s y d q k) rfl (by decide +kernel) rfl (wr := List.filterMap (fun i => (wK g cA u4.2 s y d q k)[i]?) [0, 1, 2, 3, 4, 7, 8, 9, 10, 11, 12, 13, 14, 15, 16, 17]) rfl rfl (by decide +kernel) rfl (by decide +kernel) [g 0, g 1, g 2, g 3, g 4, g 5, g 6, g 7, g 8, g 9, g 10, g 11, g 12, g 13, g 14, g 15, g 16, g 17] rfl rfl (fun _ _ _ _ h => h) (fun _ _ _ => trivial) (fun H locs hP hD hS => ?_)
        have hP : va_P D vwCl (wK g cA u4.2 s y d q k) H := hP
        have hD : va_D A (wK g cA u4.2 s y d q k) := hD
        refine lv_if_ne (tgt := 54) hx hb dX4_define_48 (by decide) (fun c12 => ?_) (fun c12 => ?_)
        · have hE := if_f c12 hE
          refine lv_aload_n hx hb dX4_define_54 rfl (lv_at hl 1 rfl) ?_
          refine lv_aload_n hx hb dX4_define_55 rfl (lv_at hl 2 rfl) ?_
          obtain ⟨u13, h14, hE⟩ := bd_some hE
          refine cw_v (As := [.ref (ad w1)]) (rest := []) (wc := (wK g cA u4.2 s y d q k)) ⟨hx, hb, hml, hown, hts⟩ (c_X4_begin l D cA ad adK adV tA tS g H.size w1 u4.2 s y d q k u13 h14) (cwV 1 hts hX4_define_X4_begin_76 rfl rfl rfl (by decide +kernel) ⟨Nat.le_of_ble_eq_true rfl, Nat.le_of_ble_eq_true rfl⟩) rfl hl.1 rfl (Nat.le_of_ble_eq_true rfl) dX4_define_56 ⟨Nat.zero_le _, Nat.zero_le _⟩ hK hP hD hS hA (va_recv hK hP (ci := 3) (q0 := 0) rfl rfl) [g 0, g 1, g 2, g 3, g 4, g 5, g 6, g 7, g 8, g 9, g 10, g 11, g 12, g 13, g 14, g 15, g 16, g 17] rfl rfl (fun a U g mk h => SX.blind a U g mk h) (fun U hU hW => SX.call hX hS (fun q h => h.elim (fun ⟨k, e, h⟩ => hD.2 k (q, e) h) (fun h => hA q (Nat.le_trans hS.1 h))) U hU hW) (fun H locs hP hD hS => ?_)
          have hP : va_P D vwCl (wK g cA u4.2 u13.1 u13.2.1 u13.2.2.1 q u13.2.2.2) H := hP
          have hD : va_D A (wK g cA u4.2 u13.1 u13.2.1 u13.2.2.1 q u13.2.2.2) := hD
          refine lv_iconst (v := 0) hx hb dX4_define_59 (by decide +kernel) ?_
          obtain rfl := Option.some.inj hE
          exact rt_i hx hb hr hP hS rfl hlocks dX4_define_60
        · have hE := if_t c12 hE
          refine lv_bipush (v := (-8)) hx hb dX4_define_51 (by decide +kernel) ?_
          obtain rfl := Option.some.inj hE
          exact rt_i hx hb hr hP hS rfl hlocks dX4_define_53
    · have hE := if_f c6 hE
      refine lv_iload_n hx hb dX4_define_25 rfl (lv_at hl 0 rfl) ?_
      obtain rfl := Option.some.inj hE
      exact rt_i hx hb hr hP hS rfl hlocks dX4_define_26
  · have hE := if_f c3 hE
    refine lv_bipush (v := (-29)) hx hb dX4_define_10 (by decide +kernel) ?_
    obtain rfl := Option.some.inj hE
    exact rt_i hx hb hr hP hS rfl hlocks dX4_define_12
set_option maxRecDepth 20000 in
theorem hX4_compile_X2_isWord_113 : GoodIn wsX4_compile (wsV RX4 113 RX2 yX2_isWord wsX2_isWord) := goodIn_r _ [4, 5, 6, 7, 8, 9, 37, 38, 39, 40, 41, 42, 43, 44] rfl (by decide +kernel)
set_option maxRecDepth 20000 in
theorem hX4_compile_X5_append_97 : GoodIn wsX4_compile (wsV RX4 97 RX5 yX5_append wsX5_append) := goodIn_r _ [10, 11, 12, 13, 14, 15, 16, 17, 18, 19, 13, 20, 45, 46] rfl (by decide +kernel)
set_option maxRecDepth 20000 in
theorem hX4_compile_X8_dropOneUnless_116 : GoodIn wsX4_compile (wsV RX4 116 RX8 yX8_dropOneUnless wsX8_dropOneUnless) := goodIn_r _ [21, 22, 23, 24, 25, 26, 27, 28, 24, 29, 30, 47, 48, 49] rfl (by decide +kernel)
set_option maxHeartbeats 4000000 in
set_option maxRecDepth 100000 in
theorem c_X4_compile (l : Launch) (D : va_G) (cA : Nat → ClassId) (ad adK adV : Nat → Nat) (tA tS : Nat) (g : Nat → Nat) (sz : Nat) (x1 : Int32) (t : tT) (s : tR) (y : tY) (d : tD) (q : tP) (k : tK) (u : Int32 × tR × tY) (hE : f_X4_compile x1 s y d = some u) : Met l yX4_compile wsX4_compile ({ frames := 2, cells := 0, slots := 0, locals := 42 }) (va_Pc [.ref (g 0), .int x1] (PRE D cA (wK g cA t s y d q k) sz (fun U => SX ad adK adV tA tS (va_A (wK g cA t s y d q k) sz) U U.heap))) (cQi D (wK g cA t u.2.1 u.2.2 d q k) (va_A (wK g cA t s y d q k) sz) u.1) 0 0 (va_A (wK g cA t s y d q k) sz) := by
  refine Met.ofW (cc := cX4_compile) (maxL := 2) (ret := (some .int)) (by decide) rfl ?_
  intro PP EE S0 MM args below meth CC S1 B hml hv
  obtain ⟨rfl, hsz, hP, hK, hD0, hX⟩ := hv
  have hx := B.exec
  have hb := B.bytes
  have hr := B.returns
  have hts := atoms_spec (ws := wsX4_compile) B.pre
  have hown : S0.vm.findClass RX4 = some MM.cls := findClass_of_methodNamed B.named
  have hlocks := B.notSynchronized
  subst hsz
  have hD := hD0.self (sz := S0.heap.size)
  have hX : SX ad adK adV tA tS (va_A (wK g cA t s y d q k) S0.heap.size) S0 S0.heap := hX
  generalize hAe : va_A (wK g cA t s y d q k) S0.heap.size = A at hD hX ⊢
  have hA : ∀ q : Nat, S0.heap.size ≤ q → A q := fun q h => by rw [← hAe]; exact Or.inr h
  have hS : va_S A S0.heap S0.heap [] := va_S.rf
  have k0 := hts (.fieldLink RX4 30 "WordForge$Maker" "dictionary" "LWordForge$Dictionary;") (List.mem_of_getElem? (i := 1) rfl)
  have inX4 : ∀ w ∈ wsX40, w ∈ wsX4_compile := fun _ h => List.mem_cons_of_mem _ (List.mem_append_left _ (List.mem_append_left _ (List.mem_append_left _ (List.mem_append_right _ h))))
  have k2 := hts (.fieldLink RX4 22 "WordForge$Maker" "stack" "LWordForge$Row;") (List.mem_of_getElem? (i := 2) rfl)
  have k3 := hts (.fieldLink RX4 26 "WordForge$Maker" "memory" "LWordForge$Memory;") (List.mem_of_getElem? (i := 3) rfl)
  have hl := lv_entry ([.ref (g 0), .int x1]) (n := 2) (Nat.le_of_ble_eq_true rfl)
  rw [lg_entry_eq]
  generalize (lg_sl ([.ref (g 0), .int x1]) ++ List.replicate (2 - (lg_sl ([.ref (g 0), .int x1])).length) Slot.unset).toArray = ls at hl ⊢
  have hl : lv_has ls 2 [(0, .ref (g 0)), (1, .int x1)] := hl
  unfold f_X4_compile at hE
  suffices main : ∀ (H : Heap) (locs : List Loc) (ls : Array Slot), va_P D vwCl (wK g cA t s y d q k) H → va_D A (wK g cA t s y d q k) → va_S A S0.heap H locs → lv_has ls 2 [(0, .ref (g 0)), (1, .int x1)] → W PP l EE (headSpec wsX4_compile ({ frames := 2, cells := 0, slots := 0, locals := 42 })).room S0 MM (#[.ref (g 0), .int x1] : Array Value) below meth CC H locs 0 0 (MQ below (cQi D (wK g cA t u.2.1 u.2.2 d q k) A u.1) (#[.ref (g 0), .int x1] : Array Value) S0 0 0 A) (F0 MM 0 ls []) from main _ _ _ hP hD hS hl
  intro H locs ls hP hD hS hl
  refine lv_aload_n hx hb dX4_compile_0 rfl (lv_at hl 0 rfl) ?_
  refine va_get (D := D) (ci := 3) (v := .ref (g 7)) (C := RX4) (T := TX4) (N := 6) hx hb hts inX4 hown hK hP 0 rfl rfl 3 (by decide) k0 (fun _ h9 => h9) rfl dX4_compile_1 ?_
  refine lv_iload_n hx hb dX4_compile_4 rfl (lv_at hl 1 rfl) ?_
  obtain ⟨u1, h2, hE⟩ := bd_some hE
  refine cn_i (As := [.int x1]) (rest := []) (r := u1) (w0 := (wK g cA t s y d q k)) (N := 18) ⟨hx, hb, hml, hown, hts⟩ (c_X2_isWord l D cA ad adK adV tA tS (g 7) (g 8) (g 9) (g 10) (g 11) (g 12) (g 13) (g 14) H.size x1 d u1 h2) (cwV 1 hts hX4_compile_X2_isWord_113 rfl rfl rfl (by decide +kernel) ⟨Nat.le_of_ble_eq_true rfl, Nat.le_of_ble_eq_true rfl⟩) rfl hl.1 rfl (Nat.le_of_ble_eq_true rfl) dX4_compile_5 ⟨Nat.zero_le _, Nat.zero_le _⟩ hK hP hD hS hA (va_recv hK hP (ci := 1) (q0 := 7) rfl rfl) [7, 8, 9, 10, 11, 12, 13, 14] [0, 1, 2, 3, 4, 5, 6, 15, 16, 17] (wK g cA t s y d q k) rfl (by decide +kernel) rfl (wr := List.filterMap (fun i => (wK g cA t s y d q k)[i]?) [0, 1, 2, 3, 4, 5, 6, 15, 16, 17]) rfl rfl (by decide +kernel) rfl (by decide +kernel) [g 0, g 1, g 2, g 3, g 4, g 5, g 6, g 7, g 8, g 9, g 10, g 11, g 12, g 13, g 14, g 15, g 16, g 17] rfl rfl (fun a U g mk h => SX.blind a U g mk h) (fun U hU hW => SX.call hX hS (va_free (wc := (wD (g 7) (g 8) (g 9) (g 10) (g 11) (g 12) (g 13) (g 14) cA d)) hD hS hA [7, 8, 9, 10, 11, 12, 13, 14] rfl) U hU hW) (fun H locs hP hD hS => ?_)
  have hP : va_P D vwCl (wK g cA t s y d q k) H := hP
  have hD : va_D A (wK g cA t s y d q k) := hD
  refine lv_if_ne (tgt := 14) hx hb dX4_compile_8 (by decide) (fun c3 => ?_) (fun c3 => ?_)
  · have hE := if_f c3 hE
    refine lv_aload_n hx hb dX4_compile_14 rfl (lv_at hl 0 rfl) ?_
    refine va_get (D := D) (ci := 3) (v := .ref (g 3)) (C := RX4) (T := TX4) (N := 6) hx hb hts inX4 hown hK hP 0 rfl rfl 1 (by decide) k2 (fun _ h9 => h9) rfl dX4_compile_15 ?_
    refine lv_aload_n hx hb dX4_compile_18 rfl (lv_at hl 0 rfl) ?_
    refine va_get (D := D) (ci := 3) (v := .ref (g 5)) (C := RX4) (T := TX4) (N := 6) hx hb hts inX4 hown hK hP 0 rfl rfl 2 (by decide) k3 (fun _ h9 => h9) rfl dX4_compile_19 ?_
    refine lv_iload_n hx hb dX4_compile_22 rfl (lv_at hl 1 rfl) ?_
    obtain ⟨u4, h5, hE⟩ := bd_some hE
    refine cn_i (As := [.int x1]) (rest := [.ref (g 3)]) (r := u4.1) (w0 := (wK g cA t s y d q k)) (N := 18) ⟨hx, hb, hml, hown, hts⟩ (c_X5_append l D cA (g 5) (g 6) H.size x1 y u4 h5) (cwV 1 hts hX4_compile_X5_append_97 rfl rfl rfl (by decide +kernel) ⟨Nat.le_of_ble_eq_true rfl, Nat.le_of_ble_eq_true rfl⟩) rfl hl.1 rfl (Nat.le_of_ble_eq_true rfl) dX4_compile_23 ⟨Nat.zero_le _, Nat.zero_le _⟩ hK hP hD hS hA (va_recv hK hP (ci := 4) (q0 := 5) rfl rfl) [5, 6] [0, 1, 2, 3, 4, 7, 8, 9, 10, 11, 12, 13, 14, 15, 16, 17] (wK g cA t s u4.2 d q k) rfl (by decide +kernel) rfl (wr := List.filterMap (fun i => (wK g cA t s y d q k)[i]?) [0, 1, 2, 3, 4, 7, 8, 9, 10, 11, 12, 13, 14, 15, 16, 17]) rfl rfl (by decide +kernel) rfl (by decide +kernel) [g 0, g 1, g 2, g 3, g 4, g 5, g 6, g 7, g 8, g 9, g 10, g 11, g 12, g 13, g 14, g 15, g 16, g 17] rfl rfl (fun _ _ _ _ h => h) (fun _ _ _ => trivial) (fun H locs hP hD hS => ?_)
    have hP : va_P D vwCl (wK g cA t s u4.2 d q k) H := hP
    have hD : va_D A (wK g cA t s u4.2 d q k) := hD
    obtain ⟨u6, h7, hE⟩ := bd_some hE
    refine cn_i (As := [.int u4.1]) (rest := []) (r := u6.1) (w0 := (wK g cA t s u4.2 d q k)) (N := 18) ⟨hx, hb, hml, hown, hts⟩ (c_X8_dropOneUnless l D cA (g 3) (g 4) H.size u4.1 (-3) s u6 h7) (cwV 1 hts hX4_compile_X8_dropOneUnless_116 rfl rfl rfl (by decide +kernel) ⟨Nat.le_of_ble_eq_true rfl, Nat.le_of_ble_eq_true rfl⟩) rfl hl.1 rfl (Nat.le_of_ble_eq_true rfl) dX4_compile_26 ⟨Nat.zero_le _, Nat.zero_le _⟩ hK hP hD hS hA (va_recv hK hP (ci := 7) (q0 := 3) rfl rfl) [3, 4] [0, 1, 2, 5, 6, 7, 8, 9, 10, 11, 12, 13, 14, 15, 16, 17] (wK g cA t u6.2 u4.2 d q k) rfl (by decide +kernel) rfl (wr := List.filterMap (fun i => (wK g cA t s u4.2 d q k)[i]?) [0, 1, 2, 5, 6, 7, 8, 9, 10, 11, 12, 13, 14, 15, 16, 17]) rfl rfl (by decide +kernel) rfl (by decide +kernel) [g 0, g 1, g 2, g 3, g 4, g 5, g 6, g 7, g 8, g 9, g 10, g 11, g 12, g 13, g 14, g 15, g 16, g 17] rfl rfl (fun _ _ _ _ h => h) (fun _ _ _ => trivial) (fun H locs hP hD hS => ?_)
    have hP : va_P D vwCl (wK g cA t u6.2 u4.2 d q k) H := hP
    have hD : va_D A (wK g cA t u6.2 u4.2 d q k) := hD
    obtain rfl := Option.some.inj hE
    exact rt_i hx hb hr hP hS rfl hlocks dX4_compile_29
  · have hE := if_t c3 hE
    refine lv_bipush (v := (-9)) hx hb dX4_compile_11 (by decide +kernel) ?_
    obtain rfl := Option.some.inj hE
    exact rt_i hx hb hr hP hS rfl hlocks dX4_compile_13
set_option maxRecDepth 20000 in
theorem hX4_goOnCompiling_X2_isMaking_42 : GoodIn wsX4_goOnCompiling (wsV RX4 42 RX2 yX2_isMaking wsX2_isMaking) := goodIn_r _ [3, 4, 5, 6, 7, 8, 9, 16, 17, 18, 19, 20, 21, 22, 23] rfl (by decide +kernel)
set_option maxHeartbeats 4000000 in
set_option maxRecDepth 100000 in
theorem c_X4_goOnCompiling (l : Launch) (D : va_G) (cA : Nat → ClassId) (ad adK adV : Nat → Nat) (tA tS : Nat) (g : Nat → Nat) (sz : Nat) (t : tT) (s : tR) (y : tY) (d : tD) (q : tP) (k : tK) (u : Int32 × tK) (hE : f_X4_goOnCompiling d k = some u) : Met l yX4_goOnCompiling wsX4_goOnCompiling ({ frames := 1, cells := 0, slots := 0, locals := 20 }) (va_Pc [.ref (g 0)] (PRE D cA (wK g cA t s y d q k) sz (fun U => SX ad adK adV tA tS (va_A (wK g cA t s y d q k) sz) U U.heap))) (cQi D (wK g cA t s y d q u.2) (va_A (wK g cA t s y d q k) sz) u.1) 0 0 (va_A (wK g cA t s y d q k) sz) := by
  refine Met.ofW (cc := cX4_goOnCompiling) (maxL := 1) (ret := (some .int)) (by decide) rfl ?_
  intro PP EE S0 MM args below meth CC S1 B hml hv
  obtain ⟨rfl, hsz, hP, hK, hD0, hX⟩ := hv
  have hx := B.exec
  have hb := B.bytes
  have hr := B.returns
  have hts := atoms_spec (ws := wsX4_goOnCompiling) B.pre
  have hown : S0.vm.findClass RX4 = some MM.cls := findClass_of_methodNamed B.named
  have hlocks := B.notSynchronized
  subst hsz
  have hD := hD0.self (sz := S0.heap.size)
  have hX : SX ad adK adV tA tS (va_A (wK g cA t s y d q k) S0.heap.size) S0 S0.heap := hX
  generalize hAe : va_A (wK g cA t s y d q k) S0.heap.size = A at hD hX ⊢
  have hA : ∀ q : Nat, S0.heap.size ≤ q → A q := fun q h => by rw [← hAe]; exact Or.inr h
  have hS : va_S A S0.heap S0.heap [] := va_S.rf
  have k0 := hts (.fieldLink RX4 30 "WordForge$Maker" "dictionary" "LWordForge$Dictionary;") (List.mem_of_getElem? (i := 1) rfl)
  have inX4 : ∀ w ∈ wsX40, w ∈ wsX4_goOnCompiling := fun _ h => List.mem_cons_of_mem _ (List.mem_append_left _ (List.mem_append_right _ h))
  have k2 := hts (.fieldLink RX4 34 "WordForge$Maker" "compiling" "Z") (List.mem_of_getElem? (i := 2) rfl)
  have hl := lv_entry ([.ref (g 0)]) (n := 1) (Nat.le_of_ble_eq_true rfl)
  rw [lg_entry_eq]
  generalize (lg_sl ([.ref (g 0)]) ++ List.replicate (1 - (lg_sl ([.ref (g 0)])).length) Slot.unset).toArray = ls at hl ⊢
  have hl : lv_has ls 1 [(0, .ref (g 0))] := hl
  unfold f_X4_goOnCompiling at hE
  suffices main : ∀ (H : Heap) (locs : List Loc) (ls : Array Slot), va_P D vwCl (wK g cA t s y d q k) H → va_D A (wK g cA t s y d q k) → va_S A S0.heap H locs → lv_has ls 1 [(0, .ref (g 0))] → W PP l EE (headSpec wsX4_goOnCompiling ({ frames := 1, cells := 0, slots := 0, locals := 20 })).room S0 MM (#[.ref (g 0)] : Array Value) below meth CC H locs 0 0 (MQ below (cQi D (wK g cA t s y d q u.2) A u.1) (#[.ref (g 0)] : Array Value) S0 0 0 A) (F0 MM 0 ls []) from main _ _ _ hP hD hS hl
  intro H locs ls hP hD hS hl
  refine lv_aload_n hx hb dX4_goOnCompiling_0 rfl (lv_at hl 0 rfl) ?_
  refine va_get (D := D) (ci := 3) (v := .ref (g 7)) (C := RX4) (T := TX4) (N := 6) hx hb hts inX4 hown hK hP 0 rfl rfl 3 (by decide) k0 (fun _ h9 => h9) rfl dX4_goOnCompiling_1 ?_
  obtain ⟨u1, h2, hE⟩ := bd_some hE
  refine cn_i (As := []) (rest := []) (r := u1) (w0 := (wK g cA t s y d q k)) (N := 18) ⟨hx, hb, hml, hown, hts⟩ (c_X2_isMaking l D cA ad adK adV tA tS (g 7) (g 8) (g 9) (g 10) (g 11) (g 12) (g 13) (g 14) H.size d u1 h2) (cwV 0 hts hX4_goOnCompiling_X2_isMaking_42 rfl rfl rfl (by decide +kernel) ⟨Nat.le_of_ble_eq_true rfl, Nat.le_of_ble_eq_true rfl⟩) rfl hl.1 rfl (Nat.le_of_ble_eq_true rfl) dX4_goOnCompiling_4 ⟨Nat.zero_le _, Nat.zero_le _⟩ hK hP hD hS hA (va_recv hK hP (ci := 1) (q0 := 7) rfl rfl) [7, 8, 9, 10, 11, 12, 13, 14] [0, 1, 2, 3, 4, 5, 6, 15, 16, 17] (wK g cA t s y d q k) rfl (by decide +kernel) rfl (wr := List.filterMap (fun i => (wK g cA t s y d q k)[i]?) [0, 1, 2, 3, 4, 5, 6, 15, 16, 17]) rfl rfl (by decide +kernel) rfl (by decide +kernel) [g 0, g 1, g 2, g 3, g 4, g 5, g 6, g 7, g 8, g 9, g 10, g 11, g 12, g 13, g 14, g 15, g 16, g 17] rfl rfl (fun a U g mk h => SX.blind a U g mk h) (fun U hU hW => SX.call hX hS (va_free (wc := (wD (g 7) (g 8) (g 9) (g 10) (g 11) (g 12) (g 13) (g 14) cA d)) hD hS hA [7, 8, 9, 10, 11, 12, 13, 14] rfl) U hU hW) (fun H locs hP hD hS => ?_)
  have hP : va_P D vwCl (wK g cA t s y d q k) H := hP
  have hD : va_D A (wK g cA t s y d q k) := hD
  refine lv_if_ne (tgt := 13) hx hb dX4_goOnCompiling_7 (by decide) (fun c3 => ?_) (fun c3 => ?_)
  · have hE := if_f c3 hE
    refine lv_aload_n hx hb dX4_goOnCompiling_13 rfl (lv_at hl 0 rfl) ?_
    refine lv_iconst (v := 1) hx hb dX4_goOnCompiling_14 (by decide +kernel) ?_
    refine va_put (D := D) (ci := 3) (v := .int 1) (ty := .boolean) (C := RX4) (T := TX4) (N := 6) hx hb hts inX4 tyX4 tyX4_ok nmX4 hown hK hP hD hS 0 rfl rfl 5 (by decide) k2 (fun _ h9 => h9) rfl (by decide +kernel) (by decide +kernel) (by decide +kernel) (Nat.le_of_ble_eq_true rfl) dX4_goOnCompiling_15 (fun H locs hP hD hS => ?_)
    have hP : va_P D vwCl (wK g cA t s y d q 1) H := hP
    have hD : va_D A (wK g cA t s y d q 1) := hD
    refine lv_iconst (v := 0) hx hb dX4_goOnCompiling_18 (by decide +kernel) ?_
    obtain rfl := Option.some.inj hE
    exact rt_i hx hb hr hP hS rfl hlocks dX4_goOnCompiling_19
  · have hE := if_t c3 hE
    refine lv_bipush (v := (-14)) hx hb dX4_goOnCompiling_10 (by decide +kernel) ?_
    obtain rfl := Option.some.inj hE
    exact rt_i hx hb hr hP hS rfl hlocks dX4_goOnCompiling_12
set_option maxRecDepth 20000 in
theorem hX4_make_X2_makeLatestImmediate_101 : GoodIn wsX4_make (wsV RX4 101 RX2 yX2_makeLatestImmediate wsX2_makeLatestImmediate) := goodIn_r _ [11, 12, 13, 14, 15, 16, 17, 70, 71, 72, 73, 74, 75, 76, 77] rfl (by decide +kernel)
set_option maxRecDepth 20000 in
theorem hX4_make_X8_fromTop_104 : GoodIn wsX4_make (wsV RX4 104 RX8 yX8_fromTop wsX8_fromTop) := goodIn_r _ [18, 19, 20, 21, 22, 23, 24, 78, 79, 80] rfl (by decide +kernel)
set_option maxRecDepth 20000 in
theorem hX4_make_X4_compile_107 : GoodIn wsX4_make (wsV RX4 107 RX4 yX4_compile wsX4_compile) := goodIn_r _ [25, 26, 27, 28, 29, 2, 3, 30, 31, 32, 33, 14, 34, 16, 35, 36, 37, 38, 39, 40, 41, 42, 43, 44, 45, 46, 47, 48, 21, 49, 50, 51, 52, 53, 23, 64, 65, 66, 67, 68, 69, 70, 71, 72, 73, 74, 75, 76, 77, 81, 82, 78, 79, 80] rfl (by decide +kernel)
set_option maxRecDepth 20000 in
theorem hX4_make_X4_goOnCompiling_110 : GoodIn wsX4_make (wsV RX4 110 RX4 yX4_goOnCompiling wsX4_goOnCompiling) := goodIn_r _ [54, 55, 56, 28, 57, 2, 58, 59, 60, 61, 14, 62, 16, 63, 64, 65, 66, 67, 68, 69, 70, 71, 72, 73, 74, 75, 76, 77] rfl (by decide +kernel)
set_option maxHeartbeats 4000000 in
set_option maxRecDepth 100000 in
theorem c_X4_make (l : Launch) (D : va_G) (cA : Nat → ClassId) (ad adK adV : Nat → Nat) (tA tS : Nat) (g : Nat → Nat) (sz : Nat) (w1 : Nat) (t : tT) (s : tR) (y : tY) (d : tD) (q : tP) (k : tK) (u : Int32 × tR × tY × tD × tK) (hE : f_X4_make w1 s y d k = some u) : Met l yX4_make wsX4_make ({ frames := 3, cells := 0, slots := 0, locals := 63 }) (va_Pc [.ref (g 0), .ref (ad w1)] (PRE D cA (wK g cA t s y d q k) sz (fun U => SX ad adK adV tA tS (va_A (wK g cA t s y d q k) sz) U U.heap))) (cQi D (wK g cA t u.2.1 u.2.2.1 u.2.2.2.1 q u.2.2.2.2) (va_A (wK g cA t s y d q k) sz) u.1) 0 0 (va_A (wK g cA t s y d q k) sz) := by
  refine Met.ofW (cc := cX4_make) (maxL := 2) (ret := (some .int)) (by decide) rfl ?_
  intro PP EE S0 MM args below meth CC S1 B hml hv
  obtain ⟨rfl, hsz, hP, hK, hD0, hX⟩ := hv
  have hx := B.exec
  have hb := B.bytes
  have hr := B.returns
  have hts := atoms_spec (ws := wsX4_make) B.pre
  have hown : S0.vm.findClass RX4 = some MM.cls := findClass_of_methodNamed B.named
  have hlocks := B.notSynchronized
  subst hsz
  have hD := hD0.self (sz := S0.heap.size)
  have hX : SX ad adK adV tA tS (va_A (wK g cA t s y d q k) S0.heap.size) S0 S0.heap := hX
  generalize hAe : va_A (wK g cA t s y d q k) S0.heap.size = A at hD hX ⊢
  have hA : ∀ q : Nat, S0.heap.size ≤ q → A q := fun q h => by rw [← hAe]; exact Or.inr h
  have hS : va_S A S0.heap S0.heap [] := va_S.rf
  have k0 := hts (.fieldLink RX4 80 "WordForge$1" "$SwitchMap$WordForge$Word" "[I") (List.mem_of_getElem? (i := 1) rfl)
  have k1 := hts (.fieldLink RX4 30 "WordForge$Maker" "dictionary" "LWordForge$Dictionary;") (List.mem_of_getElem? (i := 2) rfl)
  have inX4 : ∀ w ∈ wsX40, w ∈ wsX4_make := fun _ h => List.mem_cons_of_mem _ (List.mem_append_left _ (List.mem_append_left _ (List.mem_append_left _ (List.mem_append_right _ h))))
  have k3 := hts (.fieldLink RX4 22 "WordForge$Maker" "stack" "LWordForge$Row;") (List.mem_of_getElem? (i := 3) rfl)
  have hl := lv_entry ([.ref (g 0), .ref (ad w1)]) (n := 2) (Nat.le_of_ble_eq_true rfl)
  rw [lg_entry_eq]
  generalize (lg_sl ([.ref (g 0), .ref (ad w1)]) ++ List.replicate (2 - (lg_sl ([.ref (g 0), .ref (ad w1)])).length) Slot.unset).toArray = ls at hl ⊢
  have hl : lv_has ls 2 [(0, .ref (g 0)), (1, .ref (ad w1))] := hl
  unfold f_X4_make at hE
  have ⟨hw1, hE⟩ := ck_some hE
  suffices main : ∀ (H : Heap) (locs : List Loc) (ls : Array Slot), va_P D vwCl (wK g cA t s y d q k) H → va_D A (wK g cA t s y d q k) → va_S A S0.heap H locs → lv_has ls 2 [(0, .ref (g 0)), (1, .ref (ad w1))] → W PP l EE (headSpec wsX4_make ({ frames := 3, cells := 0, slots := 0, locals := 63 })).room S0 MM (#[.ref (g 0), .ref (ad w1)] : Array Value) below meth CC H locs 0 0 (MQ below (cQi D (wK g cA t u.2.1 u.2.2.1 u.2.2.2.1 q u.2.2.2.2) A u.1) (#[.ref (g 0), .ref (ad w1)] : Array Value) S0 0 0 A) (F0 MM 0 ls []) from main _ _ _ hP hD hS hl
  intro H locs ls hP hD hS hl
  refine va_gets hx hb hX.2.2.2.1 hS hown k0 (fun _ h9 => h9) dX4_make_0 ?_
  refine lv_aload_n hx hb dX4_make_3 rfl (lv_at hl 1 rfl) ?_
  refine cu_i (As := []) (rest := [.ref tS]) (r := wV_ordinal.getD w1 0) ⟨hx, hb, hml, hown, hts⟩ (c_ordinal l w1 (ad w1) H.size) (va_cwU 0 hts gX4_make_Jx29ce0_ordinal_8abf5_u85X10 rfl rfl rfl rfl (by decide +kernel) ⟨Nat.le_of_ble_eq_true rfl, Nat.le_of_ble_eq_true rfl⟩) rfl hl.1 rfl (Nat.le_of_ble_eq_true rfl) dX4_make_4 ⟨Nat.zero_le _, Nat.zero_le _⟩ hP hD hS hA (recvO (hX.2.2.2.2.2.2.1 w1 hw1).2.1 hS) PO_blind (PO_call ((hX.2.2.2.2.2.2.1 w1 hw1).2.2.1 ("java/lang/Enum", "ordinal", "I", wV_ordinal) (List.mem_of_getElem? (i := 0) rfl)) hS hA) (fun H locs hP hD hS => ?_)
  have ⟨c1, hE⟩ := ck_some hE
  refine va_ti hx hb hX.2.2.2.2.1 hS c1 rfl dX4_make_7 ?_
  by_cases c2 : (swm ((wV_ordinal.getD w1 0).toNatClampNeg)) = 4
  · have hE := if_t c2 hE
    refine lv_lookup (tgt := 36) (off := 28) hx hb dX4_make_8 (by decide +kernel) (by rw [c2]; decide +kernel) (by decide) ?_
    refine lv_aload_n hx hb dX4_make_36 rfl (lv_at hl 0 rfl) ?_
    refine va_get (D := D) (ci := 3) (v := .ref (g 7)) (C := RX4) (T := TX4) (N := 6) hx hb hts inX4 hown hK hP 0 rfl rfl 3 (by decide) k1 (fun _ h9 => h9) rfl dX4_make_37 ?_
    obtain ⟨u3, h4, hE⟩ := bd_some hE
    refine cn_i (As := []) (rest := []) (r := u3.1) (w0 := (wK g cA t s y d q k)) (N := 18) ⟨hx, hb, hml, hown, hts⟩ (c_X2_makeLatestImmediate l D cA ad adK adV tA tS (g 7) (g 8) (g 9) (g 10) (g 11) (g 12) (g 13) (g 14) H.size d u3 h4) (cwV 0 hts hX4_make_X2_makeLatestImmediate_101 rfl rfl rfl (by decide +kernel) ⟨Nat.le_of_ble_eq_true rfl, Nat.le_of_ble_eq_true rfl⟩) rfl hl.1 rfl (Nat.le_of_ble_eq_true rfl) dX4_make_40 ⟨Nat.zero_le _, Nat.zero_le _⟩ hK hP hD hS hA (va_recv hK hP (ci := 1) (q0 := 7) rfl rfl) [7, 8, 9, 10, 11, 12, 13, 14] [0, 1, 2, 3, 4, 5, 6, 15, 16, 17] (wK g cA t s y u3.2 q k) rfl (by decide +kernel) rfl (wr := List.filterMap (fun i => (wK g cA t s y d q k)[i]?) [0, 1, 2, 3, 4, 5, 6, 15, 16, 17]) rfl rfl (by decide +kernel) rfl (by decide +kernel) [g 0, g 1, g 2, g 3, g 4, g 5, g 6, g 7, g 8, g 9, g 10, g 11, g 12, g 13, g 14, g 15, g 16, g 17] rfl rfl (fun a U g mk h => SX.blind a U g mk h) (fun U hU hW => SX.call hX hS (va_free (wc := (wD (g 7) (g 8) (g 9) (g 10) (g 11) (g 12) (g 13) (g 14) cA d)) hD hS hA [7, 8, 9, 10, 11, 12, 13, 14] rfl) U hU hW) (fun H locs hP hD hS => ?_)
    have hP : va_P D vwCl (wK g cA t s y u3.2 q k) H := hP
    have hD : va_D A (wK g cA t s y u3.2 q k) := hD
    obtain rfl := Option.some.inj hE
    exact rt_i hx hb hr hP hS rfl hlocks dX4_make_43
  have hE := if_f c2 hE
  by_cases c5 : (swm ((wV_ordinal.getD w1 0).toNatClampNeg)) = 5
  · have hE := if_t c5 hE
    refine lv_lookup (tgt := 44) (off := 36) hx hb dX4_make_8 (by decide +kernel) (by rw [c5]; decide +kernel) (by decide) ?_
    refine lv_aload_n hx hb dX4_make_44 rfl (lv_at hl 0 rfl) ?_
    refine lv_aload_n hx hb dX4_make_45 rfl (lv_at hl 0 rfl) ?_
    refine va_get (D := D) (ci := 3) (v := .ref (g 3)) (C := RX4) (T := TX4) (N := 6) hx hb hts inX4 hown hK hP 0 rfl rfl 1 (by decide) k3 (fun _ h9 => h9) rfl dX4_make_46 ?_
    refine lv_iconst (v := 0) hx hb dX4_make_49 (by decide +kernel) ?_
    obtain ⟨u6, h7, hE⟩ := bd_some hE
    refine cn_i (As := [.int 0]) (rest := [.ref (g 0)]) (r := u6) (w0 := (wK g cA t s y d q k)) (N := 18) ⟨hx, hb, hml, hown, hts⟩ (c_X8_fromTop l D cA (g 3) (g 4) H.size 0 (-3) s u6 h7) (cwV 1 hts hX4_make_X8_fromTop_104 rfl rfl rfl (by decide +kernel) ⟨Nat.le_of_ble_eq_true rfl, Nat.le_of_ble_eq_true rfl⟩) rfl hl.1 rfl (Nat.le_of_ble_eq_true rfl) dX4_make_50 ⟨Nat.zero_le _, Nat.zero_le _⟩ hK hP hD hS hA (va_recv hK hP (ci := 7) (q0 := 3) rfl rfl) [3, 4] [0, 1, 2, 5, 6, 7, 8, 9, 10, 11, 12, 13, 14, 15, 16, 17] (wK g cA t s y d q k) rfl (by decide +kernel) rfl (wr := List.filterMap (fun i => (wK g cA t s y d q k)[i]?) [0, 1, 2, 5, 6, 7, 8, 9, 10, 11, 12, 13, 14, 15, 16, 17]) rfl rfl (by decide +kernel) rfl (by decide +kernel) [g 0, g 1, g 2, g 3, g 4, g 5, g 6, g 7, g 8, g 9, g 10, g 11, g 12, g 13, g 14, g 15, g 16, g 17] rfl rfl (fun _ _ _ _ h => h) (fun _ _ _ => trivial) (fun H locs hP hD hS => ?_)
    have hP : va_P D vwCl (wK g cA t s y d q k) H := hP
    have hD : va_D A (wK g cA t s y d q k) := hD
    obtain ⟨u8, h9, hE⟩ := bd_some hE
    refine cw_i (As := [.int u6]) (rest := []) (r := u8.1) (wc := (wK g cA t s y d q k)) ⟨hx, hb, hml, hown, hts⟩ (c_X4_compile l D cA ad adK adV tA tS g H.size u6 t s y d q k u8 h9) (cwV 1 hts hX4_make_X4_compile_107 rfl rfl rfl (by decide +kernel) ⟨Nat.le_of_ble_eq_true rfl, Nat.le_of_ble_eq_true rfl⟩) rfl hl.1 rfl (Nat.le_of_ble_eq_true rfl) dX4_make_53 ⟨Nat.zero_le _, Nat.zero_le _⟩ hK hP hD hS hA (va_recv hK hP (ci := 3) (q0 := 0) rfl rfl) [g 0, g 1, g 2, g 3, g 4, g 5, g 6, g 7, g 8, g 9, g 10, g 11, g 12, g 13, g 14, g 15, g 16, g 17] rfl rfl (fun a U g mk h => SX.blind a U g mk h) (fun U hU hW => SX.call hX hS (fun q h => h.elim (fun ⟨k, e, h⟩ => hD.2 k (q, e) h) (fun h => hA q (Nat.le_trans hS.1 h))) U hU hW) (fun H locs hP hD hS => ?_)
    have hP : va_P D vwCl (wK g cA t u8.2.1 u8.2.2 d q k) H := hP
    have hD : va_D A (wK g cA t u8.2.1 u8.2.2 d q k) := hD
    obtain rfl := Option.some.inj hE
    exact rt_i hx hb hr hP hS rfl hlocks dX4_make_56
  have hE := if_f c5 hE
  refine lv_lookup (tgt := 57) (off := 49) hx hb dX4_make_8 (by decide +kernel) (by show Op.lookupswitch.offset _ _ _ = _; rw [lv_osw c2 (show (4 : Int32).toInt = 4 by decide +kernel), lv_osw c5 (show (5 : Int32).toInt = 5 by decide +kernel)]; rfl) (by decide) ?_
  refine lv_aload_n hx hb dX4_make_57 rfl (lv_at hl 0 rfl) ?_
  obtain ⟨u10, h11, hE⟩ := bd_some hE
  refine cw_i (As := []) (rest := []) (r := u10.1) (wc := (wK g cA t s y d q k)) ⟨hx, hb, hml, hown, hts⟩ (c_X4_goOnCompiling l D cA ad adK adV tA tS g H.size t s y d q k u10 h11) (cwV 0 hts hX4_make_X4_goOnCompiling_110 rfl rfl rfl (by decide +kernel) ⟨Nat.le_of_ble_eq_true rfl, Nat.le_of_ble_eq_true rfl⟩) rfl hl.1 rfl (Nat.le_of_ble_eq_true rfl) dX4_make_58 ⟨Nat.zero_le _, Nat.zero_le _⟩ hK hP hD hS hA (va_recv hK hP (ci := 3) (q0 := 0) rfl rfl) [g 0, g 1, g 2, g 3, g 4, g 5, g 6, g 7, g 8, g 9, g 10, g 11, g 12, g 13, g 14, g 15, g 16, g 17] rfl rfl (fun a U g mk h => SX.blind a U g mk h) (fun U hU hW => SX.call hX hS (fun q h => h.elim (fun ⟨k, e, h⟩ => hD.2 k (q, e) h) (fun h => hA q (Nat.le_trans hS.1 h))) U hU hW) (fun H locs hP hD hS => ?_)
  have hP : va_P D vwCl (wK g cA t s y d q u10.2) H := hP
  have hD : va_D A (wK g cA t s y d q u10.2) := hD
  obtain rfl := Option.some.inj hE
  exact rt_i hx hb hr hP hS rfl hlocks dX4_make_61
set_option maxRecDepth 20000 in
theorem hX4_doAtOnce_X9_passComment_123 : GoodIn wsX4_doAtOnce (wsV RX4 123 RX9 yX9_passComment wsX9_passComment) := goodIn_r _ [4, 5, 6, 7, 8, 9, 10, 11, 18, 19, 20, 21, 22] rfl (by decide +kernel)
set_option maxHeartbeats 4000000 in
set_option maxRecDepth 100000 in
theorem c_X4_doAtOnce (l : Launch) (D : va_G) (cA : Nat → ClassId) (ad adK adV : Nat → Nat) (tA tS : Nat) (g : Nat → Nat) (sz : Nat) (w1 : Nat) (t : tT) (s : tR) (y : tY) (d : tD) (q : tP) (k : tK) (u : Int32 × tT × tK) (hE : f_X4_doAtOnce w1 t k = some u) : Met l yX4_doAtOnce wsX4_doAtOnce ({ frames := 1, cells := 0, slots := 0, locals := 20 }) (va_Pc [.ref (g 0), .ref (ad w1)] (PRE D cA (wK g cA t s y d q k) sz (fun U => SX ad adK adV tA tS (va_A (wK g cA t s y d q k) sz) U U.heap))) (cQi D (wK g cA u.2.1 s y d q u.2.2) (va_A (wK g cA t s y d q k) sz) u.1) 0 0 (va_A (wK g cA t s y d q k) sz) := by
  refine Met.ofW (cc := cX4_doAtOnce) (maxL := 2) (ret := (some .int)) (by decide) rfl ?_
  intro PP EE S0 MM args below meth CC S1 B hml hv
  obtain ⟨rfl, hsz, hP, hK, hD0, hX⟩ := hv
  have hx := B.exec
  have hb := B.bytes
  have hr := B.returns
  have hts := atoms_spec (ws := wsX4_doAtOnce) B.pre
  have hown : S0.vm.findClass RX4 = some MM.cls := findClass_of_methodNamed B.named
  have hlocks := B.notSynchronized
  subst hsz
  have hD := hD0.self (sz := S0.heap.size)
  have hX : SX ad adK adV tA tS (va_A (wK g cA t s y d q k) S0.heap.size) S0 S0.heap := hX
  generalize hAe : va_A (wK g cA t s y d q k) S0.heap.size = A at hD hX ⊢
  have hA : ∀ q : Nat, S0.heap.size ≤ q → A q := fun q h => by rw [← hAe]; exact Or.inr h
  have hS : va_S A S0.heap S0.heap [] := va_S.rf
  have k0 := hts (.fieldLink RX4 119 "WordForge$Word" "STOP_COMPILING" "LWordForge$Word;") (List.mem_of_getElem? (i := 1) rfl)
  have k1 : va_Z "WordForge$Word" "STOP_COMPILING" "LWordForge$Word;" (.ref (ad 66)) A S0 S0.heap := (hX.2.2.2.2.2.2.1 66 (by decide)).1
  have k2 := hts (.fieldLink RX4 18 "WordForge$Maker" "text" "LWordForge$Text;") (List.mem_of_getElem? (i := 3) rfl)
  have inX4 : ∀ w ∈ wsX40, w ∈ wsX4_doAtOnce := fun _ h => List.mem_cons_of_mem _ (List.mem_append_left _ (List.mem_append_right _ h))
  have k4 := hts (.fieldLink RX4 34 "WordForge$Maker" "compiling" "Z") (List.mem_of_getElem? (i := 2) rfl)
  have hl := lv_entry ([.ref (g 0), .ref (ad w1)]) (n := 2) (Nat.le_of_ble_eq_true rfl)
  rw [lg_entry_eq]
  generalize (lg_sl ([.ref (g 0), .ref (ad w1)]) ++ List.replicate (2 - (lg_sl ([.ref (g 0), .ref (ad w1)])).length) Slot.unset).toArray = ls at hl ⊢
  have hl : lv_has ls 2 [(0, .ref (g 0)), (1, .ref (ad w1))] := hl
  unfold f_X4_doAtOnce at hE
  have ⟨hw1, hE⟩ := ck_some hE
  suffices main : ∀ (H : Heap) (locs : List Loc) (ls : Array Slot), va_P D vwCl (wK g cA t s y d q k) H → va_D A (wK g cA t s y d q k) → va_S A S0.heap H locs → lv_has ls 2 [(0, .ref (g 0)), (1, .ref (ad w1))] → W PP l EE (headSpec wsX4_doAtOnce ({ frames := 1, cells := 0, slots := 0, locals := 20 })).room S0 MM (#[.ref (g 0), .ref (ad w1)] : Array Value) below meth CC H locs 0 0 (MQ below (cQi D (wK g cA u.2.1 s y d q u.2.2) A u.1) (#[.ref (g 0), .ref (ad w1)] : Array Value) S0 0 0 A) (F0 MM 0 ls []) from main _ _ _ hP hD hS hl
  intro H locs ls hP hD hS hl
  refine lv_aload_n hx hb dX4_doAtOnce_0 rfl (lv_at hl 1 rfl) ?_
  refine va_gets hx hb k1 hS hown k0 (fun _ h9 => h9) dX4_doAtOnce_1 ?_
  refine lv_acmp_ne (rx := some (ad w1)) (ry := some (ad 66)) (tgt := 15) hx hb dX4_doAtOnce_4 (by decide) (fun c1 => ?_) (fun c1 => ?_)
  · have c1 : ¬ w1 = 66 := fun h => c1 (by rw [h])
    have hE := if_f c1 hE
    refine lv_aload_n hx hb dX4_doAtOnce_15 rfl (lv_at hl 0 rfl) ?_
    refine va_get (D := D) (ci := 3) (v := .ref (g 1)) (C := RX4) (T := TX4) (N := 6) hx hb hts inX4 hown hK hP 0 rfl rfl 0 (by decide) k2 (fun _ h9 => h9) rfl dX4_doAtOnce_16 ?_
    obtain ⟨u2, h3, hE⟩ := bd_some hE
    refine cn_v (As := []) (rest := []) (w0 := (wK g cA t s y d q k)) (N := 18) ⟨hx, hb, hml, hown, hts⟩ (c_X9_passComment l D cA (g 1) (g 2) H.size t u2 h3) (cwV 0 hts hX4_doAtOnce_X9_passComment_123 rfl rfl rfl (by decide +kernel) ⟨Nat.le_of_ble_eq_true rfl, Nat.le_of_ble_eq_true rfl⟩) rfl hl.1 rfl (Nat.le_of_ble_eq_true rfl) dX4_doAtOnce_19 ⟨Nat.zero_le _, Nat.zero_le _⟩ hK hP hD hS hA (va_recv hK hP (ci := 8) (q0 := 1) rfl rfl) [1, 2] [0, 3, 4, 5, 6, 7, 8, 9, 10, 11, 12, 13, 14, 15, 16, 17] (wK g cA u2 s y d q k) rfl (by decide +kernel) rfl (wr := List.filterMap (fun i => (wK g cA t s y d q k)[i]?) [0, 3, 4, 5, 6, 7, 8, 9, 10, 11, 12, 13, 14, 15, 16, 17]) rfl rfl (by decide +kernel) rfl (by decide +kernel) [g 0, g 1, g 2, g 3, g 4, g 5, g 6, g 7, g 8, g 9, g 10, g 11, g 12, g 13, g 14, g 15, g 16, g 17] rfl rfl (fun _ _ _ _ h => h) (fun _ _ _ => trivial) (fun H locs hP hD hS => ?_)
    have hP : va_P D vwCl (wK g cA u2 s y d q k) H := hP
    have hD : va_D A (wK g cA u2 s y d q k) := hD
    refine lv_iconst (v := 0) hx hb dX4_doAtOnce_22 (by decide +kernel) ?_
    obtain rfl := Option.some.inj hE
    exact rt_i hx hb hr hP hS rfl hlocks dX4_doAtOnce_23
  · have c1 := hX.2.2.2.2.2.2.2.1 w1 66 hw1 (show 66 < 82 by decide) (Option.some.inj c1)
    have hE := if_t c1 hE
    refine lv_aload_n hx hb dX4_doAtOnce_7 rfl (lv_at hl 0 rfl) ?_
    refine lv_iconst (v := 0) hx hb dX4_doAtOnce_8 (by decide +kernel) ?_
    refine va_put (D := D) (ci := 3) (v := .int 0) (ty := .boolean) (C := RX4) (T := TX4) (N := 6) hx hb hts inX4 tyX4 tyX4_ok nmX4 hown hK hP hD hS 0 rfl rfl 5 (by decide) k4 (fun _ h9 => h9) rfl (by decide +kernel) (by decide +kernel) (by decide +kernel) (Nat.le_of_ble_eq_true rfl) dX4_doAtOnce_9 (fun H locs hP hD hS => ?_)
    have hP : va_P D vwCl (wK g cA t s y d q 0) H := hP
    have hD : va_D A (wK g cA t s y d q 0) := hD
    refine lv_goto (tgt := 22) hx hb dX4_doAtOnce_12 (by decide) ?_
    refine lv_iconst (v := 0) hx hb dX4_doAtOnce_22 (by decide +kernel) ?_
    obtain rfl := Option.some.inj hE
    exact rt_i hx hb hr hP hS rfl hlocks dX4_doAtOnce_23
set_option maxRecDepth 20000 in
theorem hX4_postpone_X2_isImmediate_140 : GoodIn wsX4_postpone (wsV RX4 140 RX2 yX2_isImmediate wsX2_isImmediate) := goodIn_r _ [3, 4, 5, 6, 7, 8, 9, 10, 11, 6, 12, 13, 36, 37, 38, 39, 40, 41, 42, 43] rfl (by decide +kernel)
set_option maxRecDepth 20000 in
theorem hX4_postpone_X5_append_97 : GoodIn wsX4_postpone (wsV RX4 97 RX5 yX5_append wsX5_append) := goodIn_r _ [14, 15, 16, 17, 18, 19, 20, 21, 22, 23, 17, 24, 44, 45] rfl (by decide +kernel)
set_option maxRecDepth 20000 in
theorem hX4_postpone_X5_hasRoom_72 : GoodIn wsX4_postpone (wsV RX4 72 RX5 yX5_hasRoom wsX5_hasRoom) := goodIn_r _ [25, 22, 23, 17, 24, 20, 44, 45] rfl (by decide +kernel)
set_option maxRecDepth 20000 in
theorem hX4_postpone_X5_appendBoth_133 : GoodIn wsX4_postpone (wsV RX4 133 RX5 yX5_appendBoth wsX5_appendBoth) := goodIn_r _ [26, 27, 28, 17, 29, 20, 19, 44, 45] rfl (by decide +kernel)
set_option maxHeartbeats 4000000 in
set_option maxRecDepth 100000 in
theorem c_X4_postpone (l : Launch) (D : va_G) (cA : Nat → ClassId) (ad adK adV : Nat → Nat) (tA tS : Nat) (g : Nat → Nat) (sz : Nat) (x1 : Int32) (t : tT) (s : tR) (y : tY) (d : tD) (q : tP) (k : tK) (u : Int32 × tY) (hE : f_X4_postpone x1 y d = some u) : Met l yX4_postpone wsX4_postpone ({ frames := 2, cells := 0, slots := 0, locals := 42 }) (va_Pc [.ref (g 0), .int x1] (PRE D cA (wK g cA t s y d q k) sz (fun U => SX ad adK adV tA tS (va_A (wK g cA t s y d q k) sz) U U.heap))) (cQi D (wK g cA t s u.2 d q k) (va_A (wK g cA t s y d q k) sz) u.1) 0 0 (va_A (wK g cA t s y d q k) sz) := by
  refine Met.ofW (cc := cX4_postpone) (maxL := 2) (ret := (some .int)) (by decide) rfl ?_
  intro PP EE S0 MM args below meth CC S1 B hml hv
  obtain ⟨rfl, hsz, hP, hK, hD0, hX⟩ := hv
  have hx := B.exec
  have hb := B.bytes
  have hr := B.returns
  have hts := atoms_spec (ws := wsX4_postpone) B.pre
  have hown : S0.vm.findClass RX4 = some MM.cls := findClass_of_methodNamed B.named
  have hlocks := B.notSynchronized
  subst hsz
  have hD := hD0.self (sz := S0.heap.size)
  have hX : SX ad adK adV tA tS (va_A (wK g cA t s y d q k) S0.heap.size) S0 S0.heap := hX
  generalize hAe : va_A (wK g cA t s y d q k) S0.heap.size = A at hD hX ⊢
  have hA : ∀ q : Nat, S0.heap.size ≤ q → A q := fun q h => by rw [← hAe]; exact Or.inr h
  have hS : va_S A S0.heap S0.heap [] := va_S.rf
  have k0 := hts (.fieldLink RX4 30 "WordForge$Maker" "dictionary" "LWordForge$Dictionary;") (List.mem_of_getElem? (i := 1) rfl)
  have inX4 : ∀ w ∈ wsX40, w ∈ wsX4_postpone := fun _ h => List.mem_cons_of_mem _ (List.mem_append_left _ (List.mem_append_left _ (List.mem_append_right _ h)))
  have k2 := hts (.fieldLink RX4 26 "WordForge$Maker" "memory" "LWordForge$Memory;") (List.mem_of_getElem? (i := 2) rfl)
  have hl := lv_entry ([.ref (g 0), .int x1]) (n := 2) (Nat.le_of_ble_eq_true rfl)
  rw [lg_entry_eq]
  generalize (lg_sl ([.ref (g 0), .int x1]) ++ List.replicate (2 - (lg_sl ([.ref (g 0), .int x1])).length) Slot.unset).toArray = ls at hl ⊢
  have hl : lv_has ls 2 [(0, .ref (g 0)), (1, .int x1)] := hl
  unfold f_X4_postpone at hE
  suffices main : ∀ (H : Heap) (locs : List Loc) (ls : Array Slot), va_P D vwCl (wK g cA t s y d q k) H → va_D A (wK g cA t s y d q k) → va_S A S0.heap H locs → lv_has ls 2 [(0, .ref (g 0)), (1, .int x1)] → W PP l EE (headSpec wsX4_postpone ({ frames := 2, cells := 0, slots := 0, locals := 42 })).room S0 MM (#[.ref (g 0), .int x1] : Array Value) below meth CC H locs 0 0 (MQ below (cQi D (wK g cA t s u.2 d q k) A u.1) (#[.ref (g 0), .int x1] : Array Value) S0 0 0 A) (F0 MM 0 ls []) from main _ _ _ hP hD hS hl
  intro H locs ls hP hD hS hl
  refine lv_aload_n hx hb dX4_postpone_0 rfl (lv_at hl 0 rfl) ?_
  refine va_get (D := D) (ci := 3) (v := .ref (g 7)) (C := RX4) (T := TX4) (N := 6) hx hb hts inX4 hown hK hP 0 rfl rfl 3 (by decide) k0 (fun _ h9 => h9) rfl dX4_postpone_1 ?_
  refine lv_iload_n hx hb dX4_postpone_4 rfl (lv_at hl 1 rfl) ?_
  obtain ⟨u1, h2, hE⟩ := bd_some hE
  refine cn_i (As := [.int x1]) (rest := []) (r := u1) (w0 := (wK g cA t s y d q k)) (N := 18) ⟨hx, hb, hml, hown, hts⟩ (c_X2_isImmediate l D cA ad adK adV tA tS (g 7) (g 8) (g 9) (g 10) (g 11) (g 12) (g 13) (g 14) H.size x1 d u1 h2) (cwV 1 hts hX4_postpone_X2_isImmediate_140 rfl rfl rfl (by decide +kernel) ⟨Nat.le_of_ble_eq_true rfl, Nat.le_of_ble_eq_true rfl⟩) rfl hl.1 rfl (Nat.le_of_ble_eq_true rfl) dX4_postpone_5 ⟨Nat.zero_le _, Nat.zero_le _⟩ hK hP hD hS hA (va_recv hK hP (ci := 1) (q0 := 7) rfl rfl) [7, 8, 9, 10, 11, 12, 13, 14] [0, 1, 2, 3, 4, 5, 6, 15, 16, 17] (wK g cA t s y d q k) rfl (by decide +kernel) rfl (wr := List.filterMap (fun i => (wK g cA t s y d q k)[i]?) [0, 1, 2, 3, 4, 5, 6, 15, 16, 17]) rfl rfl (by decide +kernel) rfl (by decide +kernel) [g 0, g 1, g 2, g 3, g 4, g 5, g 6, g 7, g 8, g 9, g 10, g 11, g 12, g 13, g 14, g 15, g 16, g 17] rfl rfl (fun a U g mk h => SX.blind a U g mk h) (fun U hU hW => SX.call hX hS (va_free (wc := (wD (g 7) (g 8) (g 9) (g 10) (g 11) (g 12) (g 13) (g 14) cA d)) hD hS hA [7, 8, 9, 10, 11, 12, 13, 14] rfl) U hU hW) (fun H locs hP hD hS => ?_)
  have hP : va_P D vwCl (wK g cA t s y d q k) H := hP
  have hD : va_D A (wK g cA t s y d q k) := hD
  refine lv_if_eq (tgt := 20) hx hb dX4_postpone_8 (by decide) (fun c3 => ?_) (fun c3 => ?_)
  · have hE := if_t c3 hE
    refine lv_aload_n hx hb dX4_postpone_20 rfl (lv_at hl 0 rfl) ?_
    refine va_get (D := D) (ci := 3) (v := .ref (g 5)) (C := RX4) (T := TX4) (N := 6) hx hb hts inX4 hown hK hP 0 rfl rfl 2 (by decide) k2 (fun _ h9 => h9) rfl dX4_postpone_21 ?_
    refine lv_iconst (v := 3) hx hb dX4_postpone_24 (by decide +kernel) ?_
    obtain ⟨u4, h5, hE⟩ := bd_some hE
    refine cn_i (As := [.int 3]) (rest := []) (r := u4) (w0 := (wK g cA t s y d q k)) (N := 18) ⟨hx, hb, hml, hown, hts⟩ (c_X5_hasRoom l D cA (g 5) (g 6) H.size 3 y u4 h5) (cwV 1 hts hX4_postpone_X5_hasRoom_72 rfl rfl rfl (by decide +kernel) ⟨Nat.le_of_ble_eq_true rfl, Nat.le_of_ble_eq_true rfl⟩) rfl hl.1 rfl (Nat.le_of_ble_eq_true rfl) dX4_postpone_25 ⟨Nat.zero_le _, Nat.zero_le _⟩ hK hP hD hS hA (va_recv hK hP (ci := 4) (q0 := 5) rfl rfl) [5, 6] [0, 1, 2, 3, 4, 7, 8, 9, 10, 11, 12, 13, 14, 15, 16, 17] (wK g cA t s y d q k) rfl (by decide +kernel) rfl (wr := List.filterMap (fun i => (wK g cA t s y d q k)[i]?) [0, 1, 2, 3, 4, 7, 8, 9, 10, 11, 12, 13, 14, 15, 16, 17]) rfl rfl (by decide +kernel) rfl (by decide +kernel) [g 0, g 1, g 2, g 3, g 4, g 5, g 6, g 7, g 8, g 9, g 10, g 11, g 12, g 13, g 14, g 15, g 16, g 17] rfl rfl (fun _ _ _ _ h => h) (fun _ _ _ => trivial) (fun H locs hP hD hS => ?_)
    have hP : va_P D vwCl (wK g cA t s y d q k) H := hP
    have hD : va_D A (wK g cA t s y d q k) := hD
    refine lv_if_ne (tgt := 34) hx hb dX4_postpone_28 (by decide) (fun c6 => ?_) (fun c6 => ?_)
    · have hE := if_f c6 hE
      refine lv_aload_n hx hb dX4_postpone_34 rfl (lv_at hl 0 rfl) ?_
      refine va_get (D := D) (ci := 3) (v := .ref (g 5)) (C := RX4) (T := TX4) (N := 6) hx hb hts inX4 hown hK hP 0 rfl rfl 2 (by decide) k2 (fun _ h9 => h9) rfl dX4_postpone_35 ?_
      refine lv_iconst (v := 1) hx hb dX4_postpone_38 (by decide +kernel) ?_
      refine lv_iload_n hx hb dX4_postpone_39 rfl (lv_at hl 1 rfl) ?_
      obtain ⟨u7, h8, hE⟩ := bd_some hE
      refine cn_i (As := [.int 1, .int x1]) (rest := []) (r := u7.1) (w0 := (wK g cA t s y d q k)) (N := 18) ⟨hx, hb, hml, hown, hts⟩ (c_X5_appendBoth l D cA (g 5) (g 6) H.size 1 x1 y u7 h8) (cwV 2 hts hX4_postpone_X5_appendBoth_133 rfl rfl rfl (by decide +kernel) ⟨Nat.le_of_ble_eq_true rfl, Nat.le_of_ble_eq_true rfl⟩) rfl hl.1 rfl (Nat.le_of_ble_eq_true rfl) dX4_postpone_40 ⟨Nat.zero_le _, Nat.zero_le _⟩ hK hP hD hS hA (va_recv hK hP (ci := 4) (q0 := 5) rfl rfl) [5, 6] [0, 1, 2, 3, 4, 7, 8, 9, 10, 11, 12, 13, 14, 15, 16, 17] (wK g cA t s u7.2 d q k) rfl (by decide +kernel) rfl (wr := List.filterMap (fun i => (wK g cA t s y d q k)[i]?) [0, 1, 2, 3, 4, 7, 8, 9, 10, 11, 12, 13, 14, 15, 16, 17]) rfl rfl (by decide +kernel) rfl (by decide +kernel) [g 0, g 1, g 2, g 3, g 4, g 5, g 6, g 7, g 8, g 9, g 10, g 11, g 12, g 13, g 14, g 15, g 16, g 17] rfl rfl (fun _ _ _ _ h => h) (fun _ _ _ => trivial) (fun H locs hP hD hS => ?_)
      have hP : va_P D vwCl (wK g cA t s u7.2 d q k) H := hP
      have hD : va_D A (wK g cA t s u7.2 d q k) := hD
      refine lv_pop hx hb dX4_postpone_43 rfl ?_
      refine lv_aload_n hx hb dX4_postpone_44 rfl (lv_at hl 0 rfl) ?_
      refine va_get (D := D) (ci := 3) (v := .ref (g 5)) (C := RX4) (T := TX4) (N := 6) hx hb hts inX4 hown hK hP 0 rfl rfl 2 (by decide) k2 (fun _ h9 => h9) rfl dX4_postpone_45 ?_
      refine lv_bipush (v := 63) hx hb dX4_postpone_48 (by decide +kernel) ?_
      obtain ⟨u9, h10, hE⟩ := bd_some hE
      refine cn_i (As := [.int 63]) (rest := []) (r := u9.1) (w0 := (wK g cA t s u7.2 d q k)) (N := 18) ⟨hx, hb, hml, hown, hts⟩ (c_X5_append l D cA (g 5) (g 6) H.size 63 u7.2 u9 h10) (cwV 1 hts hX4_postpone_X5_append_97 rfl rfl rfl (by decide +kernel) ⟨Nat.le_of_ble_eq_true rfl, Nat.le_of_ble_eq_true rfl⟩) rfl hl.1 rfl (Nat.le_of_ble_eq_true rfl) dX4_postpone_50 ⟨Nat.zero_le _, Nat.zero_le _⟩ hK hP hD hS hA (va_recv hK hP (ci := 4) (q0 := 5) rfl rfl) [5, 6] [0, 1, 2, 3, 4, 7, 8, 9, 10, 11, 12, 13, 14, 15, 16, 17] (wK g cA t s u9.2 d q k) rfl (by decide +kernel) rfl (wr := List.filterMap (fun i => (wK g cA t s u7.2 d q k)[i]?) [0, 1, 2, 3, 4, 7, 8, 9, 10, 11, 12, 13, 14, 15, 16, 17]) rfl rfl (by decide +kernel) rfl (by decide +kernel) [g 0, g 1, g 2, g 3, g 4, g 5, g 6, g 7, g 8, g 9, g 10, g 11, g 12, g 13, g 14, g 15, g 16, g 17] rfl rfl (fun _ _ _ _ h => h) (fun _ _ _ => trivial) (fun H locs hP hD hS => ?_)
      have hP : va_P D vwCl (wK g cA t s u9.2 d q k) H := hP
      have hD : va_D A (wK g cA t s u9.2 d q k) := hD
      obtain rfl := Option.some.inj hE
      exact rt_i hx hb hr hP hS rfl hlocks dX4_postpone_53
    · have hE := if_t c6 hE
      refine lv_bipush (v := (-8)) hx hb dX4_postpone_31 (by decide +kernel) ?_
      obtain rfl := Option.some.inj hE
      exact rt_i hx hb hr hP hS rfl hlocks dX4_postpone_33
  · have hE := if_f c3 hE
    refine lv_aload_n hx hb dX4_postpone_11 rfl (lv_at hl 0 rfl) ?_
    refine va_get (D := D) (ci := 3) (v := .ref (g 5)) (C := RX4) (T := TX4) (N := 6) hx hb hts inX4 hown hK hP 0 rfl rfl 2 (by decide) k2 (fun _ h9 => h9) rfl dX4_postpone_12 ?_
    refine lv_iload_n hx hb dX4_postpone_15 rfl (lv_at hl 1 rfl) ?_
    obtain ⟨u11, h12, hE⟩ := bd_some hE
    refine cn_i (As := [.int x1]) (rest := []) (r := u11.1) (w0 := (wK g cA t s y d q k)) (N := 18) ⟨hx, hb, hml, hown, hts⟩ (c_X5_append l D cA (g 5) (g 6) H.size x1 y u11 h12) (cwV 1 hts hX4_postpone_X5_append_97 rfl rfl rfl (by decide +kernel) ⟨Nat.le_of_ble_eq_true rfl, Nat.le_of_ble_eq_true rfl⟩) rfl hl.1 rfl (Nat.le_of_ble_eq_true rfl) dX4_postpone_16 ⟨Nat.zero_le _, Nat.zero_le _⟩ hK hP hD hS hA (va_recv hK hP (ci := 4) (q0 := 5) rfl rfl) [5, 6] [0, 1, 2, 3, 4, 7, 8, 9, 10, 11, 12, 13, 14, 15, 16, 17] (wK g cA t s u11.2 d q k) rfl (by decide +kernel) rfl (wr := List.filterMap (fun i => (wK g cA t s y d q k)[i]?) [0, 1, 2, 3, 4, 7, 8, 9, 10, 11, 12, 13, 14, 15, 16, 17]) rfl rfl (by decide +kernel) rfl (by decide +kernel) [g 0, g 1, g 2, g 3, g 4, g 5, g 6, g 7, g 8, g 9, g 10, g 11, g 12, g 13, g 14, g 15, g 16, g 17] rfl rfl (fun _ _ _ _ h => h) (fun _ _ _ => trivial) (fun H locs hP hD hS => ?_)
    have hP : va_P D vwCl (wK g cA t s u11.2 d q k) H := hP
    have hD : va_D A (wK g cA t s u11.2 d q k) := hD
    obtain rfl := Option.some.inj hE
    exact rt_i hx hb hr hP hS rfl hlocks dX4_postpone_19
set_option maxRecDepth 20000 in
theorem hX4_useNamed_X9_parseName_58 : GoodIn wsX4_useNamed (wsV RX4 58 RX9 yX9_parseName wsX9_parseName) := goodIn_r _ [6, 7, 8, 9, 10, 11, 12, 13, 9, 14, 15, 16, 17, 18, 19, 20, 21, 22, 23, 24, 25, 26, 27, 149, 150, 151, 152, 153] rfl (by decide +kernel)
set_option maxRecDepth 20000 in
theorem hX4_useNamed_X2_find_126 : GoodIn wsX4_useNamed (wsV RX4 126 RX2 yX2_find wsX2_find) := goodIn_r _ [28, 29, 30, 31, 32, 33, 34, 35, 36, 37, 31, 38, 39, 40, 41, 42, 43, 9, 44, 23, 17, 45, 46, 47, 48, 49, 50, 51, 52, 53, 54, 55, 56, 57, 58, 59, 60, 61, 62, 63, 64, 65, 66, 67, 68, 69, 70, 71, 72, 73, 74, 75, 76, 77, 78, 79, 80, 81, 82, 83, 84, 85, 86, 87, 88, 89, 90, 91, 92, 93, 94, 95, 96, 97, 154, 155, 156, 157, 158, 159, 160, 161, 149, 150, 151, 152, 153] rfl (by decide +kernel)
set_option maxRecDepth 20000 in
theorem hX4_useNamed_X8_put_130 : GoodIn wsX4_useNamed (wsV RX4 130 RX8 yX8_put wsX8_put) := goodIn_r _ [105, 106, 107, 108, 109, 110, 111, 112, 162, 163, 164] rfl (by decide +kernel)
set_option maxRecDepth 20000 in
theorem hX4_useNamed_X5_appendBoth_133 : GoodIn wsX4_useNamed (wsV RX4 133 RX5 yX5_appendBoth wsX5_appendBoth) := goodIn_r _ [113, 114, 115, 116, 117, 118, 119, 165, 166] rfl (by decide +kernel)
set_option maxRecDepth 20000 in
theorem hX4_useNamed_X4_postpone_137 : GoodIn wsX4_useNamed (wsV RX4 137 RX4 yX4_postpone wsX4_postpone) := goodIn_r _ [120, 121, 122, 123, 124, 2, 5, 125, 126, 127, 31, 128, 129, 130, 131, 132, 133, 33, 134, 135, 136, 116, 137, 119, 118, 138, 139, 140, 141, 142, 113, 114, 115, 117, 143, 144, 145, 146, 147, 148, 154, 155, 156, 157, 158, 159, 160, 161, 165, 166] rfl (by decide +kernel)
set_option maxHeartbeats 4000000 in
set_option maxRecDepth 100000 in
theorem c_X4_useNamed (l : Launch) (D : va_G) (cA : Nat → ClassId) (ad adK adV : Nat → Nat) (tA tS : Nat) (g : Nat → Nat) (sz : Nat) (w1 : Nat) (t : tT) (s : tR) (y : tY) (d : tD) (q : tP) (k : tK) (u : Int32 × tT × tR × tY) (hE : f_X4_useNamed w1 t s y d = some u) : Met l yX4_useNamed wsX4_useNamed ({ frames := 6, cells := 0, slots := 0, locals := 130 }) (va_Pc [.ref (g 0), .ref (ad w1)] (PRE D cA (wK g cA t s y d q k) sz (fun U => SX ad adK adV tA tS (va_A (wK g cA t s y d q k) sz) U U.heap))) (cQi D (wK g cA u.2.1 u.2.2.1 u.2.2.2 d q k) (va_A (wK g cA t s y d q k) sz) u.1) 0 0 (va_A (wK g cA t s y d q k) sz) := by
  refine Met.ofW (cc := cX4_useNamed) (maxL := 4) (ret := (some .int)) (by decide) rfl ?_
  intro PP EE S0 MM args below meth CC S1 B hml hv
  obtain ⟨rfl, hsz, hP, hK, hD0, hX⟩ := hv
  have hx := B.exec
  have hb := B.bytes
  have hr := B.returns
  have hts := atoms_spec (ws := wsX4_useNamed) B.pre
  have hown : S0.vm.findClass RX4 = some MM.cls := findClass_of_methodNamed B.named
  have hlocks := B.notSynchronized
  subst hsz
  have hD := hD0.self (sz := S0.heap.size)
  have hX : SX ad adK adV tA tS (va_A (wK g cA t s y d q k) S0.heap.size) S0 S0.heap := hX
  generalize hAe : va_A (wK g cA t s y d q k) S0.heap.size = A at hD hX ⊢
  have hA : ∀ q : Nat, S0.heap.size ≤ q → A q := fun q h => by rw [← hAe]; exact Or.inr h
  have hS : va_S A S0.heap S0.heap [] := va_S.rf
  have k0 := hts (.fieldLink RX4 18 "WordForge$Maker" "text" "LWordForge$Text;") (List.mem_of_getElem? (i := 1) rfl)
  have inX4 : ∀ w ∈ wsX40, w ∈ wsX4_useNamed := fun _ h => List.mem_cons_of_mem _ (List.mem_append_left _ (List.mem_append_left _ (List.mem_append_left _ (List.mem_append_left _ (List.mem_append_right _ h)))))
  have k2 := hts (.fieldLink RX4 30 "WordForge$Maker" "dictionary" "LWordForge$Dictionary;") (List.mem_of_getElem? (i := 2) rfl)
  have k3 := hts (.fieldLink RX4 80 "WordForge$1" "$SwitchMap$WordForge$Word" "[I") (List.mem_of_getElem? (i := 3) rfl)
  have k4 := hts (.fieldLink RX4 22 "WordForge$Maker" "stack" "LWordForge$Row;") (List.mem_of_getElem? (i := 4) rfl)
  have k5 := hts (.fieldLink RX4 26 "WordForge$Maker" "memory" "LWordForge$Memory;") (List.mem_of_getElem? (i := 5) rfl)
  have hl := lv_entry ([.ref (g 0), .ref (ad w1)]) (n := 4) (Nat.le_of_ble_eq_true rfl)
  rw [lg_entry_eq]
  generalize (lg_sl ([.ref (g 0), .ref (ad w1)]) ++ List.replicate (4 - (lg_sl ([.ref (g 0), .ref (ad w1)])).length) Slot.unset).toArray = ls at hl ⊢
  have hl : lv_has ls 4 [(0, .ref (g 0)), (1, .ref (ad w1))] := hl
  unfold f_X4_useNamed at hE
  have ⟨hw1, hE⟩ := ck_some hE
  suffices main : ∀ (H : Heap) (locs : List Loc) (ls : Array Slot), va_P D vwCl (wK g cA t s y d q k) H → va_D A (wK g cA t s y d q k) → va_S A S0.heap H locs → lv_has ls 4 [(0, .ref (g 0)), (1, .ref (ad w1))] → W PP l EE (headSpec wsX4_useNamed ({ frames := 6, cells := 0, slots := 0, locals := 130 })).room S0 MM (#[.ref (g 0), .ref (ad w1)] : Array Value) below meth CC H locs 0 0 (MQ below (cQi D (wK g cA u.2.1 u.2.2.1 u.2.2.2 d q k) A u.1) (#[.ref (g 0), .ref (ad w1)] : Array Value) S0 0 0 A) (F0 MM 0 ls []) from main _ _ _ hP hD hS hl
  intro H locs ls hP hD hS hl
  refine lv_aload_n hx hb dX4_useNamed_0 rfl (lv_at hl 0 rfl) ?_
  refine va_get (D := D) (ci := 3) (v := .ref (g 1)) (C := RX4) (T := TX4) (N := 6) hx hb hts inX4 hown hK hP 0 rfl rfl 0 (by decide) k0 (fun _ h9 => h9) rfl dX4_useNamed_1 ?_
  obtain ⟨u1, h2, hE⟩ := bd_some hE
  refine cn_i (As := []) (rest := []) (r := u1.1) (w0 := (wK g cA t s y d q k)) (N := 18) ⟨hx, hb, hml, hown, hts⟩ (c_X9_parseName l D cA (g 1) (g 2) H.size t u1 h2) (cwV 0 hts hX4_useNamed_X9_parseName_58 rfl rfl rfl (by decide +kernel) ⟨Nat.le_of_ble_eq_true rfl, Nat.le_of_ble_eq_true rfl⟩) rfl hl.1 rfl (Nat.le_of_ble_eq_true rfl) dX4_useNamed_4 ⟨Nat.zero_le _, Nat.zero_le _⟩ hK hP hD hS hA (va_recv hK hP (ci := 8) (q0 := 1) rfl rfl) [1, 2] [0, 3, 4, 5, 6, 7, 8, 9, 10, 11, 12, 13, 14, 15, 16, 17] (wK g cA u1.2 s y d q k) rfl (by decide +kernel) rfl (wr := List.filterMap (fun i => (wK g cA t s y d q k)[i]?) [0, 3, 4, 5, 6, 7, 8, 9, 10, 11, 12, 13, 14, 15, 16, 17]) rfl rfl (by decide +kernel) rfl (by decide +kernel) [g 0, g 1, g 2, g 3, g 4, g 5, g 6, g 7, g 8, g 9, g 10, g 11, g 12, g 13, g 14, g 15, g 16, g 17] rfl rfl (fun _ _ _ _ h => h) (fun _ _ _ => trivial) (fun H locs hP hD hS => ?_)
  have hP : va_P D vwCl (wK g cA u1.2 s y d q k) H := hP
  have hD : va_D A (wK g cA u1.2 s y d q k) := hD
  refine lv_istore_n (lv' := [(2, .int u1.1), (0, .ref (g 0)), (1, .ref (ad w1))]) hx hb dX4_useNamed_7 rfl hl (by decide) rfl (fun ls hl => ?_)
  refine lv_iload_n hx hb dX4_useNamed_8 rfl (lv_at hl 0 rfl) ?_
  refine lv_if_eq (tgt := 14) hx hb dX4_useNamed_9 (by decide) (fun c3 => ?_) (fun c3 => ?_)
  · have hE := if_t c3 hE
    refine lv_aload_n hx hb dX4_useNamed_14 rfl (lv_at hl 1 rfl) ?_
    refine va_get (D := D) (ci := 3) (v := .ref (g 7)) (C := RX4) (T := TX4) (N := 6) hx hb hts inX4 hown hK hP 0 rfl rfl 3 (by decide) k2 (fun _ h9 => h9) rfl dX4_useNamed_15 ?_
    refine lv_aload_n hx hb dX4_useNamed_18 rfl (lv_at hl 1 rfl) ?_
    refine va_get (D := D) (ci := 3) (v := .ref (g 1)) (C := RX4) (T := TX4) (N := 6) hx hb hts inX4 hown hK hP 0 rfl rfl 0 (by decide) k0 (fun _ h9 => h9) rfl dX4_useNamed_19 ?_
    obtain ⟨u4, h5, hE⟩ := bd_some hE
    refine cn_i (As := [.ref (g 1)]) (rest := []) (r := u4) (w0 := (wK g cA u1.2 s y d q k)) (N := 18) ⟨hx, hb, hml, hown, hts⟩ (c_X2_find l D cA ad adK adV tA tS (g 7) (g 8) (g 9) (g 10) (g 11) (g 12) (g 13) (g 14) (g 1) (g 2) H.size d u1.2 u4 h5) (cwV 1 hts hX4_useNamed_X2_find_126 rfl rfl rfl (by decide +kernel) ⟨Nat.le_of_ble_eq_true rfl, Nat.le_of_ble_eq_true rfl⟩) rfl hl.1 rfl (Nat.le_of_ble_eq_true rfl) dX4_useNamed_22 ⟨Nat.zero_le _, Nat.zero_le _⟩ hK hP hD hS hA (va_recv hK hP (ci := 1) (q0 := 7) rfl rfl) [7, 8, 9, 10, 11, 12, 13, 14, 1, 2] [0, 3, 4, 5, 6, 15, 16, 17] (wK g cA u1.2 s y d q k) rfl (by decide +kernel) rfl (wr := List.filterMap (fun i => (wK g cA u1.2 s y d q k)[i]?) [0, 3, 4, 5, 6, 15, 16, 17]) rfl rfl (by decide +kernel) rfl (by decide +kernel) [g 0, g 1, g 2, g 3, g 4, g 5, g 6, g 7, g 8, g 9, g 10, g 11, g 12, g 13, g 14, g 15, g 16, g 17] rfl rfl (fun a U g mk h => SX.blind a U g mk h) (fun U hU hW => SX.call hX hS (va_free (wc := (wDT (g 7) (g 8) (g 9) (g 10) (g 11) (g 12) (g 13) (g 14) (g 1) (g 2) cA d u1.2)) hD hS hA [7, 8, 9, 10, 11, 12, 13, 14, 1, 2] rfl) U hU hW) (fun H locs hP hD hS => ?_)
    have hP : va_P D vwCl (wK g cA u1.2 s y d q k) H := hP
    have hD : va_D A (wK g cA u1.2 s y d q k) := hD
    refine lv_istore_n (lv' := [(3, .int u4), (2, .int u1.1), (0, .ref (g 0)), (1, .ref (ad w1))]) hx hb dX4_useNamed_25 rfl hl (by decide) rfl (fun ls hl => ?_)
    refine lv_iload_n hx hb dX4_useNamed_26 rfl (lv_at hl 0 rfl) ?_
    refine lv_iconst (v := (-1)) hx hb dX4_useNamed_27 (by decide +kernel) ?_
    refine lv_icmp_ne (tgt := 34) hx hb dX4_useNamed_28 (by decide) (fun c6 => ?_) (fun c6 => ?_)
    · have hE := if_f c6 hE
      refine va_gets hx hb hX.2.2.2.1 hS hown k3 (fun _ h9 => h9) dX4_useNamed_34 ?_
      refine lv_aload_n hx hb dX4_useNamed_37 rfl (lv_at hl 3 rfl) ?_
      refine cu_i (As := []) (rest := [.ref tS]) (r := wV_ordinal.getD w1 0) ⟨hx, hb, hml, hown, hts⟩ (c_ordinal l w1 (ad w1) H.size) (va_cwU 0 hts gX4_useNamed_Jx29ce0_ordinal_8abf5_u85X10 rfl rfl rfl rfl (by decide +kernel) ⟨Nat.le_of_ble_eq_true rfl, Nat.le_of_ble_eq_true rfl⟩) rfl hl.1 rfl (Nat.le_of_ble_eq_true rfl) dX4_useNamed_38 ⟨Nat.zero_le _, Nat.zero_le _⟩ hP hD hS hA (recvO (hX.2.2.2.2.2.2.1 w1 hw1).2.1 hS) PO_blind (PO_call ((hX.2.2.2.2.2.2.1 w1 hw1).2.2.1 ("java/lang/Enum", "ordinal", "I", wV_ordinal) (List.mem_of_getElem? (i := 0) rfl)) hS hA) (fun H locs hP hD hS => ?_)
      have ⟨c7, hE⟩ := ck_some hE
      refine va_ti hx hb hX.2.2.2.2.1 hS c7 rfl dX4_useNamed_41 ?_
      by_cases c8 : (swm ((wV_ordinal.getD w1 0).toNatClampNeg)) = 6
      · have hE := if_t c8 hE
        refine lv_lookup (tgt := 68) (off := 26) hx hb dX4_useNamed_42 (by decide +kernel) (by rw [c8]; decide +kernel) (by decide) ?_
        refine lv_aload_n hx hb dX4_useNamed_68 rfl (lv_at hl 2 rfl) ?_
        refine va_get (D := D) (ci := 3) (v := .ref (g 3)) (C := RX4) (T := TX4) (N := 6) hx hb hts inX4 hown hK hP 0 rfl rfl 1 (by decide) k4 (fun _ h9 => h9) rfl dX4_useNamed_69 ?_
        refine lv_iload_n hx hb dX4_useNamed_72 rfl (lv_at hl 0 rfl) ?_
        obtain ⟨u9, h10, hE⟩ := bd_some hE
        refine cn_i (As := [.int u4]) (rest := []) (r := u9.1) (w0 := (wK g cA u1.2 s y d q k)) (N := 18) ⟨hx, hb, hml, hown, hts⟩ (c_X8_put l D cA (g 3) (g 4) H.size u4 (-3) s u9 h10) (cwV 1 hts hX4_useNamed_X8_put_130 rfl rfl rfl (by decide +kernel) ⟨Nat.le_of_ble_eq_true rfl, Nat.le_of_ble_eq_true rfl⟩) rfl hl.1 rfl (Nat.le_of_ble_eq_true rfl) dX4_useNamed_73 ⟨Nat.zero_le _, Nat.zero_le _⟩ hK hP hD hS hA (va_recv hK hP (ci := 7) (q0 := 3) rfl rfl) [3, 4] [0, 1, 2, 5, 6, 7, 8, 9, 10, 11, 12, 13, 14, 15, 16, 17] (wK g cA u1.2 u9.2 y d q k) rfl (by decide +kernel) rfl (wr := List.filterMap (fun i => (wK g cA u1.2 s y d q k)[i]?) [0, 1, 2, 5, 6, 7, 8, 9, 10, 11, 12, 13, 14, 15, 16, 17]) rfl rfl (by decide +kernel) rfl (by decide +kernel) [g 0, g 1, g 2, g 3, g 4, g 5, g 6, g 7, g 8, g 9, g 10, g 11, g 12, g 13, g 14, g 15, g 16, g 17] rfl rfl (fun _ _ _ _ h => h) (fun _ _ _ => trivial) (fun H locs hP hD hS => ?_)
        have hP : va_P D vwCl (wK g cA u1.2 u9.2 y d q k) H := hP
        have hD : va_D A (wK g cA u1.2 u9.2 y d q k) := hD
        obtain rfl := Option.some.inj hE
        exact rt_i hx hb hr hP hS rfl hlocks dX4_useNamed_76
      have hE := if_f c8 hE
      by_cases c11 : (swm ((wV_ordinal.getD w1 0).toNatClampNeg)) = 7
      · have hE := if_t c11 hE
        refine lv_lookup (tgt := 77) (off := 35) hx hb dX4_useNamed_42 (by decide +kernel) (by rw [c11]; decide +kernel) (by decide) ?_
        refine lv_aload_n hx hb dX4_useNamed_77 rfl (lv_at hl 2 rfl) ?_
        refine va_get (D := D) (ci := 3) (v := .ref (g 5)) (C := RX4) (T := TX4) (N := 6) hx hb hts inX4 hown hK hP 0 rfl rfl 2 (by decide) k5 (fun _ h9 => h9) rfl dX4_useNamed_78 ?_
        refine lv_iconst (v := 1) hx hb dX4_useNamed_81 (by decide +kernel) ?_
        refine lv_iload_n hx hb dX4_useNamed_82 rfl (lv_at hl 0 rfl) ?_
        obtain ⟨u12, h13, hE⟩ := bd_some hE
        refine cn_i (As := [.int 1, .int u4]) (rest := []) (r := u12.1) (w0 := (wK g cA u1.2 s y d q k)) (N := 18) ⟨hx, hb, hml, hown, hts⟩ (c_X5_appendBoth l D cA (g 5) (g 6) H.size 1 u4 y u12 h13) (cwV 2 hts hX4_useNamed_X5_appendBoth_133 rfl rfl rfl (by decide +kernel) ⟨Nat.le_of_ble_eq_true rfl, Nat.le_of_ble_eq_true rfl⟩) rfl hl.1 rfl (Nat.le_of_ble_eq_true rfl) dX4_useNamed_83 ⟨Nat.zero_le _, Nat.zero_le _⟩ hK hP hD hS hA (va_recv hK hP (ci := 4) (q0 := 5) rfl rfl) [5, 6] [0, 1, 2, 3, 4, 7, 8, 9, 10, 11, 12, 13, 14, 15, 16, 17] (wK g cA u1.2 s u12.2 d q k) rfl (by decide +kernel) rfl (wr := List.filterMap (fun i => (wK g cA u1.2 s y d q k)[i]?) [0, 1, 2, 3, 4, 7, 8, 9, 10, 11, 12, 13, 14, 15, 16, 17]) rfl rfl (by decide +kernel) rfl (by decide +kernel) [g 0, g 1, g 2, g 3, g 4, g 5, g 6, g 7, g 8, g 9, g 10, g 11, g 12, g 13, g 14, g 15, g 16, g 17] rfl rfl (fun _ _ _ _ h => h) (fun _ _ _ => trivial) (fun H locs hP hD hS => ?_)
        have hP : va_P D vwCl (wK g cA u1.2 s u12.2 d q k) H := hP
        have hD : va_D A (wK g cA u1.2 s u12.2 d q k) := hD
        obtain rfl := Option.some.inj hE
        exact rt_i hx hb hr hP hS rfl hlocks dX4_useNamed_86
      have hE := if_f c11 hE
      refine lv_lookup (tgt := 87) (off := 45) hx hb dX4_useNamed_42 (by decide +kernel) (by show Op.lookupswitch.offset _ _ _ = _; rw [lv_osw c8 (show (6 : Int32).toInt = 6 by decide +kernel), lv_osw c11 (show (7 : Int32).toInt = 7 by decide +kernel)]; rfl) (by decide) ?_
      refine lv_aload_n hx hb dX4_useNamed_87 rfl (lv_at hl 2 rfl) ?_
      refine lv_iload_n hx hb dX4_useNamed_88 rfl (lv_at hl 0 rfl) ?_
      obtain ⟨u14, h15, hE⟩ := bd_some hE
      refine cw_i (As := [.int u4]) (rest := []) (r := u14.1) (wc := (wK g cA u1.2 s y d q k)) ⟨hx, hb, hml, hown, hts⟩ (c_X4_postpone l D cA ad adK adV tA tS g H.size u4 u1.2 s y d q k u14 h15) (cwV 1 hts hX4_useNamed_X4_postpone_137 rfl rfl rfl (by decide +kernel) ⟨Nat.le_of_ble_eq_true rfl, Nat.le_of_ble_eq_true rfl⟩) rfl hl.1 rfl (Nat.le_of_ble_eq_true rfl) dX4_useNamed_89 ⟨Nat.zero_le _, Nat.zero_le _⟩ hK hP hD hS hA (va_recv hK hP (ci := 3) (q0 := 0) rfl rfl) [g 0, g 1, g 2, g 3, g 4, g 5, g 6, g 7, g 8, g 9, g 10, g 11, g 12, g 13, g 14, g 15, g 16, g 17] rfl rfl (fun a U g mk h => SX.blind a U g mk h) (fun U hU hW => SX.call hX hS (fun q h => h.elim (fun ⟨k, e, h⟩ => hD.2 k (q, e) h) (fun h => hA q (Nat.le_trans hS.1 h))) U hU hW) (fun H locs hP hD hS => ?_)
      have hP : va_P D vwCl (wK g cA u1.2 s u14.2 d q k) H := hP
      have hD : va_D A (wK g cA u1.2 s u14.2 d q k) := hD
      obtain rfl := Option.some.inj hE
      exact rt_i hx hb hr hP hS rfl hlocks dX4_useNamed_92
    · have hE := if_t c6 hE
      refine lv_bipush (v := (-13)) hx hb dX4_useNamed_31 (by decide +kernel) ?_
      obtain rfl := Option.some.inj hE
      exact rt_i hx hb hr hP hS rfl hlocks dX4_useNamed_33
  · have hE := if_f c3 hE
    refine lv_iload_n hx hb dX4_useNamed_12 rfl (lv_at hl 0 rfl) ?_
    obtain rfl := Option.some.inj hE
    exact rt_i hx hb hr hP hS rfl hlocks dX4_useNamed_13
set_option maxRecDepth 20000 in
theorem hX4_endColon_X5_append_97 : GoodIn wsX4_endColon (wsV RX4 97 RX5 yX5_append wsX5_append) := goodIn_r _ [5, 6, 7, 8, 9, 10, 11, 12, 13, 14, 8, 15, 32, 33] rfl (by decide +kernel)
set_option maxRecDepth 20000 in
theorem hX4_endColon_X2_finishLatest_149 : GoodIn wsX4_endColon (wsV RX4 149 RX2 yX2_finishLatest wsX2_finishLatest) := goodIn_r _ [16, 17, 18, 19, 20, 21, 22, 34, 35, 36, 37, 38, 39, 40, 41] rfl (by decide +kernel)
set_option maxHeartbeats 4000000 in
set_option maxRecDepth 100000 in
theorem c_X4_endColon (l : Launch) (D : va_G) (cA : Nat → ClassId) (ad adK adV : Nat → Nat) (tA tS : Nat) (g : Nat → Nat) (sz : Nat) (t : tT) (s : tR) (y : tY) (d : tD) (q : tP) (k : tK) (u : Int32 × tY × tD × tK) (hE : f_X4_endColon y d q k = some u) : Met l yX4_endColon wsX4_endColon ({ frames := 2, cells := 0, slots := 0, locals := 42 }) (va_Pc [.ref (g 0)] (PRE D cA (wK g cA t s y d q k) sz (fun U => SX ad adK adV tA tS (va_A (wK g cA t s y d q k) sz) U U.heap))) (cQi D (wK g cA t s u.2.1 u.2.2.1 q u.2.2.2) (va_A (wK g cA t s y d q k) sz) u.1) 0 0 (va_A (wK g cA t s y d q k) sz) := by
  refine Met.ofW (cc := cX4_endColon) (maxL := 2) (ret := (some .int)) (by decide) rfl ?_
  intro PP EE S0 MM args below meth CC S1 B hml hv
  obtain ⟨rfl, hsz, hP, hK, hD0, hX⟩ := hv
  have hx := B.exec
  have hb := B.bytes
  have hr := B.returns
  have hts := atoms_spec (ws := wsX4_endColon) B.pre
  have hown : S0.vm.findClass RX4 = some MM.cls := findClass_of_methodNamed B.named
  have hlocks := B.notSynchronized
  subst hsz
  have hD := hD0.self (sz := S0.heap.size)
  have hX : SX ad adK adV tA tS (va_A (wK g cA t s y d q k) S0.heap.size) S0 S0.heap := hX
  generalize hAe : va_A (wK g cA t s y d q k) S0.heap.size = A at hD hX ⊢
  have hA : ∀ q : Nat, S0.heap.size ≤ q → A q := fun q h => by rw [← hAe]; exact Or.inr h
  have hS : va_S A S0.heap S0.heap [] := va_S.rf
  have k0 := hts (.fieldLink RX4 12 "WordForge$Maker" "open" "LWordForge$OpenThings;") (List.mem_of_getElem? (i := 1) rfl)
  have inX4 : ∀ w ∈ wsX40, w ∈ wsX4_endColon := fun _ h => List.mem_cons_of_mem _ (List.mem_append_left _ (List.mem_append_left _ (List.mem_append_left _ (List.mem_append_right _ h))))
  have k2 := hX.nest (.fieldLinkNest RX4 38 "WordForge$OpenThings" "size" "I" "WordForge") (List.mem_of_getElem? (i := 24) rfl)
  have inX6 : ∀ w ∈ wsX60, w ∈ wsX4_endColon := fun _ h => List.mem_cons_of_mem _ (List.mem_append_left _ (List.mem_append_left _ (List.mem_append_right _ h)))
  have k4 := hts (.fieldLink RX4 26 "WordForge$Maker" "memory" "LWordForge$Memory;") (List.mem_of_getElem? (i := 2) rfl)
  have k5 := hts (.fieldLink RX4 30 "WordForge$Maker" "dictionary" "LWordForge$Dictionary;") (List.mem_of_getElem? (i := 3) rfl)
  have k6 := hts (.fieldLink RX4 34 "WordForge$Maker" "compiling" "Z") (List.mem_of_getElem? (i := 4) rfl)
  have hl := lv_entry ([.ref (g 0)]) (n := 2) (Nat.le_of_ble_eq_true rfl)
  rw [lg_entry_eq]
  generalize (lg_sl ([.ref (g 0)]) ++ List.replicate (2 - (lg_sl ([.ref (g 0)])).length) Slot.unset).toArray = ls at hl ⊢
  have hl : lv_has ls 2 [(0, .ref (g 0))] := hl
  unfold f_X4_endColon at hE
  suffices main : ∀ (H : Heap) (locs : List Loc) (ls : Array Slot), va_P D vwCl (wK g cA t s y d q k) H → va_D A (wK g cA t s y d q k) → va_S A S0.heap H locs → lv_has ls 2 [(0, .ref (g 0))] → W PP l EE (headSpec wsX4_endColon ({ frames := 2, cells := 0, slots := 0, locals := 42 })).room S0 MM (#[.ref (g 0)] : Array Value) below meth CC H locs 0 0 (MQ below (cQi D (wK g cA t s u.2.1 u.2.2.1 q u.2.2.2) A u.1) (#[.ref (g 0)] : Array Value) S0 0 0 A) (F0 MM 0 ls []) from main _ _ _ hP hD hS hl
  intro H locs ls hP hD hS hl
  refine lv_aload_n hx hb dX4_endColon_0 rfl (lv_at hl 0 rfl) ?_
  refine va_get (D := D) (ci := 3) (v := .ref (g 15)) (C := RX4) (T := TX4) (N := 6) hx hb hts inX4 hown hK hP 0 rfl rfl 4 (by decide) k0 (fun _ h9 => h9) rfl dX4_endColon_1 ?_
  refine va_getN (D := D) (ci := 5) (v := .int q.1) (C := RX6) (T := TX6) (N := 3) hx hb hts inX6 hown hK hP 15 rfl rfl 2 (by decide) (k2 _) (fun _ h9 => h9) rfl dX4_endColon_4 ?_
  refine lv_if_le (tgt := 13) hx hb dX4_endColon_7 (by decide) (fun c1 => ?_) (fun c1 => ?_)
  · have hE := if_t c1 hE
    refine lv_aload_n hx hb dX4_endColon_13 rfl (lv_at hl 0 rfl) ?_
    refine va_get (D := D) (ci := 3) (v := .ref (g 5)) (C := RX4) (T := TX4) (N := 6) hx hb hts inX4 hown hK hP 0 rfl rfl 2 (by decide) k4 (fun _ h9 => h9) rfl dX4_endColon_14 ?_
    refine lv_iconst (v := 0) hx hb dX4_endColon_17 (by decide +kernel) ?_
    obtain ⟨u2, h3, hE⟩ := bd_some hE
    refine cn_i (As := [.int 0]) (rest := []) (r := u2.1) (w0 := (wK g cA t s y d q k)) (N := 18) ⟨hx, hb, hml, hown, hts⟩ (c_X5_append l D cA (g 5) (g 6) H.size 0 y u2 h3) (cwV 1 hts hX4_endColon_X5_append_97 rfl rfl rfl (by decide +kernel) ⟨Nat.le_of_ble_eq_true rfl, Nat.le_of_ble_eq_true rfl⟩) rfl hl.1 rfl (Nat.le_of_ble_eq_true rfl) dX4_endColon_18 ⟨Nat.zero_le _, Nat.zero_le _⟩ hK hP hD hS hA (va_recv hK hP (ci := 4) (q0 := 5) rfl rfl) [5, 6] [0, 1, 2, 3, 4, 7, 8, 9, 10, 11, 12, 13, 14, 15, 16, 17] (wK g cA t s u2.2 d q k) rfl (by decide +kernel) rfl (wr := List.filterMap (fun i => (wK g cA t s y d q k)[i]?) [0, 1, 2, 3, 4, 7, 8, 9, 10, 11, 12, 13, 14, 15, 16, 17]) rfl rfl (by decide +kernel) rfl (by decide +kernel) [g 0, g 1, g 2, g 3, g 4, g 5, g 6, g 7, g 8, g 9, g 10, g 11, g 12, g 13, g 14, g 15, g 16, g 17] rfl rfl (fun _ _ _ _ h => h) (fun _ _ _ => trivial) (fun H locs hP hD hS => ?_)
    have hP : va_P D vwCl (wK g cA t s u2.2 d q k) H := hP
    have hD : va_D A (wK g cA t s u2.2 d q k) := hD
    refine lv_istore_n (lv' := [(1, .int u2.1), (0, .ref (g 0))]) hx hb dX4_endColon_21 rfl hl (by decide) rfl (fun ls hl => ?_)
    refine lv_iload_n hx hb dX4_endColon_22 rfl (lv_at hl 0 rfl) ?_
    refine lv_if_ne (tgt := 38) hx hb dX4_endColon_23 (by decide) (fun c4 => ?_) (fun c4 => ?_)
    · have hE := if_f c4 hE
      refine lv_iload_n hx hb dX4_endColon_38 rfl (lv_at hl 0 rfl) ?_
      obtain rfl := Option.some.inj hE
      exact rt_i hx hb hr hP hS rfl hlocks dX4_endColon_39
    · have hE := if_t c4 hE
      refine lv_aload_n hx hb dX4_endColon_26 rfl (lv_at hl 1 rfl) ?_
      refine va_get (D := D) (ci := 3) (v := .ref (g 7)) (C := RX4) (T := TX4) (N := 6) hx hb hts inX4 hown hK hP 0 rfl rfl 3 (by decide) k5 (fun _ h9 => h9) rfl dX4_endColon_27 ?_
      obtain ⟨u5, h6, hE⟩ := bd_some hE
      refine cn_v (As := []) (rest := []) (w0 := (wK g cA t s u2.2 d q k)) (N := 18) ⟨hx, hb, hml, hown, hts⟩ (c_X2_finishLatest l D cA ad adK adV tA tS (g 7) (g 8) (g 9) (g 10) (g 11) (g 12) (g 13) (g 14) H.size d u5 h6) (cwV 0 hts hX4_endColon_X2_finishLatest_149 rfl rfl rfl (by decide +kernel) ⟨Nat.le_of_ble_eq_true rfl, Nat.le_of_ble_eq_true rfl⟩) rfl hl.1 rfl (Nat.le_of_ble_eq_true rfl) dX4_endColon_30 ⟨Nat.zero_le _, Nat.zero_le _⟩ hK hP hD hS hA (va_recv hK hP (ci := 1) (q0 := 7) rfl rfl) [7, 8, 9, 10, 11, 12, 13, 14] [0, 1, 2, 3, 4, 5, 6, 15, 16, 17] (wK g cA t s u2.2 u5 q k) rfl (by decide +kernel) rfl (wr := List.filterMap (fun i => (wK g cA t s u2.2 d q k)[i]?) [0, 1, 2, 3, 4, 5, 6, 15, 16, 17]) rfl rfl (by decide +kernel) rfl (by decide +kernel) [g 0, g 1, g 2, g 3, g 4, g 5, g 6, g 7, g 8, g 9, g 10, g 11, g 12, g 13, g 14, g 15, g 16, g 17] rfl rfl (fun a U g mk h => SX.blind a U g mk h) (fun U hU hW => SX.call hX hS (va_free (wc := (wD (g 7) (g 8) (g 9) (g 10) (g 11) (g 12) (g 13) (g 14) cA d)) hD hS hA [7, 8, 9, 10, 11, 12, 13, 14] rfl) U hU hW) (fun H locs hP hD hS => ?_)
      have hP : va_P D vwCl (wK g cA t s u2.2 u5 q k) H := hP
      have hD : va_D A (wK g cA t s u2.2 u5 q k) := hD
      refine lv_aload_n hx hb dX4_endColon_33 rfl (lv_at hl 1 rfl) ?_
      refine lv_iconst (v := 0) hx hb dX4_endColon_34 (by decide +kernel) ?_
      refine va_put (D := D) (ci := 3) (v := .int 0) (ty := .boolean) (C := RX4) (T := TX4) (N := 6) hx hb hts inX4 tyX4 tyX4_ok nmX4 hown hK hP hD hS 0 rfl rfl 5 (by decide) k6 (fun _ h9 => h9) rfl (by decide +kernel) (by decide +kernel) (by decide +kernel) (Nat.le_of_ble_eq_true rfl) dX4_endColon_35 (fun H locs hP hD hS => ?_)
      have hP : va_P D vwCl (wK g cA t s u2.2 u5 q 0) H := hP
      have hD : va_D A (wK g cA t s u2.2 u5 q 0) := hD
      refine lv_iload_n hx hb dX4_endColon_38 rfl (lv_at hl 0 rfl) ?_
      obtain rfl := Option.some.inj hE
      exact rt_i hx hb hr hP hS rfl hlocks dX4_endColon_39
  · have hE := if_f c1 hE
    refine lv_bipush (v := (-22)) hx hb dX4_endColon_10 (by decide +kernel) ?_
    obtain rfl := Option.some.inj hE
    exact rt_i hx hb hr hP hS rfl hlocks dX4_endColon_12
set_option maxRecDepth 20000 in
theorem hX4_compileInto_X4_endColon_143 : GoodIn wsX4_compileInto (wsV RX4 143 RX4 yX4_endColon wsX4_endColon) := goodIn_r _ [12, 13, 14, 15, 16, 17, 2, 4, 18, 19, 20, 21, 22, 23, 24, 25, 26, 27, 28, 29, 30, 31, 32, 33, 34, 35, 36, 60, 61, 62, 63, 64, 65, 66, 67, 68, 69, 70, 71, 72, 73, 74, 75, 76, 77, 78] rfl (by decide +kernel)
set_option maxRecDepth 20000 in
theorem hX4_compileInto_X5_append_97 : GoodIn wsX4_compileInto (wsV RX4 97 RX5 yX5_append wsX5_append) := goodIn_r _ [19, 20, 21, 22, 23, 24, 25, 26, 27, 28, 22, 29, 69, 70] rfl (by decide +kernel)
set_option maxRecDepth 20000 in
theorem hX4_compileInto_X8_fromTop_104 : GoodIn wsX4_compileInto (wsV RX4 104 RX8 yX8_fromTop wsX8_fromTop) := goodIn_r _ [37, 38, 39, 40, 41, 42, 43, 79, 80, 81] rfl (by decide +kernel)
set_option maxRecDepth 20000 in
theorem hX4_compileInto_X5_appendBoth_133 : GoodIn wsX4_compileInto (wsV RX4 133 RX5 yX5_appendBoth wsX5_appendBoth) := goodIn_r _ [44, 45, 46, 22, 47, 25, 24, 69, 70] rfl (by decide +kernel)
set_option maxRecDepth 20000 in
theorem hX4_compileInto_X8_dropOneUnless_116 : GoodIn wsX4_compileInto (wsV RX4 116 RX8 yX8_dropOneUnless wsX8_dropOneUnless) := goodIn_r _ [48, 49, 50, 40, 51, 52, 53, 54, 40, 55, 42, 79, 80, 81] rfl (by decide +kernel)
set_option maxRecDepth 20000 in
theorem hX4_compileInto_X2_latestNumber_146 : GoodIn wsX4_compileInto (wsV RX4 146 RX2 yX2_latestNumber wsX2_latestNumber) := goodIn_r _ [56, 57, 58, 33, 59, 35, 71, 72, 73, 74, 75, 76, 77, 78] rfl (by decide +kernel)
set_option maxHeartbeats 4000000 in
set_option maxRecDepth 100000 in
theorem c_X4_compileInto (l : Launch) (D : va_G) (cA : Nat → ClassId) (ad adK adV : Nat → Nat) (tA tS : Nat) (g : Nat → Nat) (sz : Nat) (w1 : Nat) (t : tT) (s : tR) (y : tY) (d : tD) (q : tP) (k : tK) (u : Int32 × tR × tY × tD × tK) (hE : f_X4_compileInto w1 s y d q k = some u) : Met l yX4_compileInto wsX4_compileInto ({ frames := 3, cells := 0, slots := 0, locals := 63 }) (va_Pc [.ref (g 0), .ref (ad w1)] (PRE D cA (wK g cA t s y d q k) sz (fun U => SX ad adK adV tA tS (va_A (wK g cA t s y d q k) sz) U U.heap))) (cQi D (wK g cA t u.2.1 u.2.2.1 u.2.2.2.1 q u.2.2.2.2) (va_A (wK g cA t s y d q k) sz) u.1) 0 0 (va_A (wK g cA t s y d q k) sz) := by
  refine Met.ofW (cc := cX4_compileInto) (maxL := 2) (ret := (some .int)) (by decide) rfl ?_
  intro PP EE S0 MM args below meth CC S1 B hml hv
  obtain ⟨rfl, hsz, hP, hK, hD0, hX⟩ := hv
  have hx := B.exec
  have hb := B.bytes
  have hr := B.returns
  have hts := atoms_spec (ws := wsX4_compileInto) B.pre
  have hown : S0.vm.findClass RX4 = some MM.cls := findClass_of_methodNamed B.named
  have hlocks := B.notSynchronized
  subst hsz
  have hD := hD0.self (sz := S0.heap.size)
  have hX : SX ad adK adV tA tS (va_A (wK g cA t s y d q k) S0.heap.size) S0 S0.heap := hX
  generalize hAe : va_A (wK g cA t s y d q k) S0.heap.size = A at hD hX ⊢
  have hA : ∀ q : Nat, S0.heap.size ≤ q → A q := fun q h => by rw [← hAe]; exact Or.inr h
  have hS : va_S A S0.heap S0.heap [] := va_S.rf
  have k0 := hts (.fieldLink RX4 80 "WordForge$1" "$SwitchMap$WordForge$Word" "[I") (List.mem_of_getElem? (i := 1) rfl)
  have k1 := hts (.fieldLink RX4 26 "WordForge$Maker" "memory" "LWordForge$Memory;") (List.mem_of_getElem? (i := 2) rfl)
  have inX4 : ∀ w ∈ wsX40, w ∈ wsX4_compileInto := fun _ h => List.mem_cons_of_mem _ (List.mem_append_left _ (List.mem_append_left _ (List.mem_append_left _ (List.mem_append_left _ (List.mem_append_right _ h)))))
  have k3 := hts (.fieldLink RX4 22 "WordForge$Maker" "stack" "LWordForge$Row;") (List.mem_of_getElem? (i := 3) rfl)
  have k4 := hts (.fieldLink RX4 30 "WordForge$Maker" "dictionary" "LWordForge$Dictionary;") (List.mem_of_getElem? (i := 4) rfl)
  have hl := lv_entry ([.ref (g 0), .ref (ad w1)]) (n := 2) (Nat.le_of_ble_eq_true rfl)
  rw [lg_entry_eq]
  generalize (lg_sl ([.ref (g 0), .ref (ad w1)]) ++ List.replicate (2 - (lg_sl ([.ref (g 0), .ref (ad w1)])).length) Slot.unset).toArray = ls at hl ⊢
  have hl : lv_has ls 2 [(0, .ref (g 0)), (1, .ref (ad w1))] := hl
  unfold f_X4_compileInto at hE
  have ⟨hw1, hE⟩ := ck_some hE
  suffices main : ∀ (H : Heap) (locs : List Loc) (ls : Array Slot), va_P D vwCl (wK g cA t s y d q k) H → va_D A (wK g cA t s y d q k) → va_S A S0.heap H locs → lv_has ls 2 [(0, .ref (g 0)), (1, .ref (ad w1))] → W PP l EE (headSpec wsX4_compileInto ({ frames := 3, cells := 0, slots := 0, locals := 63 })).room S0 MM (#[.ref (g 0), .ref (ad w1)] : Array Value) below meth CC H locs 0 0 (MQ below (cQi D (wK g cA t u.2.1 u.2.2.1 u.2.2.2.1 q u.2.2.2.2) A u.1) (#[.ref (g 0), .ref (ad w1)] : Array Value) S0 0 0 A) (F0 MM 0 ls []) from main _ _ _ hP hD hS hl
  intro H locs ls hP hD hS hl
  refine va_gets hx hb hX.2.2.2.1 hS hown k0 (fun _ h9 => h9) dX4_compileInto_0 ?_
  refine lv_aload_n hx hb dX4_compileInto_3 rfl (lv_at hl 1 rfl) ?_
  refine cu_i (As := []) (rest := [.ref tS]) (r := wV_ordinal.getD w1 0) ⟨hx, hb, hml, hown, hts⟩ (c_ordinal l w1 (ad w1) H.size) (va_cwU 0 hts gX4_compileInto_Jx29ce0_ordinal_8abf5_u85X10 rfl rfl rfl rfl (by decide +kernel) ⟨Nat.le_of_ble_eq_true rfl, Nat.le_of_ble_eq_true rfl⟩) rfl hl.1 rfl (Nat.le_of_ble_eq_true rfl) dX4_compileInto_4 ⟨Nat.zero_le _, Nat.zero_le _⟩ hP hD hS hA (recvO (hX.2.2.2.2.2.2.1 w1 hw1).2.1 hS) PO_blind (PO_call ((hX.2.2.2.2.2.2.1 w1 hw1).2.2.1 ("java/lang/Enum", "ordinal", "I", wV_ordinal) (List.mem_of_getElem? (i := 0) rfl)) hS hA) (fun H locs hP hD hS => ?_)
  have ⟨c1, hE⟩ := ck_some hE
  refine va_ti hx hb hX.2.2.2.2.1 hS c1 rfl dX4_compileInto_7 ?_
  by_cases c2 : (swm ((wV_ordinal.getD w1 0).toNatClampNeg)) = 8
  · have hE := if_t c2 hE
    refine lv_tableIn (tgt := 36) (off := 28) hx hb dX4_compileInto_8 (by rw [c2]; decide +kernel) (by rw [c2]; decide +kernel) (by rw [c2]; decide +kernel) (by decide) ?_
    refine lv_aload_n hx hb dX4_compileInto_36 rfl (lv_at hl 0 rfl) ?_
    obtain ⟨u3, h4, hE⟩ := bd_some hE
    refine cw_i (As := []) (rest := []) (r := u3.1) (wc := (wK g cA t s y d q k)) ⟨hx, hb, hml, hown, hts⟩ (c_X4_endColon l D cA ad adK adV tA tS g H.size t s y d q k u3 h4) (cwV 0 hts hX4_compileInto_X4_endColon_143 rfl rfl rfl (by decide +kernel) ⟨Nat.le_of_ble_eq_true rfl, Nat.le_of_ble_eq_true rfl⟩) rfl hl.1 rfl (Nat.le_of_ble_eq_true rfl) dX4_compileInto_37 ⟨Nat.zero_le _, Nat.zero_le _⟩ hK hP hD hS hA (va_recv hK hP (ci := 3) (q0 := 0) rfl rfl) [g 0, g 1, g 2, g 3, g 4, g 5, g 6, g 7, g 8, g 9, g 10, g 11, g 12, g 13, g 14, g 15, g 16, g 17] rfl rfl (fun a U g mk h => SX.blind a U g mk h) (fun U hU hW => SX.call hX hS (fun q h => h.elim (fun ⟨k, e, h⟩ => hD.2 k (q, e) h) (fun h => hA q (Nat.le_trans hS.1 h))) U hU hW) (fun H locs hP hD hS => ?_)
    have hP : va_P D vwCl (wK g cA t s u3.2.1 u3.2.2.1 q u3.2.2.2) H := hP
    have hD : va_D A (wK g cA t s u3.2.1 u3.2.2.1 q u3.2.2.2) := hD
    obtain rfl := Option.some.inj hE
    exact rt_i hx hb hr hP hS rfl hlocks dX4_compileInto_40
  have hE := if_f c2 hE
  by_cases c5 : (swm ((wV_ordinal.getD w1 0).toNatClampNeg)) = 9
  · have hE := if_t c5 hE
    refine lv_tableIn (tgt := 41) (off := 33) hx hb dX4_compileInto_8 (by rw [c5]; decide +kernel) (by rw [c5]; decide +kernel) (by rw [c5]; decide +kernel) (by decide) ?_
    refine lv_aload_n hx hb dX4_compileInto_41 rfl (lv_at hl 0 rfl) ?_
    refine va_get (D := D) (ci := 3) (v := .ref (g 5)) (C := RX4) (T := TX4) (N := 6) hx hb hts inX4 hown hK hP 0 rfl rfl 2 (by decide) k1 (fun _ h9 => h9) rfl dX4_compileInto_42 ?_
    refine lv_bipush (v := 7) hx hb dX4_compileInto_45 (by decide +kernel) ?_
    obtain ⟨u6, h7, hE⟩ := bd_some hE
    refine cn_i (As := [.int 7]) (rest := []) (r := u6.1) (w0 := (wK g cA t s y d q k)) (N := 18) ⟨hx, hb, hml, hown, hts⟩ (c_X5_append l D cA (g 5) (g 6) H.size 7 y u6 h7) (cwV 1 hts hX4_compileInto_X5_append_97 rfl rfl rfl (by decide +kernel) ⟨Nat.le_of_ble_eq_true rfl, Nat.le_of_ble_eq_true rfl⟩) rfl hl.1 rfl (Nat.le_of_ble_eq_true rfl) dX4_compileInto_47 ⟨Nat.zero_le _, Nat.zero_le _⟩ hK hP hD hS hA (va_recv hK hP (ci := 4) (q0 := 5) rfl rfl) [5, 6] [0, 1, 2, 3, 4, 7, 8, 9, 10, 11, 12, 13, 14, 15, 16, 17] (wK g cA t s u6.2 d q k) rfl (by decide +kernel) rfl (wr := List.filterMap (fun i => (wK g cA t s y d q k)[i]?) [0, 1, 2, 3, 4, 7, 8, 9, 10, 11, 12, 13, 14, 15, 16, 17]) rfl rfl (by decide +kernel) rfl (by decide +kernel) [g 0, g 1, g 2, g 3, g 4, g 5, g 6, g 7, g 8, g 9, g 10, g 11, g 12, g 13, g 14, g 15, g 16, g 17] rfl rfl (fun _ _ _ _ h => h) (fun _ _ _ => trivial) (fun H locs hP hD hS => ?_)
    have hP : va_P D vwCl (wK g cA t s u6.2 d q k) H := hP
    have hD : va_D A (wK g cA t s u6.2 d q k) := hD
    obtain rfl := Option.some.inj hE
    exact rt_i hx hb hr hP hS rfl hlocks dX4_compileInto_50
  have hE := if_f c5 hE
  by_cases c8 : (swm ((wV_ordinal.getD w1 0).toNatClampNeg)) = 10
  · have hE := if_t c8 hE
    refine lv_tableIn (tgt := 51) (off := 43) hx hb dX4_compileInto_8 (by rw [c8]; decide +kernel) (by rw [c8]; decide +kernel) (by rw [c8]; decide +kernel) (by decide) ?_
    refine lv_aload_n hx hb dX4_compileInto_51 rfl (lv_at hl 0 rfl) ?_
    refine va_get (D := D) (ci := 3) (v := .ref (g 3)) (C := RX4) (T := TX4) (N := 6) hx hb hts inX4 hown hK hP 0 rfl rfl 1 (by decide) k3 (fun _ h9 => h9) rfl dX4_compileInto_52 ?_
    refine lv_aload_n hx hb dX4_compileInto_55 rfl (lv_at hl 0 rfl) ?_
    refine va_get (D := D) (ci := 3) (v := .ref (g 5)) (C := RX4) (T := TX4) (N := 6) hx hb hts inX4 hown hK hP 0 rfl rfl 2 (by decide) k1 (fun _ h9 => h9) rfl dX4_compileInto_56 ?_
    refine lv_iconst (v := 1) hx hb dX4_compileInto_59 (by decide +kernel) ?_
    refine lv_aload_n hx hb dX4_compileInto_60 rfl (lv_at hl 0 rfl) ?_
    refine va_get (D := D) (ci := 3) (v := .ref (g 3)) (C := RX4) (T := TX4) (N := 6) hx hb hts inX4 hown hK hP 0 rfl rfl 1 (by decide) k3 (fun _ h9 => h9) rfl dX4_compileInto_61 ?_
    refine lv_iconst (v := 0) hx hb dX4_compileInto_64 (by decide +kernel) ?_
    obtain ⟨u9, h10, hE⟩ := bd_some hE
    refine cn_i (As := [.int 0]) (rest := [.int 1, .ref (g 5), .ref (g 3)]) (r := u9) (w0 := (wK g cA t s y d q k)) (N := 18) ⟨hx, hb, hml, hown, hts⟩ (c_X8_fromTop l D cA (g 3) (g 4) H.size 0 (-3) s u9 h10) (cwV 1 hts hX4_compileInto_X8_fromTop_104 rfl rfl rfl (by decide +kernel) ⟨Nat.le_of_ble_eq_true rfl, Nat.le_of_ble_eq_true rfl⟩) rfl hl.1 rfl (Nat.le_of_ble_eq_true rfl) dX4_compileInto_65 ⟨Nat.zero_le _, Nat.zero_le _⟩ hK hP hD hS hA (va_recv hK hP (ci := 7) (q0 := 3) rfl rfl) [3, 4] [0, 1, 2, 5, 6, 7, 8, 9, 10, 11, 12, 13, 14, 15, 16, 17] (wK g cA t s y d q k) rfl (by decide +kernel) rfl (wr := List.filterMap (fun i => (wK g cA t s y d q k)[i]?) [0, 1, 2, 5, 6, 7, 8, 9, 10, 11, 12, 13, 14, 15, 16, 17]) rfl rfl (by decide +kernel) rfl (by decide +kernel) [g 0, g 1, g 2, g 3, g 4, g 5, g 6, g 7, g 8, g 9, g 10, g 11, g 12, g 13, g 14, g 15, g 16, g 17] rfl rfl (fun _ _ _ _ h => h) (fun _ _ _ => trivial) (fun H locs hP hD hS => ?_)
    have hP : va_P D vwCl (wK g cA t s y d q k) H := hP
    have hD : va_D A (wK g cA t s y d q k) := hD
    obtain ⟨u11, h12, hE⟩ := bd_some hE
    refine cn_i (As := [.int 1, .int u9]) (rest := [.ref (g 3)]) (r := u11.1) (w0 := (wK g cA t s y d q k)) (N := 18) ⟨hx, hb, hml, hown, hts⟩ (c_X5_appendBoth l D cA (g 5) (g 6) H.size 1 u9 y u11 h12) (cwV 2 hts hX4_compileInto_X5_appendBoth_133 rfl rfl rfl (by decide +kernel) ⟨Nat.le_of_ble_eq_true rfl, Nat.le_of_ble_eq_true rfl⟩) rfl hl.1 rfl (Nat.le_of_ble_eq_true rfl) dX4_compileInto_68 ⟨Nat.zero_le _, Nat.zero_le _⟩ hK hP hD hS hA (va_recv hK hP (ci := 4) (q0 := 5) rfl rfl) [5, 6] [0, 1, 2, 3, 4, 7, 8, 9, 10, 11, 12, 13, 14, 15, 16, 17] (wK g cA t s u11.2 d q k) rfl (by decide +kernel) rfl (wr := List.filterMap (fun i => (wK g cA t s y d q k)[i]?) [0, 1, 2, 3, 4, 7, 8, 9, 10, 11, 12, 13, 14, 15, 16, 17]) rfl rfl (by decide +kernel) rfl (by decide +kernel) [g 0, g 1, g 2, g 3, g 4, g 5, g 6, g 7, g 8, g 9, g 10, g 11, g 12, g 13, g 14, g 15, g 16, g 17] rfl rfl (fun _ _ _ _ h => h) (fun _ _ _ => trivial) (fun H locs hP hD hS => ?_)
    have hP : va_P D vwCl (wK g cA t s u11.2 d q k) H := hP
    have hD : va_D A (wK g cA t s u11.2 d q k) := hD
    obtain ⟨u13, h14, hE⟩ := bd_some hE
    refine cn_i (As := [.int u11.1]) (rest := []) (r := u13.1) (w0 := (wK g cA t s u11.2 d q k)) (N := 18) ⟨hx, hb, hml, hown, hts⟩ (c_X8_dropOneUnless l D cA (g 3) (g 4) H.size u11.1 (-3) s u13 h14) (cwV 1 hts hX4_compileInto_X8_dropOneUnless_116 rfl rfl rfl (by decide +kernel) ⟨Nat.le_of_ble_eq_true rfl, Nat.le_of_ble_eq_true rfl⟩) rfl hl.1 rfl (Nat.le_of_ble_eq_true rfl) dX4_compileInto_71 ⟨Nat.zero_le _, Nat.zero_le _⟩ hK hP hD hS hA (va_recv hK hP (ci := 7) (q0 := 3) rfl rfl) [3, 4] [0, 1, 2, 5, 6, 7, 8, 9, 10, 11, 12, 13, 14, 15, 16, 17] (wK g cA t u13.2 u11.2 d q k) rfl (by decide +kernel) rfl (wr := List.filterMap (fun i => (wK g cA t s u11.2 d q k)[i]?) [0, 1, 2, 5, 6, 7, 8, 9, 10, 11, 12, 13, 14, 15, 16, 17]) rfl rfl (by decide +kernel) rfl (by decide +kernel) [g 0, g 1, g 2, g 3, g 4, g 5, g 6, g 7, g 8, g 9, g 10, g 11, g 12, g 13, g 14, g 15, g 16, g 17] rfl rfl (fun _ _ _ _ h => h) (fun _ _ _ => trivial) (fun H locs hP hD hS => ?_)
    have hP : va_P D vwCl (wK g cA t u13.2 u11.2 d q k) H := hP
    have hD : va_D A (wK g cA t u13.2 u11.2 d q k) := hD
    obtain rfl := Option.some.inj hE
    exact rt_i hx hb hr hP hS rfl hlocks dX4_compileInto_74
  have hE := if_f c8 hE
  have tc2 := lv_neT c2 (show (8 : Int32).toInt = 8 by decide +kernel)
  have tc5 := lv_neT c5 (show (9 : Int32).toInt = 9 by decide +kernel)
  have tc8 := lv_neT c8 (show (10 : Int32).toInt = 10 by decide +kernel)
  refine lv_tableOut (tgt := 75) hx hb dX4_compileInto_8 (by omega) (by decide) ?_
  refine lv_aload_n hx hb dX4_compileInto_75 rfl (lv_at hl 0 rfl) ?_
  refine va_get (D := D) (ci := 3) (v := .ref (g 5)) (C := RX4) (T := TX4) (N := 6) hx hb hts inX4 hown hK hP 0 rfl rfl 2 (by decide) k1 (fun _ h9 => h9) rfl dX4_compileInto_76 ?_
  refine lv_aload_n hx hb dX4_compileInto_79 rfl (lv_at hl 0 rfl) ?_
  refine va_get (D := D) (ci := 3) (v := .ref (g 7)) (C := RX4) (T := TX4) (N := 6) hx hb hts inX4 hown hK hP 0 rfl rfl 3 (by decide) k4 (fun _ h9 => h9) rfl dX4_compileInto_80 ?_
  obtain ⟨u15, h16, hE⟩ := bd_some hE
  refine cn_i (As := []) (rest := [.ref (g 5)]) (r := u15) (w0 := (wK g cA t s y d q k)) (N := 18) ⟨hx, hb, hml, hown, hts⟩ (c_X2_latestNumber l D cA ad adK adV tA tS (g 7) (g 8) (g 9) (g 10) (g 11) (g 12) (g 13) (g 14) H.size d u15 h16) (cwV 0 hts hX4_compileInto_X2_latestNumber_146 rfl rfl rfl (by decide +kernel) ⟨Nat.le_of_ble_eq_true rfl, Nat.le_of_ble_eq_true rfl⟩) rfl hl.1 rfl (Nat.le_of_ble_eq_true rfl) dX4_compileInto_83 ⟨Nat.zero_le _, Nat.zero_le _⟩ hK hP hD hS hA (va_recv hK hP (ci := 1) (q0 := 7) rfl rfl) [7, 8, 9, 10, 11, 12, 13, 14] [0, 1, 2, 3, 4, 5, 6, 15, 16, 17] (wK g cA t s y d q k) rfl (by decide +kernel) rfl (wr := List.filterMap (fun i => (wK g cA t s y d q k)[i]?) [0, 1, 2, 3, 4, 5, 6, 15, 16, 17]) rfl rfl (by decide +kernel) rfl (by decide +kernel) [g 0, g 1, g 2, g 3, g 4, g 5, g 6, g 7, g 8, g 9, g 10, g 11, g 12, g 13, g 14, g 15, g 16, g 17] rfl rfl (fun a U g mk h => SX.blind a U g mk h) (fun U hU hW => SX.call hX hS (va_free (wc := (wD (g 7) (g 8) (g 9) (g 10) (g 11) (g 12) (g 13) (g 14) cA d)) hD hS hA [7, 8, 9, 10, 11, 12, 13, 14] rfl) U hU hW) (fun H locs hP hD hS => ?_)
  have hP : va_P D vwCl (wK g cA t s y d q k) H := hP
  have hD : va_D A (wK g cA t s y d q k) := hD
  obtain ⟨u17, h18, hE⟩ := bd_some hE
  refine cn_i (As := [.int u15]) (rest := []) (r := u17.1) (w0 := (wK g cA t s y d q k)) (N := 18) ⟨hx, hb, hml, hown, hts⟩ (c_X5_append l D cA (g 5) (g 6) H.size u15 y u17 h18) (cwV 1 hts hX4_compileInto_X5_append_97 rfl rfl rfl (by decide +kernel) ⟨Nat.le_of_ble_eq_true rfl, Nat.le_of_ble_eq_true rfl⟩) rfl hl.1 rfl (Nat.le_of_ble_eq_true rfl) dX4_compileInto_86 ⟨Nat.zero_le _, Nat.zero_le _⟩ hK hP hD hS hA (va_recv hK hP (ci := 4) (q0 := 5) rfl rfl) [5, 6] [0, 1, 2, 3, 4, 7, 8, 9, 10, 11, 12, 13, 14, 15, 16, 17] (wK g cA t s u17.2 d q k) rfl (by decide +kernel) rfl (wr := List.filterMap (fun i => (wK g cA t s y d q k)[i]?) [0, 1, 2, 3, 4, 7, 8, 9, 10, 11, 12, 13, 14, 15, 16, 17]) rfl rfl (by decide +kernel) rfl (by decide +kernel) [g 0, g 1, g 2, g 3, g 4, g 5, g 6, g 7, g 8, g 9, g 10, g 11, g 12, g 13, g 14, g 15, g 16, g 17] rfl rfl (fun _ _ _ _ h => h) (fun _ _ _ => trivial) (fun H locs hP hD hS => ?_)
  have hP : va_P D vwCl (wK g cA t s u17.2 d q k) H := hP
  have hD : va_D A (wK g cA t s u17.2 d q k) := hD
  obtain rfl := Option.some.inj hE
  exact rt_i hx hb hr hP hS rfl hlocks dX4_compileInto_89
set_option maxHeartbeats 4000000 in
set_option maxRecDepth 100000 in
theorem c_X4_openThingFor (l : Launch) (D : va_G) (cA : Nat → ClassId) (ad adK adV : Nat → Nat) (tA tS : Nat) (g : Nat → Nat) (sz : Nat) (w1 : Nat) (t : tT) (s : tR) (y : tY) (d : tD) (q : tP) (k : tK) (u : Int32) (hE : f_X4_openThingFor w1 = some u) : Met l yX4_openThingFor wsX4_openThingFor ({ frames := 1, cells := 0, slots := 0, locals := 20 }) (va_Pc [.ref (g 0), .ref (ad w1)] (PRE D cA (wK g cA t s y d q k) sz (fun U => SX ad adK adV tA tS (va_A (wK g cA t s y d q k) sz) U U.heap))) (cQi D (wK g cA t s y d q k) (va_A (wK g cA t s y d q k) sz) u) 0 0 (va_A (wK g cA t s y d q k) sz) := by
  refine Met.ofW (cc := cX4_openThingFor) (maxL := 2) (ret := (some .int)) (by decide) rfl ?_
  intro PP EE S0 MM args below meth CC S1 B hml hv
  obtain ⟨rfl, hsz, hP, hK, hD0, hX⟩ := hv
  have hx := B.exec
  have hb := B.bytes
  have hr := B.returns
  have hts := atoms_spec (ws := wsX4_openThingFor) B.pre
  have hown : S0.vm.findClass RX4 = some MM.cls := findClass_of_methodNamed B.named
  have hlocks := B.notSynchronized
  subst hsz
  have hD := hD0.self (sz := S0.heap.size)
  have hX : SX ad adK adV tA tS (va_A (wK g cA t s y d q k) S0.heap.size) S0 S0.heap := hX
  generalize hAe : va_A (wK g cA t s y d q k) S0.heap.size = A at hD hX ⊢
  have hA : ∀ q : Nat, S0.heap.size ≤ q → A q := fun q h => by rw [← hAe]; exact Or.inr h
  have hS : va_S A S0.heap S0.heap [] := va_S.rf
  have k0 := hts (.fieldLink RX4 80 "WordForge$1" "$SwitchMap$WordForge$Word" "[I") (List.mem_of_getElem? (i := 1) rfl)
  have hl := lv_entry ([.ref (g 0), .ref (ad w1)]) (n := 2) (Nat.le_of_ble_eq_true rfl)
  rw [lg_entry_eq]
  generalize (lg_sl ([.ref (g 0), .ref (ad w1)]) ++ List.replicate (2 - (lg_sl ([.ref (g 0), .ref (ad w1)])).length) Slot.unset).toArray = ls at hl ⊢
  have hl : lv_has ls 2 [(0, .ref (g 0)), (1, .ref (ad w1))] := hl
  unfold f_X4_openThingFor at hE
  have ⟨hw1, hE⟩ := ck_some hE
  suffices main : ∀ (H : Heap) (locs : List Loc) (ls : Array Slot), va_P D vwCl (wK g cA t s y d q k) H → va_D A (wK g cA t s y d q k) → va_S A S0.heap H locs → lv_has ls 2 [(0, .ref (g 0)), (1, .ref (ad w1))] → W PP l EE (headSpec wsX4_openThingFor ({ frames := 1, cells := 0, slots := 0, locals := 20 })).room S0 MM (#[.ref (g 0), .ref (ad w1)] : Array Value) below meth CC H locs 0 0 (MQ below (cQi D (wK g cA t s y d q k) A u) (#[.ref (g 0), .ref (ad w1)] : Array Value) S0 0 0 A) (F0 MM 0 ls []) from main _ _ _ hP hD hS hl
  intro H locs ls hP hD hS hl
  refine va_gets hx hb hX.2.2.2.1 hS hown k0 (fun _ h9 => h9) dX4_openThingFor_0 ?_
  refine lv_aload_n hx hb dX4_openThingFor_3 rfl (lv_at hl 1 rfl) ?_
  refine cu_i (As := []) (rest := [.ref tS]) (r := wV_ordinal.getD w1 0) ⟨hx, hb, hml, hown, hts⟩ (c_ordinal l w1 (ad w1) H.size) (va_cwU 0 hts gX4_openThingFor_Jx29ce0_ordinal_8abf5_u85X10 rfl rfl rfl rfl (by decide +kernel) ⟨Nat.le_of_ble_eq_true rfl, Nat.le_of_ble_eq_true rfl⟩) rfl hl.1 rfl (Nat.le_of_ble_eq_true rfl) dX4_openThingFor_4 ⟨Nat.zero_le _, Nat.zero_le _⟩ hP hD hS hA (recvO (hX.2.2.2.2.2.2.1 w1 hw1).2.1 hS) PO_blind (PO_call ((hX.2.2.2.2.2.2.1 w1 hw1).2.2.1 ("java/lang/Enum", "ordinal", "I", wV_ordinal) (List.mem_of_getElem? (i := 0) rfl)) hS hA) (fun H locs hP hD hS => ?_)
  have ⟨c1, hE⟩ := ck_some hE
  refine va_ti hx hb hX.2.2.2.2.1 hS c1 rfl dX4_openThingFor_7 ?_
  by_cases c2 : (swm ((wV_ordinal.getD w1 0).toNatClampNeg)) = 11
  · have hE := if_t c2 hE
    refine lv_tableIn (tgt := 52) (off := 44) hx hb dX4_openThingFor_8 (by rw [c2]; decide +kernel) (by rw [c2]; decide +kernel) (by rw [c2]; decide +kernel) (by decide) ?_
    refine lv_iconst (v := 1) hx hb dX4_openThingFor_52 (by decide +kernel) ?_
    obtain rfl := Option.some.inj hE
    exact rt_i hx hb hr hP hS rfl hlocks dX4_openThingFor_53
  have hE := if_f c2 hE
  by_cases c3 : (swm ((wV_ordinal.getD w1 0).toNatClampNeg)) = 12
  · have hE := if_t c3 hE
    refine lv_tableIn (tgt := 52) (off := 44) hx hb dX4_openThingFor_8 (by rw [c3]; decide +kernel) (by rw [c3]; decide +kernel) (by rw [c3]; decide +kernel) (by decide) ?_
    refine lv_iconst (v := 1) hx hb dX4_openThingFor_52 (by decide +kernel) ?_
    obtain rfl := Option.some.inj hE
    exact rt_i hx hb hr hP hS rfl hlocks dX4_openThingFor_53
  have hE := if_f c3 hE
  by_cases c4 : (swm ((wV_ordinal.getD w1 0).toNatClampNeg)) = 13
  · have hE := if_t c4 hE
    refine lv_tableIn (tgt := 54) (off := 46) hx hb dX4_openThingFor_8 (by rw [c4]; decide +kernel) (by rw [c4]; decide +kernel) (by rw [c4]; decide +kernel) (by decide) ?_
    refine lv_iconst (v := 2) hx hb dX4_openThingFor_54 (by decide +kernel) ?_
    obtain rfl := Option.some.inj hE
    exact rt_i hx hb hr hP hS rfl hlocks dX4_openThingFor_55
  have hE := if_f c4 hE
  by_cases c5 : (swm ((wV_ordinal.getD w1 0).toNatClampNeg)) = 14
  · have hE := if_t c5 hE
    refine lv_tableIn (tgt := 54) (off := 46) hx hb dX4_openThingFor_8 (by rw [c5]; decide +kernel) (by rw [c5]; decide +kernel) (by rw [c5]; decide +kernel) (by decide) ?_
    refine lv_iconst (v := 2) hx hb dX4_openThingFor_54 (by decide +kernel) ?_
    obtain rfl := Option.some.inj hE
    exact rt_i hx hb hr hP hS rfl hlocks dX4_openThingFor_55
  have hE := if_f c5 hE
  by_cases c6 : (swm ((wV_ordinal.getD w1 0).toNatClampNeg)) = 15
  · have hE := if_t c6 hE
    refine lv_tableIn (tgt := 56) (off := 48) hx hb dX4_openThingFor_8 (by rw [c6]; decide +kernel) (by rw [c6]; decide +kernel) (by rw [c6]; decide +kernel) (by decide) ?_
    refine lv_iconst (v := 3) hx hb dX4_openThingFor_56 (by decide +kernel) ?_
    obtain rfl := Option.some.inj hE
    exact rt_i hx hb hr hP hS rfl hlocks dX4_openThingFor_57
  have hE := if_f c6 hE
  by_cases c7 : (swm ((wV_ordinal.getD w1 0).toNatClampNeg)) = 16
  · have hE := if_t c7 hE
    refine lv_tableIn (tgt := 58) (off := 50) hx hb dX4_openThingFor_8 (by rw [c7]; decide +kernel) (by rw [c7]; decide +kernel) (by rw [c7]; decide +kernel) (by decide) ?_
    refine lv_iconst (v := 4) hx hb dX4_openThingFor_58 (by decide +kernel) ?_
    obtain rfl := Option.some.inj hE
    exact rt_i hx hb hr hP hS rfl hlocks dX4_openThingFor_59
  have hE := if_f c7 hE
  by_cases c8 : (swm ((wV_ordinal.getD w1 0).toNatClampNeg)) = 17
  · have hE := if_t c8 hE
    refine lv_tableIn (tgt := 58) (off := 50) hx hb dX4_openThingFor_8 (by rw [c8]; decide +kernel) (by rw [c8]; decide +kernel) (by rw [c8]; decide +kernel) (by decide) ?_
    refine lv_iconst (v := 4) hx hb dX4_openThingFor_58 (by decide +kernel) ?_
    obtain rfl := Option.some.inj hE
    exact rt_i hx hb hr hP hS rfl hlocks dX4_openThingFor_59
  have hE := if_f c8 hE
  have tc2 := lv_neT c2 (show (11 : Int32).toInt = 11 by decide +kernel)
  have tc3 := lv_neT c3 (show (12 : Int32).toInt = 12 by decide +kernel)
  have tc4 := lv_neT c4 (show (13 : Int32).toInt = 13 by decide +kernel)
  have tc5 := lv_neT c5 (show (14 : Int32).toInt = 14 by decide +kernel)
  have tc6 := lv_neT c6 (show (15 : Int32).toInt = 15 by decide +kernel)
  have tc7 := lv_neT c7 (show (16 : Int32).toInt = 16 by decide +kernel)
  have tc8 := lv_neT c8 (show (17 : Int32).toInt = 17 by decide +kernel)
  refine lv_tableOut (tgt := 60) hx hb dX4_openThingFor_8 (by omega) (by decide) ?_
  refine lv_iconst (v := 0) hx hb dX4_openThingFor_60 (by decide +kernel) ?_
  obtain rfl := Option.some.inj hE
  exact rt_i hx hb hr hP hS rfl hlocks dX4_openThingFor_61
set_option maxHeartbeats 4000000 in
set_option maxRecDepth 100000 in
theorem c_X4_opensOneMore (l : Launch) (D : va_G) (cA : Nat → ClassId) (ad adK adV : Nat → Nat) (tA tS : Nat) (g : Nat → Nat) (sz : Nat) (w1 : Nat) (t : tT) (s : tR) (y : tY) (d : tD) (q : tP) (k : tK) (u : Int32) (hE : f_X4_opensOneMore w1 = some u) : Met l yX4_opensOneMore wsX4_opensOneMore ({ frames := 0, cells := 0, slots := 0, locals := 0 }) (va_Pc [.ref (g 0), .ref (ad w1)] (PRE D cA (wK g cA t s y d q k) sz (fun U => SX ad adK adV tA tS (va_A (wK g cA t s y d q k) sz) U U.heap))) (cQi D (wK g cA t s y d q k) (va_A (wK g cA t s y d q k) sz) u) 0 0 (va_A (wK g cA t s y d q k) sz) := by
  refine Met.ofW (cc := cX4_opensOneMore) (maxL := 2) (ret := (some .boolean)) (by decide) rfl ?_
  intro PP EE S0 MM args below meth CC S1 B hml hv
  obtain ⟨rfl, hsz, hP, hK, hD0, hX⟩ := hv
  have hx := B.exec
  have hb := B.bytes
  have hr := B.returns
  have hts := atoms_spec (ws := wsX4_opensOneMore) B.pre
  have hown : S0.vm.findClass RX4 = some MM.cls := findClass_of_methodNamed B.named
  have hlocks := B.notSynchronized
  subst hsz
  have hD := hD0.self (sz := S0.heap.size)
  have hX : SX ad adK adV tA tS (va_A (wK g cA t s y d q k) S0.heap.size) S0 S0.heap := hX
  generalize hAe : va_A (wK g cA t s y d q k) S0.heap.size = A at hD hX ⊢
  have hA : ∀ q : Nat, S0.heap.size ≤ q → A q := fun q h => by rw [← hAe]; exact Or.inr h
  have hS : va_S A S0.heap S0.heap [] := va_S.rf
  have k0 := hts (.fieldLink RX4 167 "WordForge$Word" "IF" "LWordForge$Word;") (List.mem_of_getElem? (i := 1) rfl)
  have k1 : va_Z "WordForge$Word" "IF" "LWordForge$Word;" (.ref (ad 69)) A S0 S0.heap := (hX.2.2.2.2.2.2.1 69 (by decide)).1
  have k2 := hts (.fieldLink RX4 170 "WordForge$Word" "BEGIN" "LWordForge$Word;") (List.mem_of_getElem? (i := 2) rfl)
  have k3 : va_Z "WordForge$Word" "BEGIN" "LWordForge$Word;" (.ref (ad 72)) A S0 S0.heap := (hX.2.2.2.2.2.2.1 72 (by decide)).1
  have k4 := hts (.fieldLink RX4 173 "WordForge$Word" "WHILE" "LWordForge$Word;") (List.mem_of_getElem? (i := 3) rfl)
  have k5 : va_Z "WordForge$Word" "WHILE" "LWordForge$Word;" (.ref (ad 74)) A S0 S0.heap := (hX.2.2.2.2.2.2.1 74 (by decide)).1
  have k6 := hts (.fieldLink RX4 176 "WordForge$Word" "DO" "LWordForge$Word;") (List.mem_of_getElem? (i := 4) rfl)
  have k7 : va_Z "WordForge$Word" "DO" "LWordForge$Word;" (.ref (ad 76)) A S0 S0.heap := (hX.2.2.2.2.2.2.1 76 (by decide)).1
  have hl := lv_entry ([.ref (g 0), .ref (ad w1)]) (n := 2) (Nat.le_of_ble_eq_true rfl)
  rw [lg_entry_eq]
  generalize (lg_sl ([.ref (g 0), .ref (ad w1)]) ++ List.replicate (2 - (lg_sl ([.ref (g 0), .ref (ad w1)])).length) Slot.unset).toArray = ls at hl ⊢
  have hl : lv_has ls 2 [(0, .ref (g 0)), (1, .ref (ad w1))] := hl
  unfold f_X4_opensOneMore at hE
  have ⟨hw1, hE⟩ := ck_some hE
  have w28 : ∀ (H : Heap) (locs : List Loc) (ls : Array Slot), va_P D vwCl (wK g cA t s y d q k) H → va_D A (wK g cA t s y d q k) → va_S A S0.heap H locs → lv_has ls 2 [] → b_X4_opensOneMore_28 w1  = some u → W PP l EE (headSpec wsX4_opensOneMore ({ frames := 0, cells := 0, slots := 0, locals := 0 })).room S0 MM (#[.ref (g 0), .ref (ad w1)] : Array Value) below meth CC H locs 0 0 (MQ below (cQi D (wK g cA t s y d q k) A u) (#[.ref (g 0), .ref (ad w1)] : Array Value) S0 0 0 A) (F0 MM 28 ls []) := by
    intro H locs ls hP hD hS hl hE
    unfold b_X4_opensOneMore_28 at hE
    refine lv_iconst (v := 1) hx hb dX4_opensOneMore_28 (by decide +kernel) ?_
    refine lv_goto (tgt := 33) hx hb dX4_opensOneMore_29 (by decide) ?_
    obtain rfl := Option.some.inj hE
    exact rt_n hx hb hr (by decide +kernel) hP hS rfl hlocks dX4_opensOneMore_33
  suffices main : ∀ (H : Heap) (locs : List Loc) (ls : Array Slot), va_P D vwCl (wK g cA t s y d q k) H → va_D A (wK g cA t s y d q k) → va_S A S0.heap H locs → lv_has ls 2 [(0, .ref (g 0)), (1, .ref (ad w1))] → W PP l EE (headSpec wsX4_opensOneMore ({ frames := 0, cells := 0, slots := 0, locals := 0 })).room S0 MM (#[.ref (g 0), .ref (ad w1)] : Array Value) below meth CC H locs 0 0 (MQ below (cQi D (wK g cA t s y d q k) A u) (#[.ref (g 0), .ref (ad w1)] : Array Value) S0 0 0 A) (F0 MM 0 ls []) from main _ _ _ hP hD hS hl
  intro H locs ls hP hD hS hl
  refine lv_aload_n hx hb dX4_opensOneMore_0 rfl (lv_at hl 1 rfl) ?_
  refine va_gets hx hb k1 hS hown k0 (fun _ h9 => h9) dX4_opensOneMore_1 ?_
  refine lv_acmp_eq (rx := some (ad w1)) (ry := some (ad 69)) (tgt := 28) hx hb dX4_opensOneMore_4 (by decide) (fun c1 => ?_) (fun c1 => ?_)
  · have c1 := hX.2.2.2.2.2.2.2.1 w1 69 hw1 (show 69 < 82 by decide) (Option.some.inj c1)
    have hE := if_t c1 hE
    exact w28   H locs ls hP hD hS (lv_sub hl [] rfl) hE
  · have c1 : ¬ w1 = 69 := fun h => c1 (by rw [h])
    have hE := if_f c1 hE
    refine lv_aload_n hx hb dX4_opensOneMore_7 rfl (lv_at hl 1 rfl) ?_
    refine va_gets hx hb k3 hS hown k2 (fun _ h9 => h9) dX4_opensOneMore_8 ?_
    refine lv_acmp_eq (rx := some (ad w1)) (ry := some (ad 72)) (tgt := 28) hx hb dX4_opensOneMore_11 (by decide) (fun c2 => ?_) (fun c2 => ?_)
    · have c2 := hX.2.2.2.2.2.2.2.1 w1 72 hw1 (show 72 < 82 by decide) (Option.some.inj c2)
      have hE := if_t c2 hE
      exact w28   H locs ls hP hD hS (lv_sub hl [] rfl) hE
    · have c2 : ¬ w1 = 72 := fun h => c2 (by rw [h])
      have hE := if_f c2 hE
      refine lv_aload_n hx hb dX4_opensOneMore_14 rfl (lv_at hl 1 rfl) ?_
      refine va_gets hx hb k5 hS hown k4 (fun _ h9 => h9) dX4_opensOneMore_15 ?_
      refine lv_acmp_eq (rx := some (ad w1)) (ry := some (ad 74)) (tgt := 28) hx hb dX4_opensOneMore_18 (by decide) (fun c3 => ?_) (fun c3 => ?_)
      · have c3 := hX.2.2.2.2.2.2.2.1 w1 74 hw1 (show 74 < 82 by decide) (Option.some.inj c3)
        have hE := if_t c3 hE
        exact w28   H locs ls hP hD hS (lv_sub hl [] rfl) hE
      · have c3 : ¬ w1 = 74 := fun h => c3 (by rw [h])
        have hE := if_f c3 hE
        refine lv_aload_n hx hb dX4_opensOneMore_21 rfl (lv_at hl 1 rfl) ?_
        refine va_gets hx hb k7 hS hown k6 (fun _ h9 => h9) dX4_opensOneMore_22 ?_
        refine lv_acmp_ne (rx := some (ad w1)) (ry := some (ad 76)) (tgt := 32) hx hb dX4_opensOneMore_25 (by decide) (fun c4 => ?_) (fun c4 => ?_)
        · have c4 : ¬ w1 = 76 := fun h => c4 (by rw [h])
          have hE := if_f c4 hE
          refine lv_iconst (v := 0) hx hb dX4_opensOneMore_32 (by decide +kernel) ?_
          obtain rfl := Option.some.inj hE
          exact rt_n hx hb hr (by decide +kernel) hP hS rfl hlocks dX4_opensOneMore_33
        · have c4 := hX.2.2.2.2.2.2.2.1 w1 76 hw1 (show 76 < 82 by decide) (Option.some.inj c4)
          have hE := if_t c4 hE
          exact w28   H locs ls hP hD hS (lv_sub hl [] rfl) hE
set_option maxRecDepth 20000 in
theorem hX4_openJump_X5_appendBoth_133 : GoodIn wsX4_openJump (wsV RX4 133 RX5 yX5_appendBoth wsX5_appendBoth) := goodIn_r _ [3, 4, 5, 6, 7, 8, 9, 24, 25] rfl (by decide +kernel)
set_option maxRecDepth 20000 in
theorem hX4_openJump_X6_add_189 : GoodIn wsX4_openJump (wsV RX4 189 RX6 yX6_add wsX6_add) := goodIn_r _ [10, 11, 12, 13, 14, 15, 16, 17, 26, 27, 28] rfl (by decide +kernel)
set_option maxHeartbeats 4000000 in
set_option maxRecDepth 100000 in
theorem c_X4_openJump (l : Launch) (D : va_G) (cA : Nat → ClassId) (ad adK adV : Nat → Nat) (tA tS : Nat) (g : Nat → Nat) (sz : Nat) (x1 : Int32) (x2 : Int32) (t : tT) (s : tR) (y : tY) (d : tD) (q : tP) (k : tK) (u : tY × tP) (hE : f_X4_openJump x1 x2 y q = some u) : Met l yX4_openJump wsX4_openJump ({ frames := 1, cells := 0, slots := 0, locals := 22 }) (va_Pc [.ref (g 0), .int x1, .int x2] (PRE D cA (wK g cA t s y d q k) sz (fun U => SX ad adK adV tA tS (va_A (wK g cA t s y d q k) sz) U U.heap))) (cQv D (wK g cA t s u.1 d u.2 k) (va_A (wK g cA t s y d q k) sz)) 0 0 (va_A (wK g cA t s y d q k) sz) := by
  refine Met.ofW (cc := cX4_openJump) (maxL := 3) (ret := none) (by decide) rfl ?_
  intro PP EE S0 MM args below meth CC S1 B hml hv
  obtain ⟨rfl, hsz, hP, hK, hD0, hX⟩ := hv
  have hx := B.exec
  have hb := B.bytes
  have hr := B.returns
  have hts := atoms_spec (ws := wsX4_openJump) B.pre
  have hown : S0.vm.findClass RX4 = some MM.cls := findClass_of_methodNamed B.named
  have hlocks := B.notSynchronized
  subst hsz
  have hD := hD0.self (sz := S0.heap.size)
  have hX : SX ad adK adV tA tS (va_A (wK g cA t s y d q k) S0.heap.size) S0 S0.heap := hX
  generalize hAe : va_A (wK g cA t s y d q k) S0.heap.size = A at hD hX ⊢
  have hA : ∀ q : Nat, S0.heap.size ≤ q → A q := fun q h => by rw [← hAe]; exact Or.inr h
  have hS : va_S A S0.heap S0.heap [] := va_S.rf
  have k0 := hts (.fieldLink RX4 26 "WordForge$Maker" "memory" "LWordForge$Memory;") (List.mem_of_getElem? (i := 1) rfl)
  have inX4 : ∀ w ∈ wsX40, w ∈ wsX4_openJump := fun _ h => List.mem_cons_of_mem _ (List.mem_append_left _ (List.mem_append_left _ (List.mem_append_right _ h)))
  have k2 := hts (.fieldLink RX4 12 "WordForge$Maker" "open" "LWordForge$OpenThings;") (List.mem_of_getElem? (i := 2) rfl)
  have k3 := hX.nest (.fieldLinkNest RX4 53 "WordForge$Memory" "here" "I" "WordForge") (List.mem_of_getElem? (i := 4) rfl)
  have inX5 : ∀ w ∈ wsX50, w ∈ wsX4_openJump := fun _ h => List.mem_cons_of_mem _ (List.mem_append_left _ (List.mem_append_right _ h))
  have hl := lv_entry ([.ref (g 0), .int x1, .int x2]) (n := 3) (Nat.le_of_ble_eq_true rfl)
  rw [lg_entry_eq]
  generalize (lg_sl ([.ref (g 0), .int x1, .int x2]) ++ List.replicate (3 - (lg_sl ([.ref (g 0), .int x1, .int x2])).length) Slot.unset).toArray = ls at hl ⊢
  have hl : lv_has ls 3 [(0, .ref (g 0)), (1, .int x1), (2, .int x2)] := hl
  unfold f_X4_openJump at hE
  suffices main : ∀ (H : Heap) (locs : List Loc) (ls : Array Slot), va_P D vwCl (wK g cA t s y d q k) H → va_D A (wK g cA t s y d q k) → va_S A S0.heap H locs → lv_has ls 3 [(0, .ref (g 0)), (1, .int x1), (2, .int x2)] → W PP l EE (headSpec wsX4_openJump ({ frames := 1, cells := 0, slots := 0, locals := 22 })).room S0 MM (#[.ref (g 0), .int x1, .int x2] : Array Value) below meth CC H locs 0 0 (MQ below (cQv D (wK g cA t s u.1 d u.2 k) A) (#[.ref (g 0), .int x1, .int x2] : Array Value) S0 0 0 A) (F0 MM 0 ls []) from main _ _ _ hP hD hS hl
  intro H locs ls hP hD hS hl
  refine lv_aload_n hx hb dX4_openJump_0 rfl (lv_at hl 0 rfl) ?_
  refine va_get (D := D) (ci := 3) (v := .ref (g 5)) (C := RX4) (T := TX4) (N := 6) hx hb hts inX4 hown hK hP 0 rfl rfl 2 (by decide) k0 (fun _ h9 => h9) rfl dX4_openJump_1 ?_
  refine lv_iload_n hx hb dX4_openJump_4 rfl (lv_at hl 1 rfl) ?_
  refine lv_iconst (v := 0) hx hb dX4_openJump_5 (by decide +kernel) ?_
  obtain ⟨u1, h2, hE⟩ := bd_some hE
  refine cn_i (As := [.int x1, .int 0]) (rest := []) (r := u1.1) (w0 := (wK g cA t s y d q k)) (N := 18) ⟨hx, hb, hml, hown, hts⟩ (c_X5_appendBoth l D cA (g 5) (g 6) H.size x1 0 y u1 h2) (cwV 2 hts hX4_openJump_X5_appendBoth_133 rfl rfl rfl (by decide +kernel) ⟨Nat.le_of_ble_eq_true rfl, Nat.le_of_ble_eq_true rfl⟩) rfl hl.1 rfl (Nat.le_of_ble_eq_true rfl) dX4_openJump_6 ⟨Nat.zero_le _, Nat.zero_le _⟩ hK hP hD hS hA (va_recv hK hP (ci := 4) (q0 := 5) rfl rfl) [5, 6] [0, 1, 2, 3, 4, 7, 8, 9, 10, 11, 12, 13, 14, 15, 16, 17] (wK g cA t s u1.2 d q k) rfl (by decide +kernel) rfl (wr := List.filterMap (fun i => (wK g cA t s y d q k)[i]?) [0, 1, 2, 3, 4, 7, 8, 9, 10, 11, 12, 13, 14, 15, 16, 17]) rfl rfl (by decide +kernel) rfl (by decide +kernel) [g 0, g 1, g 2, g 3, g 4, g 5, g 6, g 7, g 8, g 9, g 10, g 11, g 12, g 13, g 14, g 15, g 16, g 17] rfl rfl (fun _ _ _ _ h => h) (fun _ _ _ => trivial) (fun H locs hP hD hS => ?_)
  have hP : va_P D vwCl (wK g cA t s u1.2 d q k) H := hP
  have hD : va_D A (wK g cA t s u1.2 d q k) := hD
  refine lv_pop hx hb dX4_openJump_9 rfl ?_
  refine lv_aload_n hx hb dX4_openJump_10 rfl (lv_at hl 0 rfl) ?_
  refine va_get (D := D) (ci := 3) (v := .ref (g 15)) (C := RX4) (T := TX4) (N := 6) hx hb hts inX4 hown hK hP 0 rfl rfl 4 (by decide) k2 (fun _ h9 => h9) rfl dX4_openJump_11 ?_
  refine lv_iload_n hx hb dX4_openJump_14 rfl (lv_at hl 2 rfl) ?_
  refine lv_aload_n hx hb dX4_openJump_15 rfl (lv_at hl 0 rfl) ?_
  refine va_get (D := D) (ci := 3) (v := .ref (g 5)) (C := RX4) (T := TX4) (N := 6) hx hb hts inX4 hown hK hP 0 rfl rfl 2 (by decide) k0 (fun _ h9 => h9) rfl dX4_openJump_16 ?_
  refine va_getN (D := D) (ci := 4) (v := .int u1.2.1) (C := RX5) (T := TX5) (N := 2) hx hb hts inX5 hown hK hP 5 rfl rfl 1 (by decide) (k3 _) (fun _ h9 => h9) rfl dX4_openJump_19 ?_
  refine lv_iconst (v := 1) hx hb dX4_openJump_22 (by decide +kernel) ?_
  refine lv_isub hx hb dX4_openJump_23 ?_
  obtain ⟨u3, h4, hE⟩ := bd_some hE
  refine cn_v (As := [.int x2, .int (u1.2.1 - 1)]) (rest := []) (w0 := (wK g cA t s u1.2 d q k)) (N := 18) ⟨hx, hb, hml, hown, hts⟩ (c_X6_add l D cA (g 15) (g 16) (g 17) H.size x2 (u1.2.1 - 1) q u3 h4) (cwV 2 hts hX4_openJump_X6_add_189 rfl rfl rfl (by decide +kernel) ⟨Nat.le_of_ble_eq_true rfl, Nat.le_of_ble_eq_true rfl⟩) rfl hl.1 rfl (Nat.le_of_ble_eq_true rfl) dX4_openJump_24 ⟨Nat.zero_le _, Nat.zero_le _⟩ hK hP hD hS hA (va_recv hK hP (ci := 5) (q0 := 15) rfl rfl) [15, 16, 17] [0, 1, 2, 3, 4, 5, 6, 7, 8, 9, 10, 11, 12, 13, 14] (wK g cA t s u1.2 d u3 k) rfl (by decide +kernel) rfl (wr := List.filterMap (fun i => (wK g cA t s u1.2 d q k)[i]?) [0, 1, 2, 3, 4, 5, 6, 7, 8, 9, 10, 11, 12, 13, 14]) rfl rfl (by decide +kernel) rfl (by decide +kernel) [g 0, g 1, g 2, g 3, g 4, g 5, g 6, g 7, g 8, g 9, g 10, g 11, g 12, g 13, g 14, g 15, g 16, g 17] rfl rfl (fun _ _ _ _ h => h) (fun _ _ _ => trivial) (fun H locs hP hD hS => ?_)
  have hP : va_P D vwCl (wK g cA t s u1.2 d u3 k) H := hP
  have hD : va_D A (wK g cA t s u1.2 d u3 k) := hD
  obtain rfl := Option.some.inj hE
  exact rt_v hx hb hr hP hS hlocks dX4_openJump_27
set_option maxRecDepth 20000 in
theorem hX4_build_X4_openJump_179 : GoodIn wsX4_build (wsV RX4 179 RX4 yX4_openJump wsX4_openJump) := goodIn_r _ [11, 12, 13, 14, 15, 3, 2, 16, 17, 18, 19, 20, 21, 22, 23, 24, 25, 26, 27, 28, 29, 30, 51, 52, 53, 54, 55, 56, 57, 58, 59, 60, 61] rfl (by decide +kernel)
set_option maxRecDepth 20000 in
theorem hX4_build_X6_close_183 : GoodIn wsX4_build (wsV RX4 183 RX6 yX6_close wsX6_close) := goodIn_r _ [31, 32, 33, 26, 34, 28, 30, 59, 60, 61] rfl (by decide +kernel)
set_option maxRecDepth 20000 in
theorem hX4_build_X5_set_186 : GoodIn wsX4_build (wsV RX4 186 RX5 yX5_set wsX5_set) := goodIn_r _ [35, 36, 37, 19, 38, 22, 39, 40, 41, 19, 42, 57, 58] rfl (by decide +kernel)
set_option maxRecDepth 20000 in
theorem hX4_build_X6_add_189 : GoodIn wsX4_build (wsV RX4 189 RX6 yX6_add wsX6_add) := goodIn_r _ [23, 24, 25, 26, 27, 28, 29, 30, 59, 60, 61] rfl (by decide +kernel)
set_option maxRecDepth 20000 in
theorem hX4_build_X5_appendBoth_133 : GoodIn wsX4_build (wsV RX4 133 RX5 yX5_appendBoth wsX5_appendBoth) := goodIn_r _ [16, 17, 18, 19, 20, 21, 22, 57, 58] rfl (by decide +kernel)
set_option maxRecDepth 20000 in
theorem hX4_build_X5_append_97 : GoodIn wsX4_build (wsV RX4 97 RX5 yX5_append wsX5_append) := goodIn_r _ [43, 44, 45, 19, 46, 22, 21, 47, 48, 49, 19, 50, 57, 58] rfl (by decide +kernel)
set_option maxHeartbeats 4000000 in
set_option maxRecDepth 100000 in
theorem c_X4_build (l : Launch) (D : va_G) (cA : Nat → ClassId) (ad adK adV : Nat → Nat) (tA tS : Nat) (g : Nat → Nat) (sz : Nat) (w1 : Nat) (t : tT) (s : tR) (y : tY) (d : tD) (q : tP) (k : tK) (u : tY × tP) (hE : f_X4_build w1 y q = some u) : Met l yX4_build wsX4_build ({ frames := 2, cells := 0, slots := 0, locals := 44 }) (va_Pc [.ref (g 0), .ref (ad w1)] (PRE D cA (wK g cA t s y d q k) sz (fun U => SX ad adK adV tA tS (va_A (wK g cA t s y d q k) sz) U U.heap))) (cQv D (wK g cA t s u.1 d u.2 k) (va_A (wK g cA t s y d q k) sz)) 0 0 (va_A (wK g cA t s y d q k) sz) := by
  refine Met.ofW (cc := cX4_build) (maxL := 4) (ret := none) (by decide) rfl ?_
  intro PP EE S0 MM args below meth CC S1 B hml hv
  obtain ⟨rfl, hsz, hP, hK, hD0, hX⟩ := hv
  have hx := B.exec
  have hb := B.bytes
  have hr := B.returns
  have hts := atoms_spec (ws := wsX4_build) B.pre
  have hown : S0.vm.findClass RX4 = some MM.cls := findClass_of_methodNamed B.named
  have hlocks := B.notSynchronized
  subst hsz
  have hD := hD0.self (sz := S0.heap.size)
  have hX : SX ad adK adV tA tS (va_A (wK g cA t s y d q k) S0.heap.size) S0 S0.heap := hX
  generalize hAe : va_A (wK g cA t s y d q k) S0.heap.size = A at hD hX ⊢
  have hA : ∀ q : Nat, S0.heap.size ≤ q → A q := fun q h => by rw [← hAe]; exact Or.inr h
  have hS : va_S A S0.heap S0.heap [] := va_S.rf
  have k0 := hts (.fieldLink RX4 80 "WordForge$1" "$SwitchMap$WordForge$Word" "[I") (List.mem_of_getElem? (i := 1) rfl)
  have k1 := hts (.fieldLink RX4 12 "WordForge$Maker" "open" "LWordForge$OpenThings;") (List.mem_of_getElem? (i := 2) rfl)
  have inX4 : ∀ w ∈ wsX40, w ∈ wsX4_build := fun _ h => List.mem_cons_of_mem _ (List.mem_append_left _ (List.mem_append_left _ (List.mem_append_right _ h)))
  have k3 := hts (.fieldLink RX4 26 "WordForge$Maker" "memory" "LWordForge$Memory;") (List.mem_of_getElem? (i := 3) rfl)
  have k4 := hX.nest (.fieldLinkNest RX4 53 "WordForge$Memory" "here" "I" "WordForge") (List.mem_of_getElem? (i := 4) rfl)
  have inX5 : ∀ w ∈ wsX50, w ∈ wsX4_build := fun _ h => List.mem_cons_of_mem _ (List.mem_append_left _ (List.mem_append_right _ h))
  have hl := lv_entry ([.ref (g 0), .ref (ad w1)]) (n := 4) (Nat.le_of_ble_eq_true rfl)
  rw [lg_entry_eq]
  generalize (lg_sl ([.ref (g 0), .ref (ad w1)]) ++ List.replicate (4 - (lg_sl ([.ref (g 0), .ref (ad w1)])).length) Slot.unset).toArray = ls at hl ⊢
  have hl : lv_has ls 4 [(0, .ref (g 0)), (1, .ref (ad w1))] := hl
  unfold f_X4_build at hE
  have ⟨hw1, hE⟩ := ck_some hE
  suffices main : ∀ (H : Heap) (locs : List Loc) (ls : Array Slot), va_P D vwCl (wK g cA t s y d q k) H → va_D A (wK g cA t s y d q k) → va_S A S0.heap H locs → lv_has ls 4 [(0, .ref (g 0)), (1, .ref (ad w1))] → W PP l EE (headSpec wsX4_build ({ frames := 2, cells := 0, slots := 0, locals := 44 })).room S0 MM (#[.ref (g 0), .ref (ad w1)] : Array Value) below meth CC H locs 0 0 (MQ below (cQv D (wK g cA t s u.1 d u.2 k) A) (#[.ref (g 0), .ref (ad w1)] : Array Value) S0 0 0 A) (F0 MM 0 ls []) from main _ _ _ hP hD hS hl
  intro H locs ls hP hD hS hl
  refine va_gets hx hb hX.2.2.2.1 hS hown k0 (fun _ h9 => h9) dX4_build_0 ?_
  refine lv_aload_n hx hb dX4_build_3 rfl (lv_at hl 1 rfl) ?_
  refine cu_i (As := []) (rest := [.ref tS]) (r := wV_ordinal.getD w1 0) ⟨hx, hb, hml, hown, hts⟩ (c_ordinal l w1 (ad w1) H.size) (va_cwU 0 hts gX4_build_Jx29ce0_ordinal_8abf5_u85X10 rfl rfl rfl rfl (by decide +kernel) ⟨Nat.le_of_ble_eq_true rfl, Nat.le_of_ble_eq_true rfl⟩) rfl hl.1 rfl (Nat.le_of_ble_eq_true rfl) dX4_build_4 ⟨Nat.zero_le _, Nat.zero_le _⟩ hP hD hS hA (recvO (hX.2.2.2.2.2.2.1 w1 hw1).2.1 hS) PO_blind (PO_call ((hX.2.2.2.2.2.2.1 w1 hw1).2.2.1 ("java/lang/Enum", "ordinal", "I", wV_ordinal) (List.mem_of_getElem? (i := 0) rfl)) hS hA) (fun H locs hP hD hS => ?_)
  have ⟨c1, hE⟩ := ck_some hE
  refine va_ti hx hb hX.2.2.2.2.1 hS c1 rfl dX4_build_7 ?_
  by_cases c2 : (swm ((wV_ordinal.getD w1 0).toNatClampNeg)) = 11
  · have hE := if_t c2 hE
    refine lv_tableIn (tgt := 73) (off := 65) hx hb dX4_build_8 (by rw [c2]; decide +kernel) (by rw [c2]; decide +kernel) (by rw [c2]; decide +kernel) (by decide) ?_
    refine lv_aload_n hx hb dX4_build_73 rfl (lv_at hl 0 rfl) ?_
    refine va_get (D := D) (ci := 3) (v := .ref (g 15)) (C := RX4) (T := TX4) (N := 6) hx hb hts inX4 hown hK hP 0 rfl rfl 4 (by decide) k1 (fun _ h9 => h9) rfl dX4_build_74 ?_
    obtain ⟨u3, h4, hE⟩ := bd_some hE
    refine cn_i (As := []) (rest := []) (r := u3.1) (w0 := (wK g cA t s y d q k)) (N := 18) ⟨hx, hb, hml, hown, hts⟩ (c_X6_close l D cA (g 15) (g 16) (g 17) H.size q u3 h4) (cwV 0 hts hX4_build_X6_close_183 rfl rfl rfl (by decide +kernel) ⟨Nat.le_of_ble_eq_true rfl, Nat.le_of_ble_eq_true rfl⟩) rfl hl.1 rfl (Nat.le_of_ble_eq_true rfl) dX4_build_77 ⟨Nat.zero_le _, Nat.zero_le _⟩ hK hP hD hS hA (va_recv hK hP (ci := 5) (q0 := 15) rfl rfl) [15, 16, 17] [0, 1, 2, 3, 4, 5, 6, 7, 8, 9, 10, 11, 12, 13, 14] (wK g cA t s y d u3.2 k) rfl (by decide +kernel) rfl (wr := List.filterMap (fun i => (wK g cA t s y d q k)[i]?) [0, 1, 2, 3, 4, 5, 6, 7, 8, 9, 10, 11, 12, 13, 14]) rfl rfl (by decide +kernel) rfl (by decide +kernel) [g 0, g 1, g 2, g 3, g 4, g 5, g 6, g 7, g 8, g 9, g 10, g 11, g 12, g 13, g 14, g 15, g 16, g 17] rfl rfl (fun _ _ _ _ h => h) (fun _ _ _ => trivial) (fun H locs hP hD hS => ?_)
    have hP : va_P D vwCl (wK g cA t s y d u3.2 k) H := hP
    have hD : va_D A (wK g cA t s y d u3.2 k) := hD
    refine lv_istore_n (lv' := [(2, .int u3.1), (0, .ref (g 0)), (1, .ref (ad w1))]) hx hb dX4_build_80 rfl hl (by decide) rfl (fun ls hl => ?_)
    refine lv_aload_n hx hb dX4_build_81 rfl (lv_at hl 1 rfl) ?_
    refine lv_iconst (v := 2) hx hb dX4_build_82 (by decide +kernel) ?_
    refine lv_iconst (v := 1) hx hb dX4_build_83 (by decide +kernel) ?_
    obtain ⟨u5, h6, hE⟩ := bd_some hE
    refine cw_v (As := [.int 2, .int 1]) (rest := []) (wc := (wK g cA t s y d u3.2 k)) ⟨hx, hb, hml, hown, hts⟩ (c_X4_openJump l D cA ad adK adV tA tS g H.size 2 1 t s y d u3.2 k u5 h6) (cwV 2 hts hX4_build_X4_openJump_179 rfl rfl rfl (by decide +kernel) ⟨Nat.le_of_ble_eq_true rfl, Nat.le_of_ble_eq_true rfl⟩) rfl hl.1 rfl (Nat.le_of_ble_eq_true rfl) dX4_build_84 ⟨Nat.zero_le _, Nat.zero_le _⟩ hK hP hD hS hA (va_recv hK hP (ci := 3) (q0 := 0) rfl rfl) [g 0, g 1, g 2, g 3, g 4, g 5, g 6, g 7, g 8, g 9, g 10, g 11, g 12, g 13, g 14, g 15, g 16, g 17] rfl rfl (fun a U g mk h => SX.blind a U g mk h) (fun U hU hW => SX.call hX hS (fun q h => h.elim (fun ⟨k, e, h⟩ => hD.2 k (q, e) h) (fun h => hA q (Nat.le_trans hS.1 h))) U hU hW) (fun H locs hP hD hS => ?_)
    have hP : va_P D vwCl (wK g cA t s u5.1 d u5.2 k) H := hP
    have hD : va_D A (wK g cA t s u5.1 d u5.2 k) := hD
    refine lv_aload_n hx hb dX4_build_87 rfl (lv_at hl 1 rfl) ?_
    refine va_get (D := D) (ci := 3) (v := .ref (g 5)) (C := RX4) (T := TX4) (N := 6) hx hb hts inX4 hown hK hP 0 rfl rfl 2 (by decide) k3 (fun _ h9 => h9) rfl dX4_build_88 ?_
    refine lv_iload_n hx hb dX4_build_91 rfl (lv_at hl 0 rfl) ?_
    refine lv_aload_n hx hb dX4_build_92 rfl (lv_at hl 1 rfl) ?_
    refine va_get (D := D) (ci := 3) (v := .ref (g 5)) (C := RX4) (T := TX4) (N := 6) hx hb hts inX4 hown hK hP 0 rfl rfl 2 (by decide) k3 (fun _ h9 => h9) rfl dX4_build_93 ?_
    refine va_getN (D := D) (ci := 4) (v := .int u5.1.1) (C := RX5) (T := TX5) (N := 2) hx hb hts inX5 hown hK hP 5 rfl rfl 1 (by decide) (k4 _) (fun _ h9 => h9) rfl dX4_build_96 ?_
    obtain ⟨u7, h8, hE⟩ := bd_some hE
    refine cn_v (As := [.int u3.1, .int u5.1.1]) (rest := []) (w0 := (wK g cA t s u5.1 d u5.2 k)) (N := 18) ⟨hx, hb, hml, hown, hts⟩ (c_X5_set l D cA (g 5) (g 6) H.size u3.1 u5.1.1 u5.1 u7 h8) (cwV 2 hts hX4_build_X5_set_186 rfl rfl rfl (by decide +kernel) ⟨Nat.le_of_ble_eq_true rfl, Nat.le_of_ble_eq_true rfl⟩) rfl hl.1 rfl (Nat.le_of_ble_eq_true rfl) dX4_build_99 ⟨Nat.zero_le _, Nat.zero_le _⟩ hK hP hD hS hA (va_recv hK hP (ci := 4) (q0 := 5) rfl rfl) [5, 6] [0, 1, 2, 3, 4, 7, 8, 9, 10, 11, 12, 13, 14, 15, 16, 17] (wK g cA t s u7 d u5.2 k) rfl (by decide +kernel) rfl (wr := List.filterMap (fun i => (wK g cA t s u5.1 d u5.2 k)[i]?) [0, 1, 2, 3, 4, 7, 8, 9, 10, 11, 12, 13, 14, 15, 16, 17]) rfl rfl (by decide +kernel) rfl (by decide +kernel) [g 0, g 1, g 2, g 3, g 4, g 5, g 6, g 7, g 8, g 9, g 10, g 11, g 12, g 13, g 14, g 15, g 16, g 17] rfl rfl (fun _ _ _ _ h => h) (fun _ _ _ => trivial) (fun H locs hP hD hS => ?_)
    have hP : va_P D vwCl (wK g cA t s u7 d u5.2 k) H := hP
    have hD : va_D A (wK g cA t s u7 d u5.2 k) := hD
    refine lv_goto (tgt := 283) hx hb dX4_build_102 (by decide) ?_
    obtain rfl := Option.some.inj hE
    exact rt_v hx hb hr hP hS hlocks dX4_build_283
  have hE := if_f c2 hE
  by_cases c9 : (swm ((wV_ordinal.getD w1 0).toNatClampNeg)) = 12
  · have hE := if_t c9 hE
    refine lv_tableIn (tgt := 105) (off := 97) hx hb dX4_build_8 (by rw [c9]; decide +kernel) (by rw [c9]; decide +kernel) (by rw [c9]; decide +kernel) (by decide) ?_
    refine lv_aload_n hx hb dX4_build_105 rfl (lv_at hl 0 rfl) ?_
    refine va_get (D := D) (ci := 3) (v := .ref (g 5)) (C := RX4) (T := TX4) (N := 6) hx hb hts inX4 hown hK hP 0 rfl rfl 2 (by decide) k3 (fun _ h9 => h9) rfl dX4_build_106 ?_
    refine lv_aload_n hx hb dX4_build_109 rfl (lv_at hl 0 rfl) ?_
    refine va_get (D := D) (ci := 3) (v := .ref (g 15)) (C := RX4) (T := TX4) (N := 6) hx hb hts inX4 hown hK hP 0 rfl rfl 4 (by decide) k1 (fun _ h9 => h9) rfl dX4_build_110 ?_
    obtain ⟨u10, h11, hE⟩ := bd_some hE
    refine cn_i (As := []) (rest := [.ref (g 5)]) (r := u10.1) (w0 := (wK g cA t s y d q k)) (N := 18) ⟨hx, hb, hml, hown, hts⟩ (c_X6_close l D cA (g 15) (g 16) (g 17) H.size q u10 h11) (cwV 0 hts hX4_build_X6_close_183 rfl rfl rfl (by decide +kernel) ⟨Nat.le_of_ble_eq_true rfl, Nat.le_of_ble_eq_true rfl⟩) rfl hl.1 rfl (Nat.le_of_ble_eq_true rfl) dX4_build_113 ⟨Nat.zero_le _, Nat.zero_le _⟩ hK hP hD hS hA (va_recv hK hP (ci := 5) (q0 := 15) rfl rfl) [15, 16, 17] [0, 1, 2, 3, 4, 5, 6, 7, 8, 9, 10, 11, 12, 13, 14] (wK g cA t s y d u10.2 k) rfl (by decide +kernel) rfl (wr := List.filterMap (fun i => (wK g cA t s y d q k)[i]?) [0, 1, 2, 3, 4, 5, 6, 7, 8, 9, 10, 11, 12, 13, 14]) rfl rfl (by decide +kernel) rfl (by decide +kernel) [g 0, g 1, g 2, g 3, g 4, g 5, g 6, g 7, g 8, g 9, g 10, g 11, g 12, g 13, g 14, g 15, g 16, g 17] rfl rfl (fun _ _ _ _ h => h) (fun _ _ _ => trivial) (fun H locs hP hD hS => ?_)
    have hP : va_P D vwCl (wK g cA t s y d u10.2 k) H := hP
    have hD : va_D A (wK g cA t s y d u10.2 k) := hD
    refine lv_aload_n hx hb dX4_build_116 rfl (lv_at hl 0 rfl) ?_
    refine va_get (D := D) (ci := 3) (v := .ref (g 5)) (C := RX4) (T := TX4) (N := 6) hx hb hts inX4 hown hK hP 0 rfl rfl 2 (by decide) k3 (fun _ h9 => h9) rfl dX4_build_117 ?_
    refine va_getN (D := D) (ci := 4) (v := .int y.1) (C := RX5) (T := TX5) (N := 2) hx hb hts inX5 hown hK hP 5 rfl rfl 1 (by decide) (k4 _) (fun _ h9 => h9) rfl dX4_build_120 ?_
    obtain ⟨u12, h13, hE⟩ := bd_some hE
    refine cn_v (As := [.int u10.1, .int y.1]) (rest := []) (w0 := (wK g cA t s y d u10.2 k)) (N := 18) ⟨hx, hb, hml, hown, hts⟩ (c_X5_set l D cA (g 5) (g 6) H.size u10.1 y.1 y u12 h13) (cwV 2 hts hX4_build_X5_set_186 rfl rfl rfl (by decide +kernel) ⟨Nat.le_of_ble_eq_true rfl, Nat.le_of_ble_eq_true rfl⟩) rfl hl.1 rfl (Nat.le_of_ble_eq_true rfl) dX4_build_123 ⟨Nat.zero_le _, Nat.zero_le _⟩ hK hP hD hS hA (va_recv hK hP (ci := 4) (q0 := 5) rfl rfl) [5, 6] [0, 1, 2, 3, 4, 7, 8, 9, 10, 11, 12, 13, 14, 15, 16, 17] (wK g cA t s u12 d u10.2 k) rfl (by decide +kernel) rfl (wr := List.filterMap (fun i => (wK g cA t s y d u10.2 k)[i]?) [0, 1, 2, 3, 4, 7, 8, 9, 10, 11, 12, 13, 14, 15, 16, 17]) rfl rfl (by decide +kernel) rfl (by decide +kernel) [g 0, g 1, g 2, g 3, g 4, g 5, g 6, g 7, g 8, g 9, g 10, g 11, g 12, g 13, g 14, g 15, g 16, g 17] rfl rfl (fun _ _ _ _ h => h) (fun _ _ _ => trivial) (fun H locs hP hD hS => ?_)
    have hP : va_P D vwCl (wK g cA t s u12 d u10.2 k) H := hP
    have hD : va_D A (wK g cA t s u12 d u10.2 k) := hD
    refine lv_goto (tgt := 283) hx hb dX4_build_126 (by decide) ?_
    obtain rfl := Option.some.inj hE
    exact rt_v hx hb hr hP hS hlocks dX4_build_283
  have hE := if_f c9 hE
  by_cases c14 : (swm ((wV_ordinal.getD w1 0).toNatClampNeg)) = 13
  · have hE := if_t c14 hE
    refine lv_tableIn (tgt := 147) (off := 139) hx hb dX4_build_8 (by rw [c14]; decide +kernel) (by rw [c14]; decide +kernel) (by rw [c14]; decide +kernel) (by decide) ?_
    refine lv_aload_n hx hb dX4_build_147 rfl (lv_at hl 0 rfl) ?_
    refine va_get (D := D) (ci := 3) (v := .ref (g 5)) (C := RX4) (T := TX4) (N := 6) hx hb hts inX4 hown hK hP 0 rfl rfl 2 (by decide) k3 (fun _ h9 => h9) rfl dX4_build_148 ?_
    refine lv_iconst (v := 3) hx hb dX4_build_151 (by decide +kernel) ?_
    refine lv_aload_n hx hb dX4_build_152 rfl (lv_at hl 0 rfl) ?_
    refine va_get (D := D) (ci := 3) (v := .ref (g 15)) (C := RX4) (T := TX4) (N := 6) hx hb hts inX4 hown hK hP 0 rfl rfl 4 (by decide) k1 (fun _ h9 => h9) rfl dX4_build_153 ?_
    obtain ⟨u15, h16, hE⟩ := bd_some hE
    refine cn_i (As := []) (rest := [.int 3, .ref (g 5)]) (r := u15.1) (w0 := (wK g cA t s y d q k)) (N := 18) ⟨hx, hb, hml, hown, hts⟩ (c_X6_close l D cA (g 15) (g 16) (g 17) H.size q u15 h16) (cwV 0 hts hX4_build_X6_close_183 rfl rfl rfl (by decide +kernel) ⟨Nat.le_of_ble_eq_true rfl, Nat.le_of_ble_eq_true rfl⟩) rfl hl.1 rfl (Nat.le_of_ble_eq_true rfl) dX4_build_156 ⟨Nat.zero_le _, Nat.zero_le _⟩ hK hP hD hS hA (va_recv hK hP (ci := 5) (q0 := 15) rfl rfl) [15, 16, 17] [0, 1, 2, 3, 4, 5, 6, 7, 8, 9, 10, 11, 12, 13, 14] (wK g cA t s y d u15.2 k) rfl (by decide +kernel) rfl (wr := List.filterMap (fun i => (wK g cA t s y d q k)[i]?) [0, 1, 2, 3, 4, 5, 6, 7, 8, 9, 10, 11, 12, 13, 14]) rfl rfl (by decide +kernel) rfl (by decide +kernel) [g 0, g 1, g 2, g 3, g 4, g 5, g 6, g 7, g 8, g 9, g 10, g 11, g 12, g 13, g 14, g 15, g 16, g 17] rfl rfl (fun _ _ _ _ h => h) (fun _ _ _ => trivial) (fun H locs hP hD hS => ?_)
    have hP : va_P D vwCl (wK g cA t s y d u15.2 k) H := hP
    have hD : va_D A (wK g cA t s y d u15.2 k) := hD
    obtain ⟨u17, h18, hE⟩ := bd_some hE
    refine cn_i (As := [.int 3, .int u15.1]) (rest := []) (r := u17.1) (w0 := (wK g cA t s y d u15.2 k)) (N := 18) ⟨hx, hb, hml, hown, hts⟩ (c_X5_appendBoth l D cA (g 5) (g 6) H.size 3 u15.1 y u17 h18) (cwV 2 hts hX4_build_X5_appendBoth_133 rfl rfl rfl (by decide +kernel) ⟨Nat.le_of_ble_eq_true rfl, Nat.le_of_ble_eq_true rfl⟩) rfl hl.1 rfl (Nat.le_of_ble_eq_true rfl) dX4_build_159 ⟨Nat.zero_le _, Nat.zero_le _⟩ hK hP hD hS hA (va_recv hK hP (ci := 4) (q0 := 5) rfl rfl) [5, 6] [0, 1, 2, 3, 4, 7, 8, 9, 10, 11, 12, 13, 14, 15, 16, 17] (wK g cA t s u17.2 d u15.2 k) rfl (by decide +kernel) rfl (wr := List.filterMap (fun i => (wK g cA t s y d u15.2 k)[i]?) [0, 1, 2, 3, 4, 7, 8, 9, 10, 11, 12, 13, 14, 15, 16, 17]) rfl rfl (by decide +kernel) rfl (by decide +kernel) [g 0, g 1, g 2, g 3, g 4, g 5, g 6, g 7, g 8, g 9, g 10, g 11, g 12, g 13, g 14, g 15, g 16, g 17] rfl rfl (fun _ _ _ _ h => h) (fun _ _ _ => trivial) (fun H locs hP hD hS => ?_)
    have hP : va_P D vwCl (wK g cA t s u17.2 d u15.2 k) H := hP
    have hD : va_D A (wK g cA t s u17.2 d u15.2 k) := hD
    refine lv_pop hx hb dX4_build_162 rfl ?_
    refine lv_goto (tgt := 283) hx hb dX4_build_163 (by decide) ?_
    obtain rfl := Option.some.inj hE
    exact rt_v hx hb hr hP hS hlocks dX4_build_283
  have hE := if_f c14 hE
  by_cases c19 : (swm ((wV_ordinal.getD w1 0).toNatClampNeg)) = 14
  · have hE := if_t c19 hE
    refine lv_tableIn (tgt := 166) (off := 158) hx hb dX4_build_8 (by rw [c19]; decide +kernel) (by rw [c19]; decide +kernel) (by rw [c19]; decide +kernel) (by decide) ?_
    refine lv_aload_n hx hb dX4_build_166 rfl (lv_at hl 0 rfl) ?_
    refine lv_iconst (v := 3) hx hb dX4_build_167 (by decide +kernel) ?_
    refine lv_iconst (v := 3) hx hb dX4_build_168 (by decide +kernel) ?_
    obtain ⟨u20, h21, hE⟩ := bd_some hE
    refine cw_v (As := [.int 3, .int 3]) (rest := []) (wc := (wK g cA t s y d q k)) ⟨hx, hb, hml, hown, hts⟩ (c_X4_openJump l D cA ad adK adV tA tS g H.size 3 3 t s y d q k u20 h21) (cwV 2 hts hX4_build_X4_openJump_179 rfl rfl rfl (by decide +kernel) ⟨Nat.le_of_ble_eq_true rfl, Nat.le_of_ble_eq_true rfl⟩) rfl hl.1 rfl (Nat.le_of_ble_eq_true rfl) dX4_build_169 ⟨Nat.zero_le _, Nat.zero_le _⟩ hK hP hD hS hA (va_recv hK hP (ci := 3) (q0 := 0) rfl rfl) [g 0, g 1, g 2, g 3, g 4, g 5, g 6, g 7, g 8, g 9, g 10, g 11, g 12, g 13, g 14, g 15, g 16, g 17] rfl rfl (fun a U g mk h => SX.blind a U g mk h) (fun U hU hW => SX.call hX hS (fun q h => h.elim (fun ⟨k, e, h⟩ => hD.2 k (q, e) h) (fun h => hA q (Nat.le_trans hS.1 h))) U hU hW) (fun H locs hP hD hS => ?_)
    have hP : va_P D vwCl (wK g cA t s u20.1 d u20.2 k) H := hP
    have hD : va_D A (wK g cA t s u20.1 d u20.2 k) := hD
    refine lv_goto (tgt := 283) hx hb dX4_build_172 (by decide) ?_
    obtain rfl := Option.some.inj hE
    exact rt_v hx hb hr hP hS hlocks dX4_build_283
  have hE := if_f c19 hE
  by_cases c22 : (swm ((wV_ordinal.getD w1 0).toNatClampNeg)) = 15
  · have hE := if_t c22 hE
    refine lv_tableIn (tgt := 175) (off := 167) hx hb dX4_build_8 (by rw [c22]; decide +kernel) (by rw [c22]; decide +kernel) (by rw [c22]; decide +kernel) (by decide) ?_
    refine lv_aload_n hx hb dX4_build_175 rfl (lv_at hl 0 rfl) ?_
    refine va_get (D := D) (ci := 3) (v := .ref (g 15)) (C := RX4) (T := TX4) (N := 6) hx hb hts inX4 hown hK hP 0 rfl rfl 4 (by decide) k1 (fun _ h9 => h9) rfl dX4_build_176 ?_
    obtain ⟨u23, h24, hE⟩ := bd_some hE
    refine cn_i (As := []) (rest := []) (r := u23.1) (w0 := (wK g cA t s y d q k)) (N := 18) ⟨hx, hb, hml, hown, hts⟩ (c_X6_close l D cA (g 15) (g 16) (g 17) H.size q u23 h24) (cwV 0 hts hX4_build_X6_close_183 rfl rfl rfl (by decide +kernel) ⟨Nat.le_of_ble_eq_true rfl, Nat.le_of_ble_eq_true rfl⟩) rfl hl.1 rfl (Nat.le_of_ble_eq_true rfl) dX4_build_179 ⟨Nat.zero_le _, Nat.zero_le _⟩ hK hP hD hS hA (va_recv hK hP (ci := 5) (q0 := 15) rfl rfl) [15, 16, 17] [0, 1, 2, 3, 4, 5, 6, 7, 8, 9, 10, 11, 12, 13, 14] (wK g cA t s y d u23.2 k) rfl (by decide +kernel) rfl (wr := List.filterMap (fun i => (wK g cA t s y d q k)[i]?) [0, 1, 2, 3, 4, 5, 6, 7, 8, 9, 10, 11, 12, 13, 14]) rfl rfl (by decide +kernel) rfl (by decide +kernel) [g 0, g 1, g 2, g 3, g 4, g 5, g 6, g 7, g 8, g 9, g 10, g 11, g 12, g 13, g 14, g 15, g 16, g 17] rfl rfl (fun _ _ _ _ h => h) (fun _ _ _ => trivial) (fun H locs hP hD hS => ?_)
    have hP : va_P D vwCl (wK g cA t s y d u23.2 k) H := hP
    have hD : va_D A (wK g cA t s y d u23.2 k) := hD
    refine lv_istore_n (lv' := [(3, .int u23.1), (0, .ref (g 0)), (1, .ref (ad w1))]) hx hb dX4_build_182 rfl hl (by decide) rfl (fun ls hl => ?_)
    refine lv_aload_n hx hb dX4_build_183 rfl (lv_at hl 1 rfl) ?_
    refine va_get (D := D) (ci := 3) (v := .ref (g 5)) (C := RX4) (T := TX4) (N := 6) hx hb hts inX4 hown hK hP 0 rfl rfl 2 (by decide) k3 (fun _ h9 => h9) rfl dX4_build_184 ?_
    refine lv_iconst (v := 2) hx hb dX4_build_187 (by decide +kernel) ?_
    refine lv_aload_n hx hb dX4_build_188 rfl (lv_at hl 1 rfl) ?_
    refine va_get (D := D) (ci := 3) (v := .ref (g 15)) (C := RX4) (T := TX4) (N := 6) hx hb hts inX4 hown hK hP 0 rfl rfl 4 (by decide) k1 (fun _ h9 => h9) rfl dX4_build_189 ?_
    obtain ⟨u25, h26, hE⟩ := bd_some hE
    refine cn_i (As := []) (rest := [.int 2, .ref (g 5)]) (r := u25.1) (w0 := (wK g cA t s y d u23.2 k)) (N := 18) ⟨hx, hb, hml, hown, hts⟩ (c_X6_close l D cA (g 15) (g 16) (g 17) H.size u23.2 u25 h26) (cwV 0 hts hX4_build_X6_close_183 rfl rfl rfl (by decide +kernel) ⟨Nat.le_of_ble_eq_true rfl, Nat.le_of_ble_eq_true rfl⟩) rfl hl.1 rfl (Nat.le_of_ble_eq_true rfl) dX4_build_192 ⟨Nat.zero_le _, Nat.zero_le _⟩ hK hP hD hS hA (va_recv hK hP (ci := 5) (q0 := 15) rfl rfl) [15, 16, 17] [0, 1, 2, 3, 4, 5, 6, 7, 8, 9, 10, 11, 12, 13, 14] (wK g cA t s y d u25.2 k) rfl (by decide +kernel) rfl (wr := List.filterMap (fun i => (wK g cA t s y d u23.2 k)[i]?) [0, 1, 2, 3, 4, 5, 6, 7, 8, 9, 10, 11, 12, 13, 14]) rfl rfl (by decide +kernel) rfl (by decide +kernel) [g 0, g 1, g 2, g 3, g 4, g 5, g 6, g 7, g 8, g 9, g 10, g 11, g 12, g 13, g 14, g 15, g 16, g 17] rfl rfl (fun _ _ _ _ h => h) (fun _ _ _ => trivial) (fun H locs hP hD hS => ?_)
    have hP : va_P D vwCl (wK g cA t s y d u25.2 k) H := hP
    have hD : va_D A (wK g cA t s y d u25.2 k) := hD
    obtain ⟨u27, h28, hE⟩ := bd_some hE
    refine cn_i (As := [.int 2, .int u25.1]) (rest := []) (r := u27.1) (w0 := (wK g cA t s y d u25.2 k)) (N := 18) ⟨hx, hb, hml, hown, hts⟩ (c_X5_appendBoth l D cA (g 5) (g 6) H.size 2 u25.1 y u27 h28) (cwV 2 hts hX4_build_X5_appendBoth_133 rfl rfl rfl (by decide +kernel) ⟨Nat.le_of_ble_eq_true rfl, Nat.le_of_ble_eq_true rfl⟩) rfl hl.1 rfl (Nat.le_of_ble_eq_true rfl) dX4_build_195 ⟨Nat.zero_le _, Nat.zero_le _⟩ hK hP hD hS hA (va_recv hK hP (ci := 4) (q0 := 5) rfl rfl) [5, 6] [0, 1, 2, 3, 4, 7, 8, 9, 10, 11, 12, 13, 14, 15, 16, 17] (wK g cA t s u27.2 d u25.2 k) rfl (by decide +kernel) rfl (wr := List.filterMap (fun i => (wK g cA t s y d u25.2 k)[i]?) [0, 1, 2, 3, 4, 7, 8, 9, 10, 11, 12, 13, 14, 15, 16, 17]) rfl rfl (by decide +kernel) rfl (by decide +kernel) [g 0, g 1, g 2, g 3, g 4, g 5, g 6, g 7, g 8, g 9, g 10, g 11, g 12, g 13, g 14, g 15, g 16, g 17] rfl rfl (fun _ _ _ _ h => h) (fun _ _ _ => trivial) (fun H locs hP hD hS => ?_)
    have hP : va_P D vwCl (wK g cA t s u27.2 d u25.2 k) H := hP
    have hD : va_D A (wK g cA t s u27.2 d u25.2 k) := hD
    refine lv_pop hx hb dX4_build_198 rfl ?_
    refine lv_aload_n hx hb dX4_build_199 rfl (lv_at hl 1 rfl) ?_
    refine va_get (D := D) (ci := 3) (v := .ref (g 5)) (C := RX4) (T := TX4) (N := 6) hx hb hts inX4 hown hK hP 0 rfl rfl 2 (by decide) k3 (fun _ h9 => h9) rfl dX4_build_200 ?_
    refine lv_iload_n hx hb dX4_build_203 rfl (lv_at hl 0 rfl) ?_
    refine lv_aload_n hx hb dX4_build_204 rfl (lv_at hl 1 rfl) ?_
    refine va_get (D := D) (ci := 3) (v := .ref (g 5)) (C := RX4) (T := TX4) (N := 6) hx hb hts inX4 hown hK hP 0 rfl rfl 2 (by decide) k3 (fun _ h9 => h9) rfl dX4_build_205 ?_
    refine va_getN (D := D) (ci := 4) (v := .int u27.2.1) (C := RX5) (T := TX5) (N := 2) hx hb hts inX5 hown hK hP 5 rfl rfl 1 (by decide) (k4 _) (fun _ h9 => h9) rfl dX4_build_208 ?_
    obtain ⟨u29, h30, hE⟩ := bd_some hE
    refine cn_v (As := [.int u23.1, .int u27.2.1]) (rest := []) (w0 := (wK g cA t s u27.2 d u25.2 k)) (N := 18) ⟨hx, hb, hml, hown, hts⟩ (c_X5_set l D cA (g 5) (g 6) H.size u23.1 u27.2.1 u27.2 u29 h30) (cwV 2 hts hX4_build_X5_set_186 rfl rfl rfl (by decide +kernel) ⟨Nat.le_of_ble_eq_true rfl, Nat.le_of_ble_eq_true rfl⟩) rfl hl.1 rfl (Nat.le_of_ble_eq_true rfl) dX4_build_211 ⟨Nat.zero_le _, Nat.zero_le _⟩ hK hP hD hS hA (va_recv hK hP (ci := 4) (q0 := 5) rfl rfl) [5, 6] [0, 1, 2, 3, 4, 7, 8, 9, 10, 11, 12, 13, 14, 15, 16, 17] (wK g cA t s u29 d u25.2 k) rfl (by decide +kernel) rfl (wr := List.filterMap (fun i => (wK g cA t s u27.2 d u25.2 k)[i]?) [0, 1, 2, 3, 4, 7, 8, 9, 10, 11, 12, 13, 14, 15, 16, 17]) rfl rfl (by decide +kernel) rfl (by decide +kernel) [g 0, g 1, g 2, g 3, g 4, g 5, g 6, g 7, g 8, g 9, g 10, g 11, g 12, g 13, g 14, g 15, g 16, g 17] rfl rfl (fun _ _ _ _ h => h) (fun _ _ _ => trivial) (fun H locs hP hD hS => ?_)
    have hP : va_P D vwCl (wK g cA t s u29 d u25.2 k) H := hP
    have hD : va_D A (wK g cA t s u29 d u25.2 k) := hD
    refine lv_goto (tgt := 283) hx hb dX4_build_214 (by decide) ?_
    obtain rfl := Option.some.inj hE
    exact rt_v hx hb hr hP hS hlocks dX4_build_283
  have hE := if_f c22 hE
  by_cases c31 : (swm ((wV_ordinal.getD w1 0).toNatClampNeg)) = 16
  · have hE := if_t c31 hE
    refine lv_tableIn (tgt := 244) (off := 236) hx hb dX4_build_8 (by rw [c31]; decide +kernel) (by rw [c31]; decide +kernel) (by rw [c31]; decide +kernel) (by decide) ?_
    refine lv_aload_n hx hb dX4_build_244 rfl (lv_at hl 0 rfl) ?_
    refine va_get (D := D) (ci := 3) (v := .ref (g 5)) (C := RX4) (T := TX4) (N := 6) hx hb hts inX4 hown hK hP 0 rfl rfl 2 (by decide) k3 (fun _ h9 => h9) rfl dX4_build_245 ?_
    refine lv_iconst (v := 5) hx hb dX4_build_248 (by decide +kernel) ?_
    refine lv_aload_n hx hb dX4_build_249 rfl (lv_at hl 0 rfl) ?_
    refine va_get (D := D) (ci := 3) (v := .ref (g 15)) (C := RX4) (T := TX4) (N := 6) hx hb hts inX4 hown hK hP 0 rfl rfl 4 (by decide) k1 (fun _ h9 => h9) rfl dX4_build_250 ?_
    obtain ⟨u32, h33, hE⟩ := bd_some hE
    refine cn_i (As := []) (rest := [.int 5, .ref (g 5)]) (r := u32.1) (w0 := (wK g cA t s y d q k)) (N := 18) ⟨hx, hb, hml, hown, hts⟩ (c_X6_close l D cA (g 15) (g 16) (g 17) H.size q u32 h33) (cwV 0 hts hX4_build_X6_close_183 rfl rfl rfl (by decide +kernel) ⟨Nat.le_of_ble_eq_true rfl, Nat.le_of_ble_eq_true rfl⟩) rfl hl.1 rfl (Nat.le_of_ble_eq_true rfl) dX4_build_253 ⟨Nat.zero_le _, Nat.zero_le _⟩ hK hP hD hS hA (va_recv hK hP (ci := 5) (q0 := 15) rfl rfl) [15, 16, 17] [0, 1, 2, 3, 4, 5, 6, 7, 8, 9, 10, 11, 12, 13, 14] (wK g cA t s y d u32.2 k) rfl (by decide +kernel) rfl (wr := List.filterMap (fun i => (wK g cA t s y d q k)[i]?) [0, 1, 2, 3, 4, 5, 6, 7, 8, 9, 10, 11, 12, 13, 14]) rfl rfl (by decide +kernel) rfl (by decide +kernel) [g 0, g 1, g 2, g 3, g 4, g 5, g 6, g 7, g 8, g 9, g 10, g 11, g 12, g 13, g 14, g 15, g 16, g 17] rfl rfl (fun _ _ _ _ h => h) (fun _ _ _ => trivial) (fun H locs hP hD hS => ?_)
    have hP : va_P D vwCl (wK g cA t s y d u32.2 k) H := hP
    have hD : va_D A (wK g cA t s y d u32.2 k) := hD
    obtain ⟨u34, h35, hE⟩ := bd_some hE
    refine cn_i (As := [.int 5, .int u32.1]) (rest := []) (r := u34.1) (w0 := (wK g cA t s y d u32.2 k)) (N := 18) ⟨hx, hb, hml, hown, hts⟩ (c_X5_appendBoth l D cA (g 5) (g 6) H.size 5 u32.1 y u34 h35) (cwV 2 hts hX4_build_X5_appendBoth_133 rfl rfl rfl (by decide +kernel) ⟨Nat.le_of_ble_eq_true rfl, Nat.le_of_ble_eq_true rfl⟩) rfl hl.1 rfl (Nat.le_of_ble_eq_true rfl) dX4_build_256 ⟨Nat.zero_le _, Nat.zero_le _⟩ hK hP hD hS hA (va_recv hK hP (ci := 4) (q0 := 5) rfl rfl) [5, 6] [0, 1, 2, 3, 4, 7, 8, 9, 10, 11, 12, 13, 14, 15, 16, 17] (wK g cA t s u34.2 d u32.2 k) rfl (by decide +kernel) rfl (wr := List.filterMap (fun i => (wK g cA t s y d u32.2 k)[i]?) [0, 1, 2, 3, 4, 7, 8, 9, 10, 11, 12, 13, 14, 15, 16, 17]) rfl rfl (by decide +kernel) rfl (by decide +kernel) [g 0, g 1, g 2, g 3, g 4, g 5, g 6, g 7, g 8, g 9, g 10, g 11, g 12, g 13, g 14, g 15, g 16, g 17] rfl rfl (fun _ _ _ _ h => h) (fun _ _ _ => trivial) (fun H locs hP hD hS => ?_)
    have hP : va_P D vwCl (wK g cA t s u34.2 d u32.2 k) H := hP
    have hD : va_D A (wK g cA t s u34.2 d u32.2 k) := hD
    refine lv_pop hx hb dX4_build_259 rfl ?_
    refine lv_goto (tgt := 283) hx hb dX4_build_260 (by decide) ?_
    obtain rfl := Option.some.inj hE
    exact rt_v hx hb hr hP hS hlocks dX4_build_283
  have hE := if_f c31 hE
  by_cases c36 : (swm ((wV_ordinal.getD w1 0).toNatClampNeg)) = 17
  · have hE := if_t c36 hE
    refine lv_tableIn (tgt := 263) (off := 255) hx hb dX4_build_8 (by rw [c36]; decide +kernel) (by rw [c36]; decide +kernel) (by rw [c36]; decide +kernel) (by decide) ?_
    refine lv_aload_n hx hb dX4_build_263 rfl (lv_at hl 0 rfl) ?_
    refine va_get (D := D) (ci := 3) (v := .ref (g 5)) (C := RX4) (T := TX4) (N := 6) hx hb hts inX4 hown hK hP 0 rfl rfl 2 (by decide) k3 (fun _ h9 => h9) rfl dX4_build_264 ?_
    refine lv_bipush (v := 6) hx hb dX4_build_267 (by decide +kernel) ?_
    refine lv_aload_n hx hb dX4_build_269 rfl (lv_at hl 0 rfl) ?_
    refine va_get (D := D) (ci := 3) (v := .ref (g 15)) (C := RX4) (T := TX4) (N := 6) hx hb hts inX4 hown hK hP 0 rfl rfl 4 (by decide) k1 (fun _ h9 => h9) rfl dX4_build_270 ?_
    obtain ⟨u37, h38, hE⟩ := bd_some hE
    refine cn_i (As := []) (rest := [.int 6, .ref (g 5)]) (r := u37.1) (w0 := (wK g cA t s y d q k)) (N := 18) ⟨hx, hb, hml, hown, hts⟩ (c_X6_close l D cA (g 15) (g 16) (g 17) H.size q u37 h38) (cwV 0 hts hX4_build_X6_close_183 rfl rfl rfl (by decide +kernel) ⟨Nat.le_of_ble_eq_true rfl, Nat.le_of_ble_eq_true rfl⟩) rfl hl.1 rfl (Nat.le_of_ble_eq_true rfl) dX4_build_273 ⟨Nat.zero_le _, Nat.zero_le _⟩ hK hP hD hS hA (va_recv hK hP (ci := 5) (q0 := 15) rfl rfl) [15, 16, 17] [0, 1, 2, 3, 4, 5, 6, 7, 8, 9, 10, 11, 12, 13, 14] (wK g cA t s y d u37.2 k) rfl (by decide +kernel) rfl (wr := List.filterMap (fun i => (wK g cA t s y d q k)[i]?) [0, 1, 2, 3, 4, 5, 6, 7, 8, 9, 10, 11, 12, 13, 14]) rfl rfl (by decide +kernel) rfl (by decide +kernel) [g 0, g 1, g 2, g 3, g 4, g 5, g 6, g 7, g 8, g 9, g 10, g 11, g 12, g 13, g 14, g 15, g 16, g 17] rfl rfl (fun _ _ _ _ h => h) (fun _ _ _ => trivial) (fun H locs hP hD hS => ?_)
    have hP : va_P D vwCl (wK g cA t s y d u37.2 k) H := hP
    have hD : va_D A (wK g cA t s y d u37.2 k) := hD
    obtain ⟨u39, h40, hE⟩ := bd_some hE
    refine cn_i (As := [.int 6, .int u37.1]) (rest := []) (r := u39.1) (w0 := (wK g cA t s y d u37.2 k)) (N := 18) ⟨hx, hb, hml, hown, hts⟩ (c_X5_appendBoth l D cA (g 5) (g 6) H.size 6 u37.1 y u39 h40) (cwV 2 hts hX4_build_X5_appendBoth_133 rfl rfl rfl (by decide +kernel) ⟨Nat.le_of_ble_eq_true rfl, Nat.le_of_ble_eq_true rfl⟩) rfl hl.1 rfl (Nat.le_of_ble_eq_true rfl) dX4_build_276 ⟨Nat.zero_le _, Nat.zero_le _⟩ hK hP hD hS hA (va_recv hK hP (ci := 4) (q0 := 5) rfl rfl) [5, 6] [0, 1, 2, 3, 4, 7, 8, 9, 10, 11, 12, 13, 14, 15, 16, 17] (wK g cA t s u39.2 d u37.2 k) rfl (by decide +kernel) rfl (wr := List.filterMap (fun i => (wK g cA t s y d u37.2 k)[i]?) [0, 1, 2, 3, 4, 7, 8, 9, 10, 11, 12, 13, 14, 15, 16, 17]) rfl rfl (by decide +kernel) rfl (by decide +kernel) [g 0, g 1, g 2, g 3, g 4, g 5, g 6, g 7, g 8, g 9, g 10, g 11, g 12, g 13, g 14, g 15, g 16, g 17] rfl rfl (fun _ _ _ _ h => h) (fun _ _ _ => trivial) (fun H locs hP hD hS => ?_)
    have hP : va_P D vwCl (wK g cA t s u39.2 d u37.2 k) H := hP
    have hD : va_D A (wK g cA t s u39.2 d u37.2 k) := hD
    refine lv_pop hx hb dX4_build_279 rfl ?_
    refine lv_goto (tgt := 283) hx hb dX4_build_280 (by decide) ?_
    obtain rfl := Option.some.inj hE
    exact rt_v hx hb hr hP hS hlocks dX4_build_283
  have hE := if_f c36 hE
  by_cases c41 : (swm ((wV_ordinal.getD w1 0).toNatClampNeg)) = 18
  · have hE := if_t c41 hE
    refine lv_tableIn (tgt := 64) (off := 56) hx hb dX4_build_8 (by rw [c41]; decide +kernel) (by rw [c41]; decide +kernel) (by rw [c41]; decide +kernel) (by decide) ?_
    refine lv_aload_n hx hb dX4_build_64 rfl (lv_at hl 0 rfl) ?_
    refine lv_iconst (v := 3) hx hb dX4_build_65 (by decide +kernel) ?_
    refine lv_iconst (v := 1) hx hb dX4_build_66 (by decide +kernel) ?_
    obtain ⟨u42, h43, hE⟩ := bd_some hE
    refine cw_v (As := [.int 3, .int 1]) (rest := []) (wc := (wK g cA t s y d q k)) ⟨hx, hb, hml, hown, hts⟩ (c_X4_openJump l D cA ad adK adV tA tS g H.size 3 1 t s y d q k u42 h43) (cwV 2 hts hX4_build_X4_openJump_179 rfl rfl rfl (by decide +kernel) ⟨Nat.le_of_ble_eq_true rfl, Nat.le_of_ble_eq_true rfl⟩) rfl hl.1 rfl (Nat.le_of_ble_eq_true rfl) dX4_build_67 ⟨Nat.zero_le _, Nat.zero_le _⟩ hK hP hD hS hA (va_recv hK hP (ci := 3) (q0 := 0) rfl rfl) [g 0, g 1, g 2, g 3, g 4, g 5, g 6, g 7, g 8, g 9, g 10, g 11, g 12, g 13, g 14, g 15, g 16, g 17] rfl rfl (fun a U g mk h => SX.blind a U g mk h) (fun U hU hW => SX.call hX hS (fun q h => h.elim (fun ⟨k, e, h⟩ => hD.2 k (q, e) h) (fun h => hA q (Nat.le_trans hS.1 h))) U hU hW) (fun H locs hP hD hS => ?_)
    have hP : va_P D vwCl (wK g cA t s u42.1 d u42.2 k) H := hP
    have hD : va_D A (wK g cA t s u42.1 d u42.2 k) := hD
    refine lv_goto (tgt := 283) hx hb dX4_build_70 (by decide) ?_
    obtain rfl := Option.some.inj hE
    exact rt_v hx hb hr hP hS hlocks dX4_build_283
  have hE := if_f c41 hE
  by_cases c44 : (swm ((wV_ordinal.getD w1 0).toNatClampNeg)) = 19
  · have hE := if_t c44 hE
    refine lv_tableIn (tgt := 129) (off := 121) hx hb dX4_build_8 (by rw [c44]; decide +kernel) (by rw [c44]; decide +kernel) (by rw [c44]; decide +kernel) (by decide) ?_
    refine lv_aload_n hx hb dX4_build_129 rfl (lv_at hl 0 rfl) ?_
    refine va_get (D := D) (ci := 3) (v := .ref (g 15)) (C := RX4) (T := TX4) (N := 6) hx hb hts inX4 hown hK hP 0 rfl rfl 4 (by decide) k1 (fun _ h9 => h9) rfl dX4_build_130 ?_
    refine lv_iconst (v := 2) hx hb dX4_build_133 (by decide +kernel) ?_
    refine lv_aload_n hx hb dX4_build_134 rfl (lv_at hl 0 rfl) ?_
    refine va_get (D := D) (ci := 3) (v := .ref (g 5)) (C := RX4) (T := TX4) (N := 6) hx hb hts inX4 hown hK hP 0 rfl rfl 2 (by decide) k3 (fun _ h9 => h9) rfl dX4_build_135 ?_
    refine va_getN (D := D) (ci := 4) (v := .int y.1) (C := RX5) (T := TX5) (N := 2) hx hb hts inX5 hown hK hP 5 rfl rfl 1 (by decide) (k4 _) (fun _ h9 => h9) rfl dX4_build_138 ?_
    obtain ⟨u45, h46, hE⟩ := bd_some hE
    refine cn_v (As := [.int 2, .int y.1]) (rest := []) (w0 := (wK g cA t s y d q k)) (N := 18) ⟨hx, hb, hml, hown, hts⟩ (c_X6_add l D cA (g 15) (g 16) (g 17) H.size 2 y.1 q u45 h46) (cwV 2 hts hX4_build_X6_add_189 rfl rfl rfl (by decide +kernel) ⟨Nat.le_of_ble_eq_true rfl, Nat.le_of_ble_eq_true rfl⟩) rfl hl.1 rfl (Nat.le_of_ble_eq_true rfl) dX4_build_141 ⟨Nat.zero_le _, Nat.zero_le _⟩ hK hP hD hS hA (va_recv hK hP (ci := 5) (q0 := 15) rfl rfl) [15, 16, 17] [0, 1, 2, 3, 4, 5, 6, 7, 8, 9, 10, 11, 12, 13, 14] (wK g cA t s y d u45 k) rfl (by decide +kernel) rfl (wr := List.filterMap (fun i => (wK g cA t s y d q k)[i]?) [0, 1, 2, 3, 4, 5, 6, 7, 8, 9, 10, 11, 12, 13, 14]) rfl rfl (by decide +kernel) rfl (by decide +kernel) [g 0, g 1, g 2, g 3, g 4, g 5, g 6, g 7, g 8, g 9, g 10, g 11, g 12, g 13, g 14, g 15, g 16, g 17] rfl rfl (fun _ _ _ _ h => h) (fun _ _ _ => trivial) (fun H locs hP hD hS => ?_)
    have hP : va_P D vwCl (wK g cA t s y d u45 k) H := hP
    have hD : va_D A (wK g cA t s y d u45 k) := hD
    refine lv_goto (tgt := 283) hx hb dX4_build_144 (by decide) ?_
    obtain rfl := Option.some.inj hE
    exact rt_v hx hb hr hP hS hlocks dX4_build_283
  have hE := if_f c44 hE
  by_cases c47 : (swm ((wV_ordinal.getD w1 0).toNatClampNeg)) = 20
  · have hE := if_t c47 hE
    refine lv_tableIn (tgt := 217) (off := 209) hx hb dX4_build_8 (by rw [c47]; decide +kernel) (by rw [c47]; decide +kernel) (by rw [c47]; decide +kernel) (by decide) ?_
    refine lv_aload_n hx hb dX4_build_217 rfl (lv_at hl 0 rfl) ?_
    refine va_get (D := D) (ci := 3) (v := .ref (g 5)) (C := RX4) (T := TX4) (N := 6) hx hb hts inX4 hown hK hP 0 rfl rfl 2 (by decide) k3 (fun _ h9 => h9) rfl dX4_build_218 ?_
    refine lv_iconst (v := 4) hx hb dX4_build_221 (by decide +kernel) ?_
    obtain ⟨u48, h49, hE⟩ := bd_some hE
    refine cn_i (As := [.int 4]) (rest := []) (r := u48.1) (w0 := (wK g cA t s y d q k)) (N := 18) ⟨hx, hb, hml, hown, hts⟩ (c_X5_append l D cA (g 5) (g 6) H.size 4 y u48 h49) (cwV 1 hts hX4_build_X5_append_97 rfl rfl rfl (by decide +kernel) ⟨Nat.le_of_ble_eq_true rfl, Nat.le_of_ble_eq_true rfl⟩) rfl hl.1 rfl (Nat.le_of_ble_eq_true rfl) dX4_build_222 ⟨Nat.zero_le _, Nat.zero_le _⟩ hK hP hD hS hA (va_recv hK hP (ci := 4) (q0 := 5) rfl rfl) [5, 6] [0, 1, 2, 3, 4, 7, 8, 9, 10, 11, 12, 13, 14, 15, 16, 17] (wK g cA t s u48.2 d q k) rfl (by decide +kernel) rfl (wr := List.filterMap (fun i => (wK g cA t s y d q k)[i]?) [0, 1, 2, 3, 4, 7, 8, 9, 10, 11, 12, 13, 14, 15, 16, 17]) rfl rfl (by decide +kernel) rfl (by decide +kernel) [g 0, g 1, g 2, g 3, g 4, g 5, g 6, g 7, g 8, g 9, g 10, g 11, g 12, g 13, g 14, g 15, g 16, g 17] rfl rfl (fun _ _ _ _ h => h) (fun _ _ _ => trivial) (fun H locs hP hD hS => ?_)
    have hP : va_P D vwCl (wK g cA t s u48.2 d q k) H := hP
    have hD : va_D A (wK g cA t s u48.2 d q k) := hD
    refine lv_pop hx hb dX4_build_225 rfl ?_
    refine lv_aload_n hx hb dX4_build_226 rfl (lv_at hl 0 rfl) ?_
    refine va_get (D := D) (ci := 3) (v := .ref (g 15)) (C := RX4) (T := TX4) (N := 6) hx hb hts inX4 hown hK hP 0 rfl rfl 4 (by decide) k1 (fun _ h9 => h9) rfl dX4_build_227 ?_
    refine lv_iconst (v := 4) hx hb dX4_build_230 (by decide +kernel) ?_
    refine lv_aload_n hx hb dX4_build_231 rfl (lv_at hl 0 rfl) ?_
    refine va_get (D := D) (ci := 3) (v := .ref (g 5)) (C := RX4) (T := TX4) (N := 6) hx hb hts inX4 hown hK hP 0 rfl rfl 2 (by decide) k3 (fun _ h9 => h9) rfl dX4_build_232 ?_
    refine va_getN (D := D) (ci := 4) (v := .int u48.2.1) (C := RX5) (T := TX5) (N := 2) hx hb hts inX5 hown hK hP 5 rfl rfl 1 (by decide) (k4 _) (fun _ h9 => h9) rfl dX4_build_235 ?_
    obtain ⟨u50, h51, hE⟩ := bd_some hE
    refine cn_v (As := [.int 4, .int u48.2.1]) (rest := []) (w0 := (wK g cA t s u48.2 d q k)) (N := 18) ⟨hx, hb, hml, hown, hts⟩ (c_X6_add l D cA (g 15) (g 16) (g 17) H.size 4 u48.2.1 q u50 h51) (cwV 2 hts hX4_build_X6_add_189 rfl rfl rfl (by decide +kernel) ⟨Nat.le_of_ble_eq_true rfl, Nat.le_of_ble_eq_true rfl⟩) rfl hl.1 rfl (Nat.le_of_ble_eq_true rfl) dX4_build_238 ⟨Nat.zero_le _, Nat.zero_le _⟩ hK hP hD hS hA (va_recv hK hP (ci := 5) (q0 := 15) rfl rfl) [15, 16, 17] [0, 1, 2, 3, 4, 5, 6, 7, 8, 9, 10, 11, 12, 13, 14] (wK g cA t s u48.2 d u50 k) rfl (by decide +kernel) rfl (wr := List.filterMap (fun i => (wK g cA t s u48.2 d q k)[i]?) [0, 1, 2, 3, 4, 5, 6, 7, 8, 9, 10, 11, 12, 13, 14]) rfl rfl (by decide +kernel) rfl (by decide +kernel) [g 0, g 1, g 2, g 3, g 4, g 5, g 6, g 7, g 8, g 9, g 10, g 11, g 12, g 13, g 14, g 15, g 16, g 17] rfl rfl (fun _ _ _ _ h => h) (fun _ _ _ => trivial) (fun H locs hP hD hS => ?_)
    have hP : va_P D vwCl (wK g cA t s u48.2 d u50 k) H := hP
    have hD : va_D A (wK g cA t s u48.2 d u50 k) := hD
    refine lv_goto (tgt := 283) hx hb dX4_build_241 (by decide) ?_
    obtain rfl := Option.some.inj hE
    exact rt_v hx hb hr hP hS hlocks dX4_build_283
  have hE := if_f c47 hE
  have tc2 := lv_neT c2 (show (11 : Int32).toInt = 11 by decide +kernel)
  have tc9 := lv_neT c9 (show (12 : Int32).toInt = 12 by decide +kernel)
  have tc14 := lv_neT c14 (show (13 : Int32).toInt = 13 by decide +kernel)
  have tc19 := lv_neT c19 (show (14 : Int32).toInt = 14 by decide +kernel)
  have tc22 := lv_neT c22 (show (15 : Int32).toInt = 15 by decide +kernel)
  have tc31 := lv_neT c31 (show (16 : Int32).toInt = 16 by decide +kernel)
  have tc36 := lv_neT c36 (show (17 : Int32).toInt = 17 by decide +kernel)
  have tc41 := lv_neT c41 (show (18 : Int32).toInt = 18 by decide +kernel)
  have tc44 := lv_neT c44 (show (19 : Int32).toInt = 19 by decide +kernel)
  have tc47 := lv_neT c47 (show (20 : Int32).toInt = 20 by decide +kernel)
  refine lv_tableOut (tgt := 283) hx hb dX4_build_8 (by omega) (by decide) ?_
  obtain rfl := Option.some.inj hE
  exact rt_v hx hb hr hP hS hlocks dX4_build_283
set_option maxRecDepth 20000 in
theorem hX4_structure_X4_openThingFor_152 : GoodIn wsX4_structure (wsV RX4 152 RX4 yX4_openThingFor wsX4_openThingFor) := goodIn_r _ [3, 4, 5, 6, 7, 8, 9, 10, 11, 12, 13, 14, 15] rfl (by decide +kernel)
set_option maxRecDepth 20000 in
theorem hX4_structure_X6_latestSort_156 : GoodIn wsX4_structure (wsV RX4 156 RX6 yX6_latestSort wsX6_latestSort) := goodIn_r _ [16, 17, 18, 19, 20, 21, 22, 82, 83, 84] rfl (by decide +kernel)
set_option maxRecDepth 20000 in
theorem hX4_structure_X4_opensOneMore_159 : GoodIn wsX4_structure (wsV RX4 159 RX4 yX4_opensOneMore wsX4_opensOneMore) := goodIn_r _ [23, 24, 25, 6, 26, 27, 28, 29, 30] rfl (by decide +kernel)
set_option maxRecDepth 20000 in
theorem hX4_structure_X6_isFull_163 : GoodIn wsX4_structure (wsV RX4 163 RX6 yX6_isFull wsX6_isFull) := goodIn_r _ [31, 32, 33, 19, 34, 21, 82, 83, 84] rfl (by decide +kernel)
set_option maxRecDepth 20000 in
theorem hX4_structure_X5_hasRoom_72 : GoodIn wsX4_structure (wsV RX4 72 RX5 yX5_hasRoom wsX5_hasRoom) := goodIn_r _ [35, 36, 37, 38, 39, 40, 85, 86] rfl (by decide +kernel)
set_option maxRecDepth 20000 in
theorem hX4_structure_X4_build_164 : GoodIn wsX4_structure (wsV RX4 164 RX4 yX4_build wsX4_build) := goodIn_r _ [41, 42, 43, 6, 44, 8, 1, 2, 9, 10, 11, 12, 13, 14, 15, 45, 46, 47, 6, 48, 49, 50, 51, 38, 52, 40, 53, 54, 55, 56, 19, 57, 21, 22, 58, 59, 60, 61, 62, 63, 64, 65, 66, 67, 68, 69, 70, 71, 72, 73, 74, 75, 36, 37, 39, 76, 77, 78, 79, 80, 81, 85, 86, 82, 83, 84] rfl (by decide +kernel)
set_option maxHeartbeats 4000000 in
set_option maxRecDepth 100000 in
theorem c_X4_structure (l : Launch) (D : va_G) (cA : Nat → ClassId) (ad adK adV : Nat → Nat) (tA tS : Nat) (g : Nat → Nat) (sz : Nat) (w1 : Nat) (t : tT) (s : tR) (y : tY) (d : tD) (q : tP) (k : tK) (u : Int32 × tY × tP) (hE : f_X4_structure w1 y q = some u) : Met l yX4_structure wsX4_structure ({ frames := 3, cells := 0, slots := 0, locals := 67 }) (va_Pc [.ref (g 0), .ref (ad w1)] (PRE D cA (wK g cA t s y d q k) sz (fun U => SX ad adK adV tA tS (va_A (wK g cA t s y d q k) sz) U U.heap))) (cQi D (wK g cA t s u.2.1 d u.2.2 k) (va_A (wK g cA t s y d q k) sz) u.1) 0 0 (va_A (wK g cA t s y d q k) sz) := by
  refine Met.ofW (cc := cX4_structure) (maxL := 3) (ret := (some .int)) (by decide) rfl ?_
  intro PP EE S0 MM args below meth CC S1 B hml hv
  obtain ⟨rfl, hsz, hP, hK, hD0, hX⟩ := hv
  have hx := B.exec
  have hb := B.bytes
  have hr := B.returns
  have hts := atoms_spec (ws := wsX4_structure) B.pre
  have hown : S0.vm.findClass RX4 = some MM.cls := findClass_of_methodNamed B.named
  have hlocks := B.notSynchronized
  subst hsz
  have hD := hD0.self (sz := S0.heap.size)
  have hX : SX ad adK adV tA tS (va_A (wK g cA t s y d q k) S0.heap.size) S0 S0.heap := hX
  generalize hAe : va_A (wK g cA t s y d q k) S0.heap.size = A at hD hX ⊢
  have hA : ∀ q : Nat, S0.heap.size ≤ q → A q := fun q h => by rw [← hAe]; exact Or.inr h
  have hS : va_S A S0.heap S0.heap [] := va_S.rf
  have k0 := hts (.fieldLink RX4 12 "WordForge$Maker" "open" "LWordForge$OpenThings;") (List.mem_of_getElem? (i := 1) rfl)
  have inX4 : ∀ w ∈ wsX40, w ∈ wsX4_structure := fun _ h => List.mem_cons_of_mem _ (List.mem_append_left _ (List.mem_append_left _ (List.mem_append_right _ h)))
  have k2 := hts (.fieldLink RX4 26 "WordForge$Maker" "memory" "LWordForge$Memory;") (List.mem_of_getElem? (i := 2) rfl)
  have k3 := hX.nest (.fieldLinkNest RX4 67 "WordForge$Word" "appends" "I" "WordForge") (List.mem_of_getElem? (i := 46) rfl)
  have hl := lv_entry ([.ref (g 0), .ref (ad w1)]) (n := 3) (Nat.le_of_ble_eq_true rfl)
  rw [lg_entry_eq]
  generalize (lg_sl ([.ref (g 0), .ref (ad w1)]) ++ List.replicate (3 - (lg_sl ([.ref (g 0), .ref (ad w1)])).length) Slot.unset).toArray = ls at hl ⊢
  have hl : lv_has ls 3 [(0, .ref (g 0)), (1, .ref (ad w1))] := hl
  unfold f_X4_structure at hE
  have ⟨hw1, hE⟩ := ck_some hE
  have w45 : ∀ (y : tY) (q : tP) (H : Heap) (locs : List Loc) (ls : Array Slot), va_P D vwCl (wK g cA t s y d q k) H → va_D A (wK g cA t s y d q k) → va_S A S0.heap H locs → lv_has ls 3 [(0, .ref (g 0)), (1, .ref (ad w1))] → b_X4_structure_45 w1 y q = some u → W PP l EE (headSpec wsX4_structure ({ frames := 3, cells := 0, slots := 0, locals := 67 })).room S0 MM (#[.ref (g 0), .ref (ad w1)] : Array Value) below meth CC H locs 0 0 (MQ below (cQi D (wK g cA t s u.2.1 d u.2.2 k) A u.1) (#[.ref (g 0), .ref (ad w1)] : Array Value) S0 0 0 A) (F0 MM 45 ls []) := by
    intro y q
    intro H locs ls hP hD hS hl hE
    unfold b_X4_structure_45 at hE
    refine lv_aload_n hx hb dX4_structure_45 rfl (lv_at hl 0 rfl) ?_
    refine va_get (D := D) (ci := 3) (v := .ref (g 5)) (C := RX4) (T := TX4) (N := 6) hx hb hts inX4 hown hK hP 0 rfl rfl 2 (by decide) k2 (fun _ h9 => h9) rfl dX4_structure_46 ?_
    refine lv_aload_n hx hb dX4_structure_49 rfl (lv_at hl 1 rfl) ?_
    refine vk_getfN (v := .int (wV_appends.getD w1 0)) hx hb ((hX.2.2.2.2.2.2.1 w1 hw1).2.2.1 ("WordForge$Word", "appends", "I", wV_appends) (List.mem_of_getElem? (i := 1) rfl)) hS hown (k3 _) (fun _ h9 => h9) dX4_structure_50 ?_
    obtain ⟨u13, h14, hE⟩ := bd_some hE
    refine cn_i (As := [.int (wV_appends.getD w1 0)]) (rest := []) (r := u13) (w0 := (wK g cA t s y d q k)) (N := 18) ⟨hx, hb, hml, hown, hts⟩ (c_X5_hasRoom l D cA (g 5) (g 6) H.size (wV_appends.getD w1 0) y u13 h14) (cwV 1 hts hX4_structure_X5_hasRoom_72 rfl rfl rfl (by decide +kernel) ⟨Nat.le_of_ble_eq_true rfl, Nat.le_of_ble_eq_true rfl⟩) rfl hl.1 rfl (Nat.le_of_ble_eq_true rfl) dX4_structure_53 ⟨Nat.zero_le _, Nat.zero_le _⟩ hK hP hD hS hA (va_recv hK hP (ci := 4) (q0 := 5) rfl rfl) [5, 6] [0, 1, 2, 3, 4, 7, 8, 9, 10, 11, 12, 13, 14, 15, 16, 17] (wK g cA t s y d q k) rfl (by decide +kernel) rfl (wr := List.filterMap (fun i => (wK g cA t s y d q k)[i]?) [0, 1, 2, 3, 4, 7, 8, 9, 10, 11, 12, 13, 14, 15, 16, 17]) rfl rfl (by decide +kernel) rfl (by decide +kernel) [g 0, g 1, g 2, g 3, g 4, g 5, g 6, g 7, g 8, g 9, g 10, g 11, g 12, g 13, g 14, g 15, g 16, g 17] rfl rfl (fun _ _ _ _ h => h) (fun _ _ _ => trivial) (fun H locs hP hD hS => ?_)
    have hP : va_P D vwCl (wK g cA t s y d q k) H := hP
    have hD : va_D A (wK g cA t s y d q k) := hD
    refine lv_if_ne (tgt := 62) hx hb dX4_structure_56 (by decide) (fun c15 => ?_) (fun c15 => ?_)
    · have hE := if_f c15 hE
      refine lv_aload_n hx hb dX4_structure_62 rfl (lv_at hl 0 rfl) ?_
      refine lv_aload_n hx hb dX4_structure_63 rfl (lv_at hl 1 rfl) ?_
      obtain ⟨u16, h17, hE⟩ := bd_some hE
      refine cw_v (As := [.ref (ad w1)]) (rest := []) (wc := (wK g cA t s y d q k)) ⟨hx, hb, hml, hown, hts⟩ (c_X4_build l D cA ad adK adV tA tS g H.size w1 t s y d q k u16 h17) (cwV 1 hts hX4_structure_X4_build_164 rfl rfl rfl (by decide +kernel) ⟨Nat.le_of_ble_eq_true rfl, Nat.le_of_ble_eq_true rfl⟩) rfl hl.1 rfl (Nat.le_of_ble_eq_true rfl) dX4_structure_64 ⟨Nat.zero_le _, Nat.zero_le _⟩ hK hP hD hS hA (va_recv hK hP (ci := 3) (q0 := 0) rfl rfl) [g 0, g 1, g 2, g 3, g 4, g 5, g 6, g 7, g 8, g 9, g 10, g 11, g 12, g 13, g 14, g 15, g 16, g 17] rfl rfl (fun a U g mk h => SX.blind a U g mk h) (fun U hU hW => SX.call hX hS (fun q h => h.elim (fun ⟨k, e, h⟩ => hD.2 k (q, e) h) (fun h => hA q (Nat.le_trans hS.1 h))) U hU hW) (fun H locs hP hD hS => ?_)
      have hP : va_P D vwCl (wK g cA t s u16.1 d u16.2 k) H := hP
      have hD : va_D A (wK g cA t s u16.1 d u16.2 k) := hD
      refine lv_iconst (v := 0) hx hb dX4_structure_67 (by decide +kernel) ?_
      obtain rfl := Option.some.inj hE
      exact rt_i hx hb hr hP hS rfl hlocks dX4_structure_68
    · have hE := if_t c15 hE
      refine lv_bipush (v := (-8)) hx hb dX4_structure_59 (by decide +kernel) ?_
      obtain rfl := Option.some.inj hE
      exact rt_i hx hb hr hP hS rfl hlocks dX4_structure_61
  have w24 : ∀ (y : tY) (q : tP) (H : Heap) (locs : List Loc) (ls : Array Slot), va_P D vwCl (wK g cA t s y d q k) H → va_D A (wK g cA t s y d q k) → va_S A S0.heap H locs → lv_has ls 3 [(0, .ref (g 0)), (1, .ref (ad w1))] → b_X4_structure_24 w1 y q = some u → W PP l EE (headSpec wsX4_structure ({ frames := 3, cells := 0, slots := 0, locals := 67 })).room S0 MM (#[.ref (g 0), .ref (ad w1)] : Array Value) below meth CC H locs 0 0 (MQ below (cQi D (wK g cA t s u.2.1 d u.2.2 k) A u.1) (#[.ref (g 0), .ref (ad w1)] : Array Value) S0 0 0 A) (F0 MM 24 ls []) := by
    intro y q
    intro H locs ls hP hD hS hl hE
    unfold b_X4_structure_24 at hE
    refine lv_aload_n hx hb dX4_structure_24 rfl (lv_at hl 0 rfl) ?_
    refine lv_aload_n hx hb dX4_structure_25 rfl (lv_at hl 1 rfl) ?_
    obtain ⟨u7, h8, hE⟩ := bd_some hE
    refine cw_i (As := [.ref (ad w1)]) (rest := []) (r := u7) (wc := (wK g cA t s y d q k)) ⟨hx, hb, hml, hown, hts⟩ (c_X4_opensOneMore l D cA ad adK adV tA tS g H.size w1 t s y d q k u7 h8) (cwV 1 hts hX4_structure_X4_opensOneMore_159 rfl rfl rfl (by decide +kernel) ⟨Nat.le_of_ble_eq_true rfl, Nat.le_of_ble_eq_true rfl⟩) rfl hl.1 rfl (Nat.le_of_ble_eq_true rfl) dX4_structure_26 ⟨Nat.zero_le _, Nat.zero_le _⟩ hK hP hD hS hA (va_recv hK hP (ci := 3) (q0 := 0) rfl rfl) [g 0, g 1, g 2, g 3, g 4, g 5, g 6, g 7, g 8, g 9, g 10, g 11, g 12, g 13, g 14, g 15, g 16, g 17] rfl rfl (fun a U g mk h => SX.blind a U g mk h) (fun U hU hW => SX.call hX hS (fun q h => h.elim (fun ⟨k, e, h⟩ => hD.2 k (q, e) h) (fun h => hA q (Nat.le_trans hS.1 h))) U hU hW) (fun H locs hP hD hS => ?_)
    have hP : va_P D vwCl (wK g cA t s y d q k) H := hP
    have hD : va_D A (wK g cA t s y d q k) := hD
    refine lv_if_eq (tgt := 45) hx hb dX4_structure_29 (by decide) (fun c9 => ?_) (fun c9 => ?_)
    · have hE := if_t c9 hE
      exact w45  y q H locs ls hP hD hS (lv_sub hl [0, 1] rfl) hE
    · have hE := if_f c9 hE
      refine lv_aload_n hx hb dX4_structure_32 rfl (lv_at hl 0 rfl) ?_
      refine va_get (D := D) (ci := 3) (v := .ref (g 15)) (C := RX4) (T := TX4) (N := 6) hx hb hts inX4 hown hK hP 0 rfl rfl 4 (by decide) k0 (fun _ h9 => h9) rfl dX4_structure_33 ?_
      obtain ⟨u10, h11, hE⟩ := bd_some hE
      refine cn_i (As := []) (rest := []) (r := u10) (w0 := (wK g cA t s y d q k)) (N := 18) ⟨hx, hb, hml, hown, hts⟩ (c_X6_isFull l D cA (g 15) (g 16) (g 17) H.size q u10 h11) (cwV 0 hts hX4_structure_X6_isFull_163 rfl rfl rfl (by decide +kernel) ⟨Nat.le_of_ble_eq_true rfl, Nat.le_of_ble_eq_true rfl⟩) rfl hl.1 rfl (Nat.le_of_ble_eq_true rfl) dX4_structure_36 ⟨Nat.zero_le _, Nat.zero_le _⟩ hK hP hD hS hA (va_recv hK hP (ci := 5) (q0 := 15) rfl rfl) [15, 16, 17] [0, 1, 2, 3, 4, 5, 6, 7, 8, 9, 10, 11, 12, 13, 14] (wK g cA t s y d q k) rfl (by decide +kernel) rfl (wr := List.filterMap (fun i => (wK g cA t s y d q k)[i]?) [0, 1, 2, 3, 4, 5, 6, 7, 8, 9, 10, 11, 12, 13, 14]) rfl rfl (by decide +kernel) rfl (by decide +kernel) [g 0, g 1, g 2, g 3, g 4, g 5, g 6, g 7, g 8, g 9, g 10, g 11, g 12, g 13, g 14, g 15, g 16, g 17] rfl rfl (fun _ _ _ _ h => h) (fun _ _ _ => trivial) (fun H locs hP hD hS => ?_)
      have hP : va_P D vwCl (wK g cA t s y d q k) H := hP
      have hD : va_D A (wK g cA t s y d q k) := hD
      refine lv_if_eq (tgt := 45) hx hb dX4_structure_39 (by decide) (fun c12 => ?_) (fun c12 => ?_)
      · have hE := if_t c12 hE
        exact w45  y q H locs ls hP hD hS (lv_sub hl [0, 1] rfl) hE
      · have hE := if_f c12 hE
        refine lv_bipush (v := (-22)) hx hb dX4_structure_42 (by decide +kernel) ?_
        obtain rfl := Option.some.inj hE
        exact rt_i hx hb hr hP hS rfl hlocks dX4_structure_44
  suffices main : ∀ (H : Heap) (locs : List Loc) (ls : Array Slot), va_P D vwCl (wK g cA t s y d q k) H → va_D A (wK g cA t s y d q k) → va_S A S0.heap H locs → lv_has ls 3 [(0, .ref (g 0)), (1, .ref (ad w1))] → W PP l EE (headSpec wsX4_structure ({ frames := 3, cells := 0, slots := 0, locals := 67 })).room S0 MM (#[.ref (g 0), .ref (ad w1)] : Array Value) below meth CC H locs 0 0 (MQ below (cQi D (wK g cA t s u.2.1 d u.2.2 k) A u.1) (#[.ref (g 0), .ref (ad w1)] : Array Value) S0 0 0 A) (F0 MM 0 ls []) from main _ _ _ hP hD hS hl
  intro H locs ls hP hD hS hl
  refine lv_aload_n hx hb dX4_structure_0 rfl (lv_at hl 0 rfl) ?_
  refine lv_aload_n hx hb dX4_structure_1 rfl (lv_at hl 1 rfl) ?_
  obtain ⟨u1, h2, hE⟩ := bd_some hE
  refine cw_i (As := [.ref (ad w1)]) (rest := []) (r := u1) (wc := (wK g cA t s y d q k)) ⟨hx, hb, hml, hown, hts⟩ (c_X4_openThingFor l D cA ad adK adV tA tS g H.size w1 t s y d q k u1 h2) (cwV 1 hts hX4_structure_X4_openThingFor_152 rfl rfl rfl (by decide +kernel) ⟨Nat.le_of_ble_eq_true rfl, Nat.le_of_ble_eq_true rfl⟩) rfl hl.1 rfl (Nat.le_of_ble_eq_true rfl) dX4_structure_2 ⟨Nat.zero_le _, Nat.zero_le _⟩ hK hP hD hS hA (va_recv hK hP (ci := 3) (q0 := 0) rfl rfl) [g 0, g 1, g 2, g 3, g 4, g 5, g 6, g 7, g 8, g 9, g 10, g 11, g 12, g 13, g 14, g 15, g 16, g 17] rfl rfl (fun a U g mk h => SX.blind a U g mk h) (fun U hU hW => SX.call hX hS (fun q h => h.elim (fun ⟨k, e, h⟩ => hD.2 k (q, e) h) (fun h => hA q (Nat.le_trans hS.1 h))) U hU hW) (fun H locs hP hD hS => ?_)
  have hP : va_P D vwCl (wK g cA t s y d q k) H := hP
  have hD : va_D A (wK g cA t s y d q k) := hD
  refine lv_istore_n (lv' := [(2, .int u1), (0, .ref (g 0)), (1, .ref (ad w1))]) hx hb dX4_structure_5 rfl hl (by decide) rfl (fun ls hl => ?_)
  refine lv_iload_n hx hb dX4_structure_6 rfl (lv_at hl 0 rfl) ?_
  refine lv_if_eq (tgt := 24) hx hb dX4_structure_7 (by decide) (fun c3 => ?_) (fun c3 => ?_)
  · have hE := if_t c3 hE
    exact w24  y q H locs ls hP hD hS (lv_sub hl [1, 2] rfl) hE
  · have hE := if_f c3 hE
    refine lv_aload_n hx hb dX4_structure_10 rfl (lv_at hl 1 rfl) ?_
    refine va_get (D := D) (ci := 3) (v := .ref (g 15)) (C := RX4) (T := TX4) (N := 6) hx hb hts inX4 hown hK hP 0 rfl rfl 4 (by decide) k0 (fun _ h9 => h9) rfl dX4_structure_11 ?_
    obtain ⟨u4, h5, hE⟩ := bd_some hE
    refine cn_i (As := []) (rest := []) (r := u4) (w0 := (wK g cA t s y d q k)) (N := 18) ⟨hx, hb, hml, hown, hts⟩ (c_X6_latestSort l D cA (g 15) (g 16) (g 17) H.size q u4 h5) (cwV 0 hts hX4_structure_X6_latestSort_156 rfl rfl rfl (by decide +kernel) ⟨Nat.le_of_ble_eq_true rfl, Nat.le_of_ble_eq_true rfl⟩) rfl hl.1 rfl (Nat.le_of_ble_eq_true rfl) dX4_structure_14 ⟨Nat.zero_le _, Nat.zero_le _⟩ hK hP hD hS hA (va_recv hK hP (ci := 5) (q0 := 15) rfl rfl) [15, 16, 17] [0, 1, 2, 3, 4, 5, 6, 7, 8, 9, 10, 11, 12, 13, 14] (wK g cA t s y d q k) rfl (by decide +kernel) rfl (wr := List.filterMap (fun i => (wK g cA t s y d q k)[i]?) [0, 1, 2, 3, 4, 5, 6, 7, 8, 9, 10, 11, 12, 13, 14]) rfl rfl (by decide +kernel) rfl (by decide +kernel) [g 0, g 1, g 2, g 3, g 4, g 5, g 6, g 7, g 8, g 9, g 10, g 11, g 12, g 13, g 14, g 15, g 16, g 17] rfl rfl (fun _ _ _ _ h => h) (fun _ _ _ => trivial) (fun H locs hP hD hS => ?_)
    have hP : va_P D vwCl (wK g cA t s y d q k) H := hP
    have hD : va_D A (wK g cA t s y d q k) := hD
    refine lv_iload_n hx hb dX4_structure_17 rfl (lv_at hl 0 rfl) ?_
    refine lv_icmp_eq (tgt := 24) hx hb dX4_structure_18 (by decide) (fun c6 => ?_) (fun c6 => ?_)
    · have hE := if_t c6 hE
      exact w24  y q H locs ls hP hD hS (lv_sub hl [1, 2] rfl) hE
    · have hE := if_f c6 hE
      refine lv_bipush (v := (-22)) hx hb dX4_structure_21 (by decide +kernel) ?_
      obtain rfl := Option.some.inj hE
      exact rt_i hx hb hr hP hS rfl hlocks dX4_structure_23
