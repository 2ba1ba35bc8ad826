set_option maxRecDepth 20000 in
theorem hX3_useMemory_X8_put_120 : GoodIn wsX3_useMemory (wsV RX3 120 RX8 yX8_put wsX8_put) := goodIn_r _ [11, 12, 13, 14, 15, 16, 17, 18, 87, 88, 89] rfl (by decide +kernel)
set_option maxRecDepth 20000 in
theorem hX3_useMemory_X8_fromTop_212 : GoodIn wsX3_useMemory (wsV RX3 212 RX8 yX8_fromTop wsX8_fromTop) := goodIn_r _ [19, 20, 21, 14, 22, 16, 18, 87, 88, 89] rfl (by decide +kernel)
set_option maxRecDepth 20000 in
theorem hX3_useMemory_X5_append_159 : GoodIn wsX3_useMemory (wsV RX3 159 RX5 yX5_append wsX5_append) := goodIn_r _ [23, 24, 25, 26, 27, 28, 29, 30, 31, 32, 26, 33, 85, 86] rfl (by decide +kernel)
set_option maxRecDepth 20000 in
theorem hX3_useMemory_X8_dropOneUnless_342 : GoodIn wsX3_useMemory (wsV RX3 342 RX8 yX8_dropOneUnless wsX8_dropOneUnless) := goodIn_r _ [34, 35, 36, 14, 37, 38, 39, 40, 14, 41, 16, 87, 88, 89] rfl (by decide +kernel)
set_option maxRecDepth 20000 in
theorem hX3_useMemory_X5_allot_345 : GoodIn wsX3_useMemory (wsV RX3 345 RX5 yX5_allot wsX5_allot) := goodIn_r _ [42, 43, 44, 26, 45, 29, 85, 86] rfl (by decide +kernel)
set_option maxRecDepth 20000 in
theorem hX3_useMemory_X3_useCell_348 : GoodIn wsX3_useMemory (wsV RX3 348 RX3 yX3_useCell wsX3_useCell) := goodIn_r _ [46, 47, 48, 49, 50, 3, 51, 2, 52, 53, 54, 55, 26, 56, 57, 58, 59, 60, 28, 61, 62, 63, 64, 14, 65, 16, 18, 19, 20, 21, 22, 66, 67, 68, 69, 70, 39, 40, 41, 71, 72, 73, 74, 75, 76, 77, 78, 79, 80, 81, 82, 83, 84, 85, 86, 87, 88, 89] rfl (by decide +kernel)
set_option maxHeartbeats 4000000 in
set_option maxRecDepth 100000 in
theorem c_X3_useMemory (l : Launch) (D : va_G) (cA : Nat → ClassId) (ad adK adV : Nat → Nat) (tA tS : Nat) (g : Nat → Nat) (sz : Nat) (w1 : Nat) (t : tT) (s : tR) (y : tY) (d : tD) (q : tP) (k : tK) (r : tR) (c : tC) (o : tO) (m : tM) (u : Int32 × tR × tY) (hE : f_X3_useMemory w1 s y = some u) : Met l yX3_useMemory wsX3_useMemory ({ frames := 3, cells := 0, slots := 0, locals := 66 }) (va_Pc [.ref (g 0), .ref (ad w1)] (PRE D cA (wM g cA t s y d q k r c o m) sz (fun U => SX ad adK adV tA tS (va_A (wM g cA t s y d q k r c o m) sz) U U.heap))) (cQi D (wM g cA t u.2.1 u.2.2 d q k r c o m) (va_A (wM g cA t s y d q k r c o m) sz) u.1) 0 0 (va_A (wM g cA t s y d q k r c o m) sz) := by
  refine Met.ofW (cc := cX3_useMemory) (maxL := 2) (ret := (some .int)) (by decide) rfl ?_
  intro PP EE S0 MM args below meth CC S1 B hml hv
  obtain ⟨rfl, hsz, hP, hK, hD0, hX⟩ := hv
  have hx := B.exec
  have hb := B.bytes
  have hr := B.returns
  have hts := atoms_spec (ws := wsX3_useMemory) B.pre
  have hown : S0.vm.findClass RX3 = some MM.cls := findClass_of_methodNamed B.named
  have hlocks := B.notSynchronized
  subst hsz
  have hD := hD0.self (sz := S0.heap.size)
  have hX : SX ad adK adV tA tS (va_A (wM g cA t s y d q k r c o m) S0.heap.size) S0 S0.heap := hX
  generalize hAe : va_A (wM g cA t s y d q k r c o m) S0.heap.size = A at hD hX ⊢
  have hA : ∀ q : Nat, S0.heap.size ≤ q → A q := fun q h => by rw [← hAe]; exact Or.inr h
  have hS : va_S A S0.heap S0.heap [] := va_S.rf
  have k0 := hts (.fieldLink RX3 279 "WordForge$1" "$SwitchMap$WordForge$Word" "[I") (List.mem_of_getElem? (i := 1) rfl)
  have k1 := hts (.fieldLink RX3 23 "WordForge$Machine" "stack" "LWordForge$Row;") (List.mem_of_getElem? (i := 2) rfl)
  have inX3 : ∀ w ∈ wsX30, w ∈ wsX3_useMemory := fun _ h => List.mem_cons_of_mem _ (List.mem_append_left _ (List.mem_append_left _ (List.mem_append_right _ h)))
  have k3 := hts (.fieldLink RX3 33 "WordForge$Machine" "memory" "LWordForge$Memory;") (List.mem_of_getElem? (i := 3) rfl)
  have k4 := hX.nest (.fieldLinkNest RX3 339 "WordForge$Memory" "here" "I" "WordForge") (List.mem_of_getElem? (i := 6) rfl)
  have inX5 : ∀ w ∈ wsX50, w ∈ wsX3_useMemory := fun _ h => List.mem_cons_of_mem _ (List.mem_append_left _ (List.mem_append_right _ h))
  have hl := lv_entry ([.ref (g 0), .ref (ad w1)]) (n := 2) (Nat.le_of_ble_eq_true rfl)
  rw [lg_entry_eq]
  generalize (lg_sl ([.ref (g 0), .ref (ad w1)]) ++ List.replicate (2 - (lg_sl ([.ref (g 0), .ref (ad w1)])).length) Slot.unset).toArray = ls at hl ⊢
  have hl : lv_has ls 2 [(0, .ref (g 0)), (1, .ref (ad w1))] := hl
  unfold f_X3_useMemory at hE
  have ⟨hw1, hE⟩ := ck_some hE
  suffices main : ∀ (H : Heap) (locs : List Loc) (ls : Array Slot), va_P D vwCl (wM g cA t s y d q k r c o m) H → va_D A (wM g cA t s y d q k r c o m) → va_S A S0.heap H locs → lv_has ls 2 [(0, .ref (g 0)), (1, .ref (ad w1))] → W PP l EE (headSpec wsX3_useMemory ({ frames := 3, cells := 0, slots := 0, locals := 66 })).room S0 MM (#[.ref (g 0), .ref (ad w1)] : Array Value) below meth CC H locs 0 0 (MQ below (cQi D (wM g cA t u.2.1 u.2.2 d q k r c o m) A u.1) (#[.ref (g 0), .ref (ad w1)] : Array Value) S0 0 0 A) (F0 MM 0 ls []) from main _ _ _ hP hD hS hl
  intro H locs ls hP hD hS hl
  refine va_gets hx hb hX.2.2.2.1 hS hown k0 (fun _ h9 => h9) dX3_useMemory_0 ?_
  refine lv_aload_n hx hb dX3_useMemory_3 rfl (lv_at hl 1 rfl) ?_
  refine cu_i (As := []) (rest := [.ref tS]) (r := wV_ordinal.getD w1 0) ⟨hx, hb, hml, hown, hts⟩ (c_ordinal l w1 (ad w1) H.size) (va_cwU 0 hts gX3_useMemory_Jx29ce0_ordinal_8abf5_u284X10 rfl rfl rfl rfl (by decide +kernel) ⟨Nat.le_of_ble_eq_true rfl, Nat.le_of_ble_eq_true rfl⟩) rfl hl.1 rfl (Nat.le_of_ble_eq_true rfl) dX3_useMemory_4 ⟨Nat.zero_le _, Nat.zero_le _⟩ hP hD hS hA (recvO (hX.2.2.2.2.2.2.1 w1 hw1).2.1 hS) PO_blind (PO_call ((hX.2.2.2.2.2.2.1 w1 hw1).2.2.1 ("java/lang/Enum", "ordinal", "I", wV_ordinal) (List.mem_of_getElem? (i := 0) rfl)) hS hA) (fun H locs hP hD hS => ?_)
  have ⟨c1, hE⟩ := ck_some hE
  refine va_ti hx hb hX.2.2.2.2.1 hS c1 rfl dX3_useMemory_7 ?_
  by_cases c2 : (swm ((wV_ordinal.getD w1 0).toNatClampNeg)) = 58
  · have hE := if_t c2 hE
    refine lv_tableIn (tgt := 36) (off := 28) hx hb dX3_useMemory_8 (by rw [c2]; decide +kernel) (by rw [c2]; decide +kernel) (by rw [c2]; decide +kernel) (by decide) ?_
    refine lv_aload_n hx hb dX3_useMemory_36 rfl (lv_at hl 0 rfl) ?_
    refine va_get (D := D) (ci := 2) (v := .ref (g 4)) (C := RX3) (T := TX3) (N := 14) hx hb hts inX3 hown hK hP 0 rfl rfl 1 (by decide) k1 (fun _ h9 => h9) rfl dX3_useMemory_37 ?_
    refine lv_aload_n hx hb dX3_useMemory_40 rfl (lv_at hl 0 rfl) ?_
    refine va_get (D := D) (ci := 2) (v := .ref (g 6)) (C := RX3) (T := TX3) (N := 14) hx hb hts inX3 hown hK hP 0 rfl rfl 3 (by decide) k3 (fun _ h9 => h9) rfl dX3_useMemory_41 ?_
    refine va_getN (D := D) (ci := 4) (v := .int y.1) (C := RX5) (T := TX5) (N := 2) hx hb hts inX5 hown hK hP 6 rfl rfl 1 (by decide) (k4 _) (fun _ h9 => h9) rfl dX3_useMemory_44 ?_
    obtain ⟨u3, h4, hE⟩ := bd_some hE
    refine cn_i (As := [.int y.1]) (rest := []) (r := u3.1) (w0 := (wM g cA t s y d q k r c o m)) (N := 28) ⟨hx, hb, hml, hown, hts⟩ (c_X8_put l D cA (g 4) (g 5) H.size y.1 (-3) s u3 h4) (cwV 1 hts hX3_useMemory_X8_put_120 rfl rfl rfl (by decide +kernel) ⟨Nat.le_of_ble_eq_true rfl, Nat.le_of_ble_eq_true rfl⟩) rfl hl.1 rfl (Nat.le_of_ble_eq_true rfl) dX3_useMemory_47 ⟨Nat.zero_le _, Nat.zero_le _⟩ hK hP hD hS hA (va_recv hK hP (ci := 7) (q0 := 4) rfl rfl) [4, 5] [0, 1, 2, 3, 6, 7, 8, 9, 10, 11, 12, 13, 14, 15, 16, 17, 18, 19, 20, 21, 22, 23, 24, 25, 26, 27] (wM g cA t u3.2 y d q k r c o m) rfl (by decide +kernel) rfl (wr := List.filterMap (fun i => (wM g cA t s y d q k r c o m)[i]?) [0, 1, 2, 3, 6, 7, 8, 9, 10, 11, 12, 13, 14, 15, 16, 17, 18, 19, 20, 21, 22, 23, 24, 25, 26, 27]) rfl rfl (by decide +kernel) rfl (by decide +kernel) [g 0, g 1, g 2, g 3, g 4, g 5, g 6, g 7, g 8, g 9, g 10, g 11, g 12, g 13, g 14, g 15, g 16, g 17, g 18, g 19, g 20, g 21, g 22, g 23, g 24, g 25, g 26, g 27] rfl rfl (fun _ _ _ _ h => h) (fun _ _ _ => trivial) (fun H locs hP hD hS => ?_)
    have hP : va_P D vwCl (wM g cA t u3.2 y d q k r c o m) H := hP
    have hD : va_D A (wM g cA t u3.2 y d q k r c o m) := hD
    obtain rfl := Option.some.inj hE
    exact rt_i hx hb hr hP hS rfl hlocks dX3_useMemory_50
  have hE := if_f c2 hE
  by_cases c5 : (swm ((wV_ordinal.getD w1 0).toNatClampNeg)) = 59
  · have hE := if_t c5 hE
    refine lv_tableIn (tgt := 51) (off := 43) hx hb dX3_useMemory_8 (by rw [c5]; decide +kernel) (by rw [c5]; decide +kernel) (by rw [c5]; decide +kernel) (by decide) ?_
    refine lv_aload_n hx hb dX3_useMemory_51 rfl (lv_at hl 0 rfl) ?_
    refine va_get (D := D) (ci := 2) (v := .ref (g 4)) (C := RX3) (T := TX3) (N := 14) hx hb hts inX3 hown hK hP 0 rfl rfl 1 (by decide) k1 (fun _ h9 => h9) rfl dX3_useMemory_52 ?_
    refine lv_aload_n hx hb dX3_useMemory_55 rfl (lv_at hl 0 rfl) ?_
    refine va_get (D := D) (ci := 2) (v := .ref (g 6)) (C := RX3) (T := TX3) (N := 14) hx hb hts inX3 hown hK hP 0 rfl rfl 3 (by decide) k3 (fun _ h9 => h9) rfl dX3_useMemory_56 ?_
    refine lv_aload_n hx hb dX3_useMemory_59 rfl (lv_at hl 0 rfl) ?_
    refine va_get (D := D) (ci := 2) (v := .ref (g 4)) (C := RX3) (T := TX3) (N := 14) hx hb hts inX3 hown hK hP 0 rfl rfl 1 (by decide) k1 (fun _ h9 => h9) rfl dX3_useMemory_60 ?_
    refine lv_iconst (v := 0) hx hb dX3_useMemory_63 (by decide +kernel) ?_
    obtain ⟨u6, h7, hE⟩ := bd_some hE
    refine cn_i (As := [.int 0]) (rest := [.ref (g 6), .ref (g 4)]) (r := u6) (w0 := (wM g cA t s y d q k r c o m)) (N := 28) ⟨hx, hb, hml, hown, hts⟩ (c_X8_fromTop l D cA (g 4) (g 5) H.size 0 (-3) s u6 h7) (cwV 1 hts hX3_useMemory_X8_fromTop_212 rfl rfl rfl (by decide +kernel) ⟨Nat.le_of_ble_eq_true rfl, Nat.le_of_ble_eq_true rfl⟩) rfl hl.1 rfl (Nat.le_of_ble_eq_true rfl) dX3_useMemory_64 ⟨Nat.zero_le _, Nat.zero_le _⟩ hK hP hD hS hA (va_recv hK hP (ci := 7) (q0 := 4) rfl rfl) [4, 5] [0, 1, 2, 3, 6, 7, 8, 9, 10, 11, 12, 13, 14, 15, 16, 17, 18, 19, 20, 21, 22, 23, 24, 25, 26, 27] (wM g cA t s y d q k r c o m) rfl (by decide +kernel) rfl (wr := List.filterMap (fun i => (wM g cA t s y d q k r c o m)[i]?) [0, 1, 2, 3, 6, 7, 8, 9, 10, 11, 12, 13, 14, 15, 16, 17, 18, 19, 20, 21, 22, 23, 24, 25, 26, 27]) rfl rfl (by decide +kernel) rfl (by decide +kernel) [g 0, g 1, g 2, g 3, g 4, g 5, g 6, g 7, g 8, g 9, g 10, g 11, g 12, g 13, g 14, g 15, g 16, g 17, g 18, g 19, g 20, g 21, g 22, g 23, g 24, g 25, g 26, g 27] rfl rfl (fun _ _ _ _ h => h) (fun _ _ _ => trivial) (fun H locs hP hD hS => ?_)
    have hP : va_P D vwCl (wM g cA t s y d q k r c o m) H := hP
    have hD : va_D A (wM g cA t s y d q k r c o m) := hD
    obtain ⟨u8, h9, hE⟩ := bd_some hE
    refine cn_i (As := [.int u6]) (rest := [.ref (g 4)]) (r := u8.1) (w0 := (wM g cA t s y d q k r c o m)) (N := 28) ⟨hx, hb, hml, hown, hts⟩ (c_X5_append l D cA (g 6) (g 7) H.size u6 y u8 h9) (cwV 1 hts hX3_useMemory_X5_append_159 rfl rfl rfl (by decide +kernel) ⟨Nat.le_of_ble_eq_true rfl, Nat.le_of_ble_eq_true rfl⟩) rfl hl.1 rfl (Nat.le_of_ble_eq_true rfl) dX3_useMemory_67 ⟨Nat.zero_le _, Nat.zero_le _⟩ hK hP hD hS hA (va_recv hK hP (ci := 4) (q0 := 6) rfl rfl) [6, 7] [0, 1, 2, 3, 4, 5, 8, 9, 10, 11, 12, 13, 14, 15, 16, 17, 18, 19, 20, 21, 22, 23, 24, 25, 26, 27] (wM g cA t s u8.2 d q k r c o m) rfl (by decide +kernel) rfl (wr := List.filterMap (fun i => (wM g cA t s y d q k r c o m)[i]?) [0, 1, 2, 3, 4, 5, 8, 9, 10, 11, 12, 13, 14, 15, 16, 17, 18, 19, 20, 21, 22, 23, 24, 25, 26, 27]) rfl rfl (by decide +kernel) rfl (by decide +kernel) [g 0, g 1, g 2, g 3, g 4, g 5, g 6, g 7, g 8, g 9, g 10, g 11, g 12, g 13, g 14, g 15, g 16, g 17, g 18, g 19, g 20, g 21, g 22, g 23, g 24, g 25, g 26, g 27] rfl rfl (fun _ _ _ _ h => h) (fun _ _ _ => trivial) (fun H locs hP hD hS => ?_)
    have hP : va_P D vwCl (wM g cA t s u8.2 d q k r c o m) H := hP
    have hD : va_D A (wM g cA t s u8.2 d q k r c o m) := hD
    obtain ⟨u10, h11, hE⟩ := bd_some hE
    refine cn_i (As := [.int u8.1]) (rest := []) (r := u10.1) (w0 := (wM g cA t s u8.2 d q k r c o m)) (N := 28) ⟨hx, hb, hml, hown, hts⟩ (c_X8_dropOneUnless l D cA (g 4) (g 5) H.size u8.1 (-3) s u10 h11) (cwV 1 hts hX3_useMemory_X8_dropOneUnless_342 rfl rfl rfl (by decide +kernel) ⟨Nat.le_of_ble_eq_true rfl, Nat.le_of_ble_eq_true rfl⟩) rfl hl.1 rfl (Nat.le_of_ble_eq_true rfl) dX3_useMemory_70 ⟨Nat.zero_le _, Nat.zero_le _⟩ hK hP hD hS hA (va_recv hK hP (ci := 7) (q0 := 4) rfl rfl) [4, 5] [0, 1, 2, 3, 6, 7, 8, 9, 10, 11, 12, 13, 14, 15, 16, 17, 18, 19, 20, 21, 22, 23, 24, 25, 26, 27] (wM g cA t u10.2 u8.2 d q k r c o m) rfl (by decide +kernel) rfl (wr := List.filterMap (fun i => (wM g cA t s u8.2 d q k r c o m)[i]?) [0, 1, 2, 3, 6, 7, 8, 9, 10, 11, 12, 13, 14, 15, 16, 17, 18, 19, 20, 21, 22, 23, 24, 25, 26, 27]) rfl rfl (by decide +kernel) rfl (by decide +kernel) [g 0, g 1, g 2, g 3, g 4, g 5, g 6, g 7, g 8, g 9, g 10, g 11, g 12, g 13, g 14, g 15, g 16, g 17, g 18, g 19, g 20, g 21, g 22, g 23, g 24, g 25, g 26, g 27] rfl rfl (fun _ _ _ _ h => h) (fun _ _ _ => trivial) (fun H locs hP hD hS => ?_)
    have hP : va_P D vwCl (wM g cA t u10.2 u8.2 d q k r c o m) H := hP
    have hD : va_D A (wM g cA t u10.2 u8.2 d q k r c o m) := hD
    obtain rfl := Option.some.inj hE
    exact rt_i hx hb hr hP hS rfl hlocks dX3_useMemory_73
  have hE := if_f c5 hE
  by_cases c12 : (swm ((wV_ordinal.getD w1 0).toNatClampNeg)) = 60
  · have hE := if_t c12 hE
    refine lv_tableIn (tgt := 74) (off := 66) hx hb dX3_useMemory_8 (by rw [c12]; decide +kernel) (by rw [c12]; decide +kernel) (by rw [c12]; decide +kernel) (by decide) ?_
    refine lv_aload_n hx hb dX3_useMemory_74 rfl (lv_at hl 0 rfl) ?_
    refine va_get (D := D) (ci := 2) (v := .ref (g 4)) (C := RX3) (T := TX3) (N := 14) hx hb hts inX3 hown hK hP 0 rfl rfl 1 (by decide) k1 (fun _ h9 => h9) rfl dX3_useMemory_75 ?_
    refine lv_aload_n hx hb dX3_useMemory_78 rfl (lv_at hl 0 rfl) ?_
    refine va_get (D := D) (ci := 2) (v := .ref (g 6)) (C := RX3) (T := TX3) (N := 14) hx hb hts inX3 hown hK hP 0 rfl rfl 3 (by decide) k3 (fun _ h9 => h9) rfl dX3_useMemory_79 ?_
    refine lv_aload_n hx hb dX3_useMemory_82 rfl (lv_at hl 0 rfl) ?_
    refine va_get (D := D) (ci := 2) (v := .ref (g 4)) (C := RX3) (T := TX3) (N := 14) hx hb hts inX3 hown hK hP 0 rfl rfl 1 (by decide) k1 (fun _ h9 => h9) rfl dX3_useMemory_83 ?_
    refine lv_iconst (v := 0) hx hb dX3_useMemory_86 (by decide +kernel) ?_
    obtain ⟨u13, h14, hE⟩ := bd_some hE
    refine cn_i (As := [.int 0]) (rest := [.ref (g 6), .ref (g 4)]) (r := u13) (w0 := (wM g cA t s y d q k r c o m)) (N := 28) ⟨hx, hb, hml, hown, hts⟩ (c_X8_fromTop l D cA (g 4) (g 5) H.size 0 (-3) s u13 h14) (cwV 1 hts hX3_useMemory_X8_fromTop_212 rfl rfl rfl (by decide +kernel) ⟨Nat.le_of_ble_eq_true rfl, Nat.le_of_ble_eq_true rfl⟩) rfl hl.1 rfl (Nat.le_of_ble_eq_true rfl) dX3_useMemory_87 ⟨Nat.zero_le _, Nat.zero_le _⟩ hK hP hD hS hA (va_recv hK hP (ci := 7) (q0 := 4) rfl rfl) [4, 5] [0, 1, 2, 3, 6, 7, 8, 9, 10, 11, 12, 13, 14, 15, 16, 17, 18, 19, 20, 21, 22, 23, 24, 25, 26, 27] (wM g cA t s y d q k r c o m) rfl (by decide +kernel) rfl (wr := List.filterMap (fun i => (wM g cA t s y d q k r c o m)[i]?) [0, 1, 2, 3, 6, 7, 8, 9, 10, 11, 12, 13, 14, 15, 16, 17, 18, 19, 20, 21, 22, 23, 24, 25, 26, 27]) rfl rfl (by decide +kernel) rfl (by decide +kernel) [g 0, g 1, g 2, g 3, g 4, g 5, g 6, g 7, g 8, g 9, g 10, g 11, g 12, g 13, g 14, g 15, g 16, g 17, g 18, g 19, g 20, g 21, g 22, g 23, g 24, g 25, g 26, g 27] rfl rfl (fun _ _ _ _ h => h) (fun _ _ _ => trivial) (fun H locs hP hD hS => ?_)
    have hP : va_P D vwCl (wM g cA t s y d q k r c o m) H := hP
    have hD : va_D A (wM g cA t s y d q k r c o m) := hD
    obtain ⟨u15, h16, hE⟩ := bd_some hE
    refine cn_i (As := [.int u13]) (rest := [.ref (g 4)]) (r := u15.1) (w0 := (wM g cA t s y d q k r c o m)) (N := 28) ⟨hx, hb, hml, hown, hts⟩ (c_X5_allot l D cA (g 6) (g 7) H.size u13 y u15 h16) (cwV 1 hts hX3_useMemory_X5_allot_345 rfl rfl rfl (by decide +kernel) ⟨Nat.le_of_ble_eq_true rfl, Nat.le_of_ble_eq_true rfl⟩) rfl hl.1 rfl (Nat.le_of_ble_eq_true rfl) dX3_useMemory_90 ⟨Nat.zero_le _, Nat.zero_le _⟩ hK hP hD hS hA (va_recv hK hP (ci := 4) (q0 := 6) rfl rfl) [6, 7] [0, 1, 2, 3, 4, 5, 8, 9, 10, 11, 12, 13, 14, 15, 16, 17, 18, 19, 20, 21, 22, 23, 24, 25, 26, 27] (wM g cA t s u15.2 d q k r c o m) rfl (by decide +kernel) rfl (wr := List.filterMap (fun i => (wM g cA t s y d q k r c o m)[i]?) [0, 1, 2, 3, 4, 5, 8, 9, 10, 11, 12, 13, 14, 15, 16, 17, 18, 19, 20, 21, 22, 23, 24, 25, 26, 27]) rfl rfl (by decide +kernel) rfl (by decide +kernel) [g 0, g 1, g 2, g 3, g 4, g 5, g 6, g 7, g 8, g 9, g 10, g 11, g 12, g 13, g 14, g 15, g 16, g 17, g 18, g 19, g 20, g 21, g 22, g 23, g 24, g 25, g 26, g 27] rfl rfl (fun _ _ _ _ h => h) (fun _ _ _ => trivial) (fun H locs hP hD hS => ?_)
    have hP : va_P D vwCl (wM g cA t s u15.2 d q k r c o m) H := hP
    have hD : va_D A (wM g cA t s u15.2 d q k r c o m) := hD
    obtain ⟨u17, h18, hE⟩ := bd_some hE
    refine cn_i (As := [.int u15.1]) (rest := []) (r := u17.1) (w0 := (wM g cA t s u15.2 d q k r c o m)) (N := 28) ⟨hx, hb, hml, hown, hts⟩ (c_X8_dropOneUnless l D cA (g 4) (g 5) H.size u15.1 (-3) s u17 h18) (cwV 1 hts hX3_useMemory_X8_dropOneUnless_342 rfl rfl rfl (by decide +kernel) ⟨Nat.le_of_ble_eq_true rfl, Nat.le_of_ble_eq_true rfl⟩) rfl hl.1 rfl (Nat.le_of_ble_eq_true rfl) dX3_useMemory_93 ⟨Nat.zero_le _, Nat.zero_le _⟩ hK hP hD hS hA (va_recv hK hP (ci := 7) (q0 := 4) rfl rfl) [4, 5] [0, 1, 2, 3, 6, 7, 8, 9, 10, 11, 12, 13, 14, 15, 16, 17, 18, 19, 20, 21, 22, 23, 24, 25, 26, 27] (wM g cA t u17.2 u15.2 d q k r c o m) rfl (by decide +kernel) rfl (wr := List.filterMap (fun i => (wM g cA t s u15.2 d q k r c o m)[i]?) [0, 1, 2, 3, 6, 7, 8, 9, 10, 11, 12, 13, 14, 15, 16, 17, 18, 19, 20, 21, 22, 23, 24, 25, 26, 27]) rfl rfl (by decide +kernel) rfl (by decide +kernel) [g 0, g 1, g 2, g 3, g 4, g 5, g 6, g 7, g 8, g 9, g 10, g 11, g 12, g 13, g 14, g 15, g 16, g 17, g 18, g 19, g 20, g 21, g 22, g 23, g 24, g 25, g 26, g 27] rfl rfl (fun _ _ _ _ h => h) (fun _ _ _ => trivial) (fun H locs hP hD hS => ?_)
    have hP : va_P D vwCl (wM g cA t u17.2 u15.2 d q k r c o m) H := hP
    have hD : va_D A (wM g cA t u17.2 u15.2 d q k r c o m) := hD
    obtain rfl := Option.some.inj hE
    exact rt_i hx hb hr hP hS rfl hlocks dX3_useMemory_96
  have hE := if_f c12 hE
  have tc2 := lv_neT c2 (show (58 : Int32).toInt = 58 by decide +kernel)
  have tc5 := lv_neT c5 (show (59 : Int32).toInt = 59 by decide +kernel)
  have tc12 := lv_neT c12 (show (60 : Int32).toInt = 60 by decide +kernel)
  refine lv_tableOut (tgt := 97) hx hb dX3_useMemory_8 (by omega) (by decide) ?_
  refine lv_aload_n hx hb dX3_useMemory_97 rfl (lv_at hl 0 rfl) ?_
  refine lv_aload_n hx hb dX3_useMemory_98 rfl (lv_at hl 1 rfl) ?_
  refine lv_aload_n hx hb dX3_useMemory_99 rfl (lv_at hl 0 rfl) ?_
  refine va_get (D := D) (ci := 2) (v := .ref (g 4)) (C := RX3) (T := TX3) (N := 14) hx hb hts inX3 hown hK hP 0 rfl rfl 1 (by decide) k1 (fun _ h9 => h9) rfl dX3_useMemory_100 ?_
  refine lv_iconst (v := 0) hx hb dX3_useMemory_103 (by decide +kernel) ?_
  obtain ⟨u19, h20, hE⟩ := bd_some hE
  refine cn_i (As := [.int 0]) (rest := [.ref (ad w1), .ref (g 0)]) (r := u19) (w0 := (wM g cA t s y d q k r c o m)) (N := 28) ⟨hx, hb, hml, hown, hts⟩ (c_X8_fromTop l D cA (g 4) (g 5) H.size 0 (-3) s u19 h20) (cwV 1 hts hX3_useMemory_X8_fromTop_212 rfl rfl rfl (by decide +kernel) ⟨Nat.le_of_ble_eq_true rfl, Nat.le_of_ble_eq_true rfl⟩) rfl hl.1 rfl (Nat.le_of_ble_eq_true rfl) dX3_useMemory_104 ⟨Nat.zero_le _, Nat.zero_le _⟩ hK hP hD hS hA (va_recv hK hP (ci := 7) (q0 := 4) rfl rfl) [4, 5] [0, 1, 2, 3, 6, 7, 8, 9, 10, 11, 12, 13, 14, 15, 16, 17, 18, 19, 20, 21, 22, 23, 24, 25, 26, 27] (wM g cA t s y d q k r c o m) rfl (by decide +kernel) rfl (wr := List.filterMap (fun i => (wM g cA t s y d q k r c o m)[i]?) [0, 1, 2, 3, 6, 7, 8, 9, 10, 11, 12, 13, 14, 15, 16, 17, 18, 19, 20, 21, 22, 23, 24, 25, 26, 27]) rfl rfl (by decide +kernel) rfl (by decide +kernel) [g 0, g 1, g 2, g 3, g 4, g 5, g 6, g 7, g 8, g 9, g 10, g 11, g 12, g 13, g 14, g 15, g 16, g 17, g 18, g 19, g 20, g 21, g 22, g 23, g 24, g 25, g 26, g 27] rfl rfl (fun _ _ _ _ h => h) (fun _ _ _ => trivial) (fun H locs hP hD hS => ?_)
  have hP : va_P D vwCl (wM g cA t s y d q k r c o m) H := hP
  have hD : va_D A (wM g cA t s y d q k r c o m) := hD
  obtain ⟨u21, h22, hE⟩ := bd_some hE
  refine cw_i (As := [.ref (ad w1), .int u19]) (rest := []) (r := u21.1) (wc := (wM g cA t s y d q k r c o m)) ⟨hx, hb, hml, hown, hts⟩ (c_X3_useCell l D cA ad adK adV tA tS g H.size w1 u19 t s y d q k r c o m u21 h22) (cwV 2 hts hX3_useMemory_X3_useCell_348 rfl rfl rfl (by decide +kernel) ⟨Nat.le_of_ble_eq_true rfl, Nat.le_of_ble_eq_true rfl⟩) rfl hl.1 rfl (Nat.le_of_ble_eq_true rfl) dX3_useMemory_107 ⟨Nat.zero_le _, Nat.zero_le _⟩ hK hP hD hS hA (va_recv hK hP (ci := 2) (q0 := 0) rfl rfl) [g 0, g 1, g 2, g 3, g 4, g 5, g 6, g 7, g 8, g 9, g 10, g 11, g 12, g 13, g 14, g 15, g 16, g 17, g 18, g 19, g 20, g 21, g 22, g 23, g 24, g 25, g 26, g 27] rfl rfl (fun a U g mk h => SX.blind a U g mk h) (fun U hU hW => SX.call hX hS (fun q h => h.elim (fun ⟨k, e, h⟩ => hD.2 k (q, e) h) (fun h => hA q (Nat.le_trans hS.1 h))) U hU hW) (fun H locs hP hD hS => ?_)
  have hP : va_P D vwCl (wM g cA t u21.2.1 u21.2.2 d q k r c o m) H := hP
  have hD : va_D A (wM g cA t u21.2.1 u21.2.2 d q k r c o m) := hD
  obtain rfl := Option.some.inj hE
  exact rt_i hx hb hr hP hS rfl hlocks dX3_useMemory_110
set_option maxRecDepth 20000 in
theorem hX3_write_X8_take_305 : GoodIn wsX3_write (wsV RX3 305 RX8 yX8_take wsX8_take) := goodIn_r _ [11, 12, 13, 14, 15, 16, 17, 18, 14, 19, 20, 21, 22, 23, 24, 25, 54, 55, 56] rfl (by decide +kernel)
set_option maxRecDepth 20000 in
theorem hX3_write_X7_writeNumber_361 : GoodIn wsX3_write (wsV RX3 361 RX7 yX7_writeNumber wsX7_writeNumber) := goodIn_r _ [26, 27, 28, 29, 30, 31, 32, 33, 34, 35, 29, 36, 37, 38, 57, 58] rfl (by decide +kernel)
set_option maxRecDepth 20000 in
theorem hX3_write_X7_write_364 : GoodIn wsX3_write (wsV RX3 364 RX7 yX7_write wsX7_write) := goodIn_r _ [39, 34, 35, 29, 36, 37, 38, 57, 58] rfl (by decide +kernel)
set_option maxHeartbeats 4000000 in
set_option maxRecDepth 100000 in
theorem c_X3_write (l : Launch) (D : va_G) (cA : Nat → ClassId) (ad adK adV : Nat → Nat) (tA tS : Nat) (g : Nat → Nat) (sz : Nat) (w1 : Nat) (t : tT) (s : tR) (y : tY) (d : tD) (q : tP) (k : tK) (r : tR) (c : tC) (o : tO) (m : tM) (u : Int32 × tR × tO) (hE : f_X3_write w1 s o = some u) : Met l yX3_write wsX3_write ({ frames := 2, cells := 0, slots := 0, locals := 48 }) (va_Pc [.ref (g 0), .ref (ad w1)] (PRE D cA (wM g cA t s y d q k r c o m) sz (fun U => SX ad adK adV tA tS (va_A (wM g cA t s y d q k r c o m) sz) U U.heap))) (cQi D (wM g cA t u.2.1 y d q k r c u.2.2 m) (va_A (wM g cA t s y d q k r c o m) sz) u.1) 0 0 (va_A (wM g cA t s y d q k r c o m) sz) := by
  refine Met.ofW (cc := cX3_write) (maxL := 2) (ret := (some .int)) (by decide) rfl ?_
  intro PP EE S0 MM args below meth CC S1 B hml hv
  obtain ⟨rfl, hsz, hP, hK, hD0, hX⟩ := hv
  have hx := B.exec
  have hb := B.bytes
  have hr := B.returns
  have hts := atoms_spec (ws := wsX3_write) B.pre
  have hown : S0.vm.findClass RX3 = some MM.cls := findClass_of_methodNamed B.named
  have hlocks := B.notSynchronized
  subst hsz
  have hD := hD0.self (sz := S0.heap.size)
  have hX : SX ad adK adV tA tS (va_A (wM g cA t s y d q k r c o m) S0.heap.size) S0 S0.heap := hX
  generalize hAe : va_A (wM g cA t s y d q k r c o m) S0.heap.size = A at hD hX ⊢
  have hA : ∀ q : Nat, S0.heap.size ≤ q → A q := fun q h => by rw [← hAe]; exact Or.inr h
  have hS : va_S A S0.heap S0.heap [] := va_S.rf
  have k0 := hts (.fieldLink RX3 279 "WordForge$1" "$SwitchMap$WordForge$Word" "[I") (List.mem_of_getElem? (i := 1) rfl)
  have k1 := hts (.fieldLink RX3 54 "WordForge$Machine" "written" "LWordForge$Output;") (List.mem_of_getElem? (i := 2) rfl)
  have inX3 : ∀ w ∈ wsX30, w ∈ wsX3_write := fun _ h => List.mem_cons_of_mem _ (List.mem_append_left _ (List.mem_append_left _ (List.mem_append_right _ h)))
  have k3 := hts (.fieldLink RX3 23 "WordForge$Machine" "stack" "LWordForge$Row;") (List.mem_of_getElem? (i := 3) rfl)
  have hl := lv_entry ([.ref (g 0), .ref (ad w1)]) (n := 2) (Nat.le_of_ble_eq_true rfl)
  rw [lg_entry_eq]
  generalize (lg_sl ([.ref (g 0), .ref (ad w1)]) ++ List.replicate (2 - (lg_sl ([.ref (g 0), .ref (ad w1)])).length) Slot.unset).toArray = ls at hl ⊢
  have hl : lv_has ls 2 [(0, .ref (g 0)), (1, .ref (ad w1))] := hl
  unfold f_X3_write at hE
  have ⟨hw1, hE⟩ := ck_some hE
  suffices main : ∀ (H : Heap) (locs : List Loc) (ls : Array Slot), va_P D vwCl (wM g cA t s y d q k r c o m) H → va_D A (wM g cA t s y d q k r c o m) → va_S A S0.heap H locs → lv_has ls 2 [(0, .ref (g 0)), (1, .ref (ad w1))] → W PP l EE (headSpec wsX3_write ({ frames := 2, cells := 0, slots := 0, locals := 48 })).room S0 MM (#[.ref (g 0), .ref (ad w1)] : Array Value) below meth CC H locs 0 0 (MQ below (cQi D (wM g cA t u.2.1 y d q k r c u.2.2 m) A u.1) (#[.ref (g 0), .ref (ad w1)] : Array Value) S0 0 0 A) (F0 MM 0 ls []) from main _ _ _ hP hD hS hl
  intro H locs ls hP hD hS hl
  refine va_gets hx hb hX.2.2.2.1 hS hown k0 (fun _ h9 => h9) dX3_write_0 ?_
  refine lv_aload_n hx hb dX3_write_3 rfl (lv_at hl 1 rfl) ?_
  refine cu_i (As := []) (rest := [.ref tS]) (r := wV_ordinal.getD w1 0) ⟨hx, hb, hml, hown, hts⟩ (c_ordinal l w1 (ad w1) H.size) (va_cwU 0 hts gX3_write_Jx29ce0_ordinal_8abf5_u284X10 rfl rfl rfl rfl (by decide +kernel) ⟨Nat.le_of_ble_eq_true rfl, Nat.le_of_ble_eq_true rfl⟩) rfl hl.1 rfl (Nat.le_of_ble_eq_true rfl) dX3_write_4 ⟨Nat.zero_le _, Nat.zero_le _⟩ hP hD hS hA (recvO (hX.2.2.2.2.2.2.1 w1 hw1).2.1 hS) PO_blind (PO_call ((hX.2.2.2.2.2.2.1 w1 hw1).2.2.1 ("java/lang/Enum", "ordinal", "I", wV_ordinal) (List.mem_of_getElem? (i := 0) rfl)) hS hA) (fun H locs hP hD hS => ?_)
  have ⟨c1, hE⟩ := ck_some hE
  refine va_ti hx hb hX.2.2.2.2.1 hS c1 rfl dX3_write_7 ?_
  by_cases c2 : (swm ((wV_ordinal.getD w1 0).toNatClampNeg)) = 61
  · have hE := if_t c2 hE
    refine lv_lookup (tgt := 36) (off := 28) hx hb dX3_write_8 (by decide +kernel) (by rw [c2]; decide +kernel) (by decide) ?_
    refine lv_aload_n hx hb dX3_write_36 rfl (lv_at hl 0 rfl) ?_
    refine va_get (D := D) (ci := 2) (v := .ref (g 26)) (C := RX3) (T := TX3) (N := 14) hx hb hts inX3 hown hK hP 0 rfl rfl 6 (by decide) k1 (fun _ h9 => h9) rfl dX3_write_37 ?_
    refine lv_aload_n hx hb dX3_write_40 rfl (lv_at hl 0 rfl) ?_
    refine va_get (D := D) (ci := 2) (v := .ref (g 4)) (C := RX3) (T := TX3) (N := 14) hx hb hts inX3 hown hK hP 0 rfl rfl 1 (by decide) k3 (fun _ h9 => h9) rfl dX3_write_41 ?_
    obtain ⟨u3, h4, hE⟩ := bd_some hE
    refine cn_i (As := []) (rest := [.ref (g 26)]) (r := u3.1) (w0 := (wM g cA t s y d q k r c o m)) (N := 28) ⟨hx, hb, hml, hown, hts⟩ (c_X8_take l D cA (g 4) (g 5) H.size (-3) s u3 h4) (cwV 0 hts hX3_write_X8_take_305 rfl rfl rfl (by decide +kernel) ⟨Nat.le_of_ble_eq_true rfl, Nat.le_of_ble_eq_true rfl⟩) rfl hl.1 rfl (Nat.le_of_ble_eq_true rfl) dX3_write_44 ⟨Nat.zero_le _, Nat.zero_le _⟩ hK hP hD hS hA (va_recv hK hP (ci := 7) (q0 := 4) rfl rfl) [4, 5] [0, 1, 2, 3, 6, 7, 8, 9, 10, 11, 12, 13, 14, 15, 16, 17, 18, 19, 20, 21, 22, 23, 24, 25, 26, 27] (wM g cA t u3.2 y d q k r c o m) rfl (by decide +kernel) rfl (wr := List.filterMap (fun i => (wM g cA t s y d q k r c o m)[i]?) [0, 1, 2, 3, 6, 7, 8, 9, 10, 11, 12, 13, 14, 15, 16, 17, 18, 19, 20, 21, 22, 23, 24, 25, 26, 27]) rfl rfl (by decide +kernel) rfl (by decide +kernel) [g 0, g 1, g 2, g 3, g 4, g 5, g 6, g 7, g 8, g 9, g 10, g 11, g 12, g 13, g 14, g 15, g 16, g 17, g 18, g 19, g 20, g 21, g 22, g 23, g 24, g 25, g 26, g 27] rfl rfl (fun _ _ _ _ h => h) (fun _ _ _ => trivial) (fun H locs hP hD hS => ?_)
    have hP : va_P D vwCl (wM g cA t u3.2 y d q k r c o m) H := hP
    have hD : va_D A (wM g cA t u3.2 y d q k r c o m) := hD
    obtain ⟨u5, h6, hE⟩ := bd_some hE
    refine cn_v (As := [.int u3.1]) (rest := []) (w0 := (wM g cA t u3.2 y d q k r c o m)) (N := 28) ⟨hx, hb, hml, hown, hts⟩ (c_X7_writeNumber l D cA (g 26) (g 27) H.size u3.1 o u5 h6) (cwV 1 hts hX3_write_X7_writeNumber_361 rfl rfl rfl (by decide +kernel) ⟨Nat.le_of_ble_eq_true rfl, Nat.le_of_ble_eq_true rfl⟩) rfl hl.1 rfl (Nat.le_of_ble_eq_true rfl) dX3_write_47 ⟨Nat.zero_le _, Nat.zero_le _⟩ hK hP hD hS hA (va_recv hK hP (ci := 6) (q0 := 26) rfl rfl) [26, 27] [0, 1, 2, 3, 4, 5, 6, 7, 8, 9, 10, 11, 12, 13, 14, 15, 16, 17, 18, 19, 20, 21, 22, 23, 24, 25] (wM g cA t u3.2 y d q k r c u5 m) rfl (by decide +kernel) rfl (wr := List.filterMap (fun i => (wM g cA t u3.2 y d q k r c o m)[i]?) [0, 1, 2, 3, 4, 5, 6, 7, 8, 9, 10, 11, 12, 13, 14, 15, 16, 17, 18, 19, 20, 21, 22, 23, 24, 25]) rfl rfl (by decide +kernel) rfl (by decide +kernel) [g 0, g 1, g 2, g 3, g 4, g 5, g 6, g 7, g 8, g 9, g 10, g 11, g 12, g 13, g 14, g 15, g 16, g 17, g 18, g 19, g 20, g 21, g 22, g 23, g 24, g 25, g 26, g 27] rfl rfl (fun _ _ _ _ h => h) (fun _ _ _ => trivial) (fun H locs hP hD hS => ?_)
    have hP : va_P D vwCl (wM g cA t u3.2 y d q k r c u5 m) H := hP
    have hD : va_D A (wM g cA t u3.2 y d q k r c u5 m) := hD
    refine lv_aload_n hx hb dX3_write_50 rfl (lv_at hl 0 rfl) ?_
    refine va_get (D := D) (ci := 2) (v := .ref (g 26)) (C := RX3) (T := TX3) (N := 14) hx hb hts inX3 hown hK hP 0 rfl rfl 6 (by decide) k1 (fun _ h9 => h9) rfl dX3_write_51 ?_
    refine lv_bipush (v := 32) hx hb dX3_write_54 (by decide +kernel) ?_
    obtain ⟨u7, h8, hE⟩ := bd_some hE
    refine cn_v (As := [.int 32]) (rest := []) (w0 := (wM g cA t u3.2 y d q k r c u5 m)) (N := 28) ⟨hx, hb, hml, hown, hts⟩ (c_X7_write l D cA (g 26) (g 27) H.size 32 u5 u7 h8) (cwV 1 hts hX3_write_X7_write_364 rfl rfl rfl (by decide +kernel) ⟨Nat.le_of_ble_eq_true rfl, Nat.le_of_ble_eq_true rfl⟩) rfl hl.1 rfl (Nat.le_of_ble_eq_true rfl) dX3_write_56 ⟨Nat.zero_le _, Nat.zero_le _⟩ hK hP hD hS hA (va_recv hK hP (ci := 6) (q0 := 26) rfl rfl) [26, 27] [0, 1, 2, 3, 4, 5, 6, 7, 8, 9, 10, 11, 12, 13, 14, 15, 16, 17, 18, 19, 20, 21, 22, 23, 24, 25] (wM g cA t u3.2 y d q k r c u7 m) rfl (by decide +kernel) rfl (wr := List.filterMap (fun i => (wM g cA t u3.2 y d q k r c u5 m)[i]?) [0, 1, 2, 3, 4, 5, 6, 7, 8, 9, 10, 11, 12, 13, 14, 15, 16, 17, 18, 19, 20, 21, 22, 23, 24, 25]) rfl rfl (by decide +kernel) rfl (by decide +kernel) [g 0, g 1, g 2, g 3, g 4, g 5, g 6, g 7, g 8, g 9, g 10, g 11, g 12, g 13, g 14, g 15, g 16, g 17, g 18, g 19, g 20, g 21, g 22, g 23, g 24, g 25, g 26, g 27] rfl rfl (fun _ _ _ _ h => h) (fun _ _ _ => trivial) (fun H locs hP hD hS => ?_)
    have hP : va_P D vwCl (wM g cA t u3.2 y d q k r c u7 m) H := hP
    have hD : va_D A (wM g cA t u3.2 y d q k r c u7 m) := hD
    refine lv_iconst (v := 0) hx hb dX3_write_59 (by decide +kernel) ?_
    obtain rfl := Option.some.inj hE
    exact rt_i hx hb hr hP hS rfl hlocks dX3_write_60
  have hE := if_f c2 hE
  by_cases c9 : (swm ((wV_ordinal.getD w1 0).toNatClampNeg)) = 62
  · have hE := if_t c9 hE
    refine lv_lookup (tgt := 61) (off := 53) hx hb dX3_write_8 (by decide +kernel) (by rw [c9]; decide +kernel) (by decide) ?_
    refine lv_aload_n hx hb dX3_write_61 rfl (lv_at hl 0 rfl) ?_
    refine va_get (D := D) (ci := 2) (v := .ref (g 26)) (C := RX3) (T := TX3) (N := 14) hx hb hts inX3 hown hK hP 0 rfl rfl 6 (by decide) k1 (fun _ h9 => h9) rfl dX3_write_62 ?_
    refine lv_aload_n hx hb dX3_write_65 rfl (lv_at hl 0 rfl) ?_
    refine va_get (D := D) (ci := 2) (v := .ref (g 4)) (C := RX3) (T := TX3) (N := 14) hx hb hts inX3 hown hK hP 0 rfl rfl 1 (by decide) k3 (fun _ h9 => h9) rfl dX3_write_66 ?_
    obtain ⟨u10, h11, hE⟩ := bd_some hE
    refine cn_i (As := []) (rest := [.ref (g 26)]) (r := u10.1) (w0 := (wM g cA t s y d q k r c o m)) (N := 28) ⟨hx, hb, hml, hown, hts⟩ (c_X8_take l D cA (g 4) (g 5) H.size (-3) s u10 h11) (cwV 0 hts hX3_write_X8_take_305 rfl rfl rfl (by decide +kernel) ⟨Nat.le_of_ble_eq_true rfl, Nat.le_of_ble_eq_true rfl⟩) rfl hl.1 rfl (Nat.le_of_ble_eq_true rfl) dX3_write_69 ⟨Nat.zero_le _, Nat.zero_le _⟩ hK hP hD hS hA (va_recv hK hP (ci := 7) (q0 := 4) rfl rfl) [4, 5] [0, 1, 2, 3, 6, 7, 8, 9, 10, 11, 12, 13, 14, 15, 16, 17, 18, 19, 20, 21, 22, 23, 24, 25, 26, 27] (wM g cA t u10.2 y d q k r c o m) rfl (by decide +kernel) rfl (wr := List.filterMap (fun i => (wM g cA t s y d q k r c o m)[i]?) [0, 1, 2, 3, 6, 7, 8, 9, 10, 11, 12, 13, 14, 15, 16, 17, 18, 19, 20, 21, 22, 23, 24, 25, 26, 27]) rfl rfl (by decide +kernel) rfl (by decide +kernel) [g 0, g 1, g 2, g 3, g 4, g 5, g 6, g 7, g 8, g 9, g 10, g 11, g 12, g 13, g 14, g 15, g 16, g 17, g 18, g 19, g 20, g 21, g 22, g 23, g 24, g 25, g 26, g 27] rfl rfl (fun _ _ _ _ h => h) (fun _ _ _ => trivial) (fun H locs hP hD hS => ?_)
    have hP : va_P D vwCl (wM g cA t u10.2 y d q k r c o m) H := hP
    have hD : va_D A (wM g cA t u10.2 y d q k r c o m) := hD
    refine lv_bipush (v := 127) hx hb dX3_write_72 (by decide +kernel) ?_
    refine lv_iand hx hb dX3_write_74 ?_
    refine lv_i2c hx hb dX3_write_75 rfl ?_
    obtain ⟨u12, h13, hE⟩ := bd_some hE
    refine cn_v (As := [.int (((u10.1 &&& 127).toUInt32 % 65536).toInt32)]) (rest := []) (w0 := (wM g cA t u10.2 y d q k r c o m)) (N := 28) ⟨hx, hb, hml, hown, hts⟩ (c_X7_write l D cA (g 26) (g 27) H.size (((u10.1 &&& 127).toUInt32 % 65536).toInt32) o u12 h13) (cwV 1 hts hX3_write_X7_write_364 rfl rfl rfl (by decide +kernel) ⟨Nat.le_of_ble_eq_true rfl, Nat.le_of_ble_eq_true rfl⟩) rfl hl.1 rfl (Nat.le_of_ble_eq_true rfl) dX3_write_76 ⟨Nat.zero_le _, Nat.zero_le _⟩ hK hP hD hS hA (va_recv hK hP (ci := 6) (q0 := 26) rfl rfl) [26, 27] [0, 1, 2, 3, 4, 5, 6, 7, 8, 9, 10, 11, 12, 13, 14, 15, 16, 17, 18, 19, 20, 21, 22, 23, 24, 25] (wM g cA t u10.2 y d q k r c u12 m) rfl (by decide +kernel) rfl (wr := List.filterMap (fun i => (wM g cA t u10.2 y d q k r c o m)[i]?) [0, 1, 2, 3, 4, 5, 6, 7, 8, 9, 10, 11, 12, 13, 14, 15, 16, 17, 18, 19, 20, 21, 22, 23, 24, 25]) rfl rfl (by decide +kernel) rfl (by decide +kernel) [g 0, g 1, g 2, g 3, g 4, g 5, g 6, g 7, g 8, g 9, g 10, g 11, g 12, g 13, g 14, g 15, g 16, g 17, g 18, g 19, g 20, g 21, g 22, g 23, g 24, g 25, g 26, g 27] rfl rfl (fun _ _ _ _ h => h) (fun _ _ _ => trivial) (fun H locs hP hD hS => ?_)
    have hP : va_P D vwCl (wM g cA t u10.2 y d q k r c u12 m) H := hP
    have hD : va_D A (wM g cA t u10.2 y d q k r c u12 m) := hD
    refine lv_iconst (v := 0) hx hb dX3_write_79 (by decide +kernel) ?_
    obtain rfl := Option.some.inj hE
    exact rt_i hx hb hr hP hS rfl hlocks dX3_write_80
  have hE := if_f c9 hE
  refine lv_lookup (tgt := 81) (off := 73) hx hb dX3_write_8 (by decide +kernel) (by show Op.lookupswitch.offset _ _ _ = _; rw [lv_osw c2 (show (61 : Int32).toInt = 61 by decide +kernel), lv_osw c9 (show (62 : Int32).toInt = 62 by decide +kernel)]; rfl) (by decide) ?_
  refine lv_aload_n hx hb dX3_write_81 rfl (lv_at hl 0 rfl) ?_
  refine va_get (D := D) (ci := 2) (v := .ref (g 26)) (C := RX3) (T := TX3) (N := 14) hx hb hts inX3 hown hK hP 0 rfl rfl 6 (by decide) k1 (fun _ h9 => h9) rfl dX3_write_82 ?_
  refine lv_bipush (v := 10) hx hb dX3_write_85 (by decide +kernel) ?_
  obtain ⟨u14, h15, hE⟩ := bd_some hE
  refine cn_v (As := [.int 10]) (rest := []) (w0 := (wM g cA t s y d q k r c o m)) (N := 28) ⟨hx, hb, hml, hown, hts⟩ (c_X7_write l D cA (g 26) (g 27) H.size 10 o u14 h15) (cwV 1 hts hX3_write_X7_write_364 rfl rfl rfl (by decide +kernel) ⟨Nat.le_of_ble_eq_true rfl, Nat.le_of_ble_eq_true rfl⟩) rfl hl.1 rfl (Nat.le_of_ble_eq_true rfl) dX3_write_87 ⟨Nat.zero_le _, Nat.zero_le _⟩ hK hP hD hS hA (va_recv hK hP (ci := 6) (q0 := 26) rfl rfl) [26, 27] [0, 1, 2, 3, 4, 5, 6, 7, 8, 9, 10, 11, 12, 13, 14, 15, 16, 17, 18, 19, 20, 21, 22, 23, 24, 25] (wM g cA t s y d q k r c u14 m) rfl (by decide +kernel) rfl (wr := List.filterMap (fun i => (wM g cA t s y d q k r c o m)[i]?) [0, 1, 2, 3, 4, 5, 6, 7, 8, 9, 10, 11, 12, 13, 14, 15, 16, 17, 18, 19, 20, 21, 22, 23, 24, 25]) rfl rfl (by decide +kernel) rfl (by decide +kernel) [g 0, g 1, g 2, g 3, g 4, g 5, g 6, g 7, g 8, g 9, g 10, g 11, g 12, g 13, g 14, g 15, g 16, g 17, g 18, g 19, g 20, g 21, g 22, g 23, g 24, g 25, g 26, g 27] rfl rfl (fun _ _ _ _ h => h) (fun _ _ _ => trivial) (fun H locs hP hD hS => ?_)
  have hP : va_P D vwCl (wM g cA t s y d q k r c u14 m) H := hP
  have hD : va_D A (wM g cA t s y d q k r c u14 m) := hD
  refine lv_iconst (v := 0) hx hb dX3_write_90 (by decide +kernel) ?_
  obtain rfl := Option.some.inj hE
  exact rt_i hx hb hr hP hS rfl hlocks dX3_write_91
set_option maxRecDepth 20000 in
theorem hX3_control_X8_take_305 : GoodIn wsX3_control (wsV RX3 305 RX8 yX8_take wsX8_take) := goodIn_r _ [8, 9, 10, 11, 12, 13, 14, 15, 11, 16, 17, 18, 19, 20, 21, 22, 58, 59, 60] rfl (by decide +kernel)
set_option maxRecDepth 20000 in
theorem hX3_control_X8_fromTop_212 : GoodIn wsX3_control (wsV RX3 212 RX8 yX8_fromTop wsX8_fromTop) := goodIn_r _ [23, 14, 15, 11, 16, 17, 18, 58, 59, 60] rfl (by decide +kernel)
set_option maxRecDepth 20000 in
theorem hX3_control_X2_isWord_184 : GoodIn wsX3_control (wsV RX3 184 RX2 yX2_isWord wsX2_isWord) := goodIn_r _ [24, 25, 26, 27, 28, 29, 61, 62, 63, 64, 65, 66, 67, 68] rfl (by decide +kernel)
set_option maxRecDepth 20000 in
theorem hX3_control_X1_isFull_267 : GoodIn wsX3_control (wsV RX3 267 RX1 yX1_isFull wsX1_isFull) := goodIn_r _ [30, 31, 32, 33, 34, 35, 69, 70, 71, 72, 73] rfl (by decide +kernel)
set_option maxRecDepth 20000 in
theorem hX3_control_X1_addCatch_373 : GoodIn wsX3_control (wsV RX3 373 RX1 yX1_addCatch wsX1_addCatch) := goodIn_r _ [36, 37, 38, 33, 39, 40, 35, 41, 42, 43, 31, 32, 33, 34, 69, 70, 71, 72, 73] rfl (by decide +kernel)
set_option maxHeartbeats 4000000 in
set_option maxRecDepth 100000 in
theorem c_X3_control (l : Launch) (D : va_G) (cA : Nat → ClassId) (ad adK adV : Nat → Nat) (tA tS : Nat) (g : Nat → Nat) (sz : Nat) (w1 : Nat) (t : tT) (s : tR) (y : tY) (d : tD) (q : tP) (k : tK) (r : tR) (c : tC) (o : tO) (m : tM) (u : Int32 × tR × tC × tM) (hE : f_X3_control w1 s d r c m = some u) : Met l yX3_control wsX3_control ({ frames := 2, cells := 0, slots := 0, locals := 42 }) (va_Pc [.ref (g 0), .ref (ad w1)] (PRE D cA (wM g cA t s y d q k r c o m) sz (fun U => SX ad adK adV tA tS (va_A (wM g cA t s y d q k r c o m) sz) U U.heap))) (cQi D (wM g cA t u.2.1 y d q k r u.2.2.1 o u.2.2.2) (va_A (wM g cA t s y d q k r c o m) sz) u.1) 0 0 (va_A (wM g cA t s y d q k r c o m) sz) := by
  refine Met.ofW (cc := cX3_control) (maxL := 2) (ret := (some .int)) (by decide) rfl ?_
  intro PP EE S0 MM args below meth CC S1 B hml hv
  obtain ⟨rfl, hsz, hP, hK, hD0, hX⟩ := hv
  have hx := B.exec
  have hb := B.bytes
  have hr := B.returns
  have hts := atoms_spec (ws := wsX3_control) B.pre
  have hown : S0.vm.findClass RX3 = some MM.cls := findClass_of_methodNamed B.named
  have hlocks := B.notSynchronized
  subst hsz
  have hD := hD0.self (sz := S0.heap.size)
  have hX : SX ad adK adV tA tS (va_A (wM g cA t s y d q k r c o m) S0.heap.size) S0 S0.heap := hX
  generalize hAe : va_A (wM g cA t s y d q k r c o m) S0.heap.size = A at hD hX ⊢
  have hA : ∀ q : Nat, S0.heap.size ≤ q → A q := fun q h => by rw [← hAe]; exact Or.inr h
  have hS : va_S A S0.heap S0.heap [] := va_S.rf
  have k0 := hts (.fieldLink RX3 367 "WordForge$Word" "THROW" "LWordForge$Word;") (List.mem_of_getElem? (i := 1) rfl)
  have k1 : va_Z "WordForge$Word" "THROW" "LWordForge$Word;" (.ref (ad 79)) A S0 S0.heap := (hX.2.2.2.2.2.2.1 79 (by decide)).1
  have k2 := hts (.fieldLink RX3 40 "WordForge$Machine" "dictionary" "LWordForge$Dictionary;") (List.mem_of_getElem? (i := 3) rfl)
  have inX3 : ∀ w ∈ wsX30, w ∈ wsX3_control := fun _ h => List.mem_cons_of_mem _ (List.mem_append_left _ (List.mem_append_left _ (List.mem_append_left _ (List.mem_append_right _ h))))
  have k4 := hts (.fieldLink RX3 23 "WordForge$Machine" "stack" "LWordForge$Row;") (List.mem_of_getElem? (i := 2) rfl)
  have k5 := hts (.fieldLink RX3 370 "WordForge$Word" "CATCH" "LWordForge$Word;") (List.mem_of_getElem? (i := 4) rfl)
  have k6 : va_Z "WordForge$Word" "CATCH" "LWordForge$Word;" (.ref (ad 80)) A S0 S0.heap := (hX.2.2.2.2.2.2.1 80 (by decide)).1
  have k7 := hts (.fieldLink RX3 47 "WordForge$Machine" "calls" "LWordForge$Calls;") (List.mem_of_getElem? (i := 5) rfl)
  have k8 := hX.nest (.fieldLinkNest RX3 144 "WordForge$Row" "size" "I" "WordForge") (List.mem_of_getElem? (i := 2) rfl)
  have inX8 : ∀ w ∈ wsX80, w ∈ wsX3_control := fun _ h => List.mem_cons_of_mem _ (List.mem_append_left _ (List.mem_append_left _ (List.mem_append_right _ h)))
  have k10 := hts (.fieldLink RX3 27 "WordForge$Machine" "store" "LWordForge$Row;") (List.mem_of_getElem? (i := 6) rfl)
  have k11 := hts (.fieldLink RX3 67 "WordForge$Machine" "nextWord" "I") (List.mem_of_getElem? (i := 7) rfl)
  have hl := lv_entry ([.ref (g 0), .ref (ad w1)]) (n := 2) (Nat.le_of_ble_eq_true rfl)
  rw [lg_entry_eq]
  generalize (lg_sl ([.ref (g 0), .ref (ad w1)]) ++ List.replicate (2 - (lg_sl ([.ref (g 0), .ref (ad w1)])).length) Slot.unset).toArray = ls at hl ⊢
  have hl : lv_has ls 2 [(0, .ref (g 0)), (1, .ref (ad w1))] := hl
  unfold f_X3_control at hE
  have ⟨hw1, hE⟩ := ck_some hE
  have w79 : ∀ (s : tR) (d : tD) (r : tR) (c : tC) (m : tM) (H : Heap) (locs : List Loc) (ls : Array Slot), va_P D vwCl (wM g cA t s y d q k r c o m) H → va_D A (wM g cA t s y d q k r c o m) → va_S A S0.heap H locs → lv_has ls 2 [(0, .ref (g 0))] → b_X3_control_79 w1 s d r c m = some u → W PP l EE (headSpec wsX3_control ({ frames := 2, cells := 0, slots := 0, locals := 42 })).room S0 MM (#[.ref (g 0), .ref (ad w1)] : Array Value) below meth CC H locs 0 0 (MQ below (cQi D (wM g cA t u.2.1 y d q k r u.2.2.1 o u.2.2.2) A u.1) (#[.ref (g 0), .ref (ad w1)] : Array Value) S0 0 0 A) (F0 MM 79 ls []) := by
    intro s d r c m
    intro H locs ls hP hD hS hl hE
    unfold b_X3_control_79 at hE
    refine lv_aload_n hx hb dX3_control_79 rfl (lv_at hl 0 rfl) ?_
    refine lv_aload_n hx hb dX3_control_80 rfl (lv_at hl 0 rfl) ?_
    refine va_get (D := D) (ci := 2) (v := .ref (g 4)) (C := RX3) (T := TX3) (N := 14) hx hb hts inX3 hown hK hP 0 rfl rfl 1 (by decide) k4 (fun _ h9 => h9) rfl dX3_control_81 ?_
    obtain ⟨u15, h16, hE⟩ := bd_some hE
    refine cn_i (As := []) (rest := [.ref (g 0)]) (r := u15.1) (w0 := (wM g cA t s y d q k r c o m)) (N := 28) ⟨hx, hb, hml, hown, hts⟩ (c_X8_take l D cA (g 4) (g 5) H.size (-3) s u15 h16) (cwV 0 hts hX3_control_X8_take_305 rfl rfl rfl (by decide +kernel) ⟨Nat.le_of_ble_eq_true rfl, Nat.le_of_ble_eq_true rfl⟩) rfl hl.1 rfl (Nat.le_of_ble_eq_true rfl) dX3_control_84 ⟨Nat.zero_le _, Nat.zero_le _⟩ hK hP hD hS hA (va_recv hK hP (ci := 7) (q0 := 4) rfl rfl) [4, 5] [0, 1, 2, 3, 6, 7, 8, 9, 10, 11, 12, 13, 14, 15, 16, 17, 18, 19, 20, 21, 22, 23, 24, 25, 26, 27] (wM g cA t u15.2 y d q k r c o m) rfl (by decide +kernel) rfl (wr := List.filterMap (fun i => (wM g cA t s y d q k r c o m)[i]?) [0, 1, 2, 3, 6, 7, 8, 9, 10, 11, 12, 13, 14, 15, 16, 17, 18, 19, 20, 21, 22, 23, 24, 25, 26, 27]) rfl rfl (by decide +kernel) rfl (by decide +kernel) [g 0, g 1, g 2, g 3, g 4, g 5, g 6, g 7, g 8, g 9, g 10, g 11, g 12, g 13, g 14, g 15, g 16, g 17, g 18, g 19, g 20, g 21, g 22, g 23, g 24, g 25, g 26, g 27] rfl rfl (fun _ _ _ _ h => h) (fun _ _ _ => trivial) (fun H locs hP hD hS => ?_)
    have hP : va_P D vwCl (wM g cA t u15.2 y d q k r c o m) H := hP
    have hD : va_D A (wM g cA t u15.2 y d q k r c o m) := hD
    refine va_put (D := D) (ci := 2) (v := .int u15.1) (ty := .int) (C := RX3) (T := TX3) (N := 14) hx hb hts inX3 tyX3 tyX3_ok nmX3 hown hK hP hD hS 0 rfl rfl 11 (by decide) k11 (fun _ h9 => h9) rfl (by decide +kernel) rfl rfl (Nat.le_of_ble_eq_true rfl) dX3_control_87 (fun H locs hP hD hS => ?_)
    have hP : va_P D vwCl (wM g cA t u15.2 y d q k r c o ((m.1, m.2.1, m.2.2.1, u15.1, m.2.2.2.2.1, m.2.2.2.2.2))) H := hP
    have hD : va_D A (wM g cA t u15.2 y d q k r c o ((m.1, m.2.1, m.2.2.1, u15.1, m.2.2.2.2.1, m.2.2.2.2.2))) := hD
    refine lv_iconst (v := 0) hx hb dX3_control_90 (by decide +kernel) ?_
    obtain rfl := Option.some.inj hE
    exact rt_i hx hb hr hP hS rfl hlocks dX3_control_91
  suffices main : ∀ (H : Heap) (locs : List Loc) (ls : Array Slot), va_P D vwCl (wM g cA t s y d q k r c o m) H → va_D A (wM g cA t s y d q k r c o m) → va_S A S0.heap H locs → lv_has ls 2 [(0, .ref (g 0)), (1, .ref (ad w1))] → W PP l EE (headSpec wsX3_control ({ frames := 2, cells := 0, slots := 0, locals := 42 })).room S0 MM (#[.ref (g 0), .ref (ad w1)] : Array Value) below meth CC H locs 0 0 (MQ below (cQi D (wM g cA t u.2.1 y d q k r u.2.2.1 o u.2.2.2) A u.1) (#[.ref (g 0), .ref (ad w1)] : Array Value) S0 0 0 A) (F0 MM 0 ls []) from main _ _ _ hP hD hS hl
  intro H locs ls hP hD hS hl
  refine lv_aload_n hx hb dX3_control_0 rfl (lv_at hl 1 rfl) ?_
  refine va_gets hx hb k1 hS hown k0 (fun _ h9 => h9) dX3_control_1 ?_
  refine lv_acmp_ne (rx := some (ad w1)) (ry := some (ad 79)) (tgt := 15) hx hb dX3_control_4 (by decide) (fun c1 => ?_) (fun c1 => ?_)
  · have c1 : ¬ w1 = 79 := fun h => c1 (by rw [h])
    have hE := if_f c1 hE
    refine lv_aload_n hx hb dX3_control_15 rfl (lv_at hl 0 rfl) ?_
    refine va_get (D := D) (ci := 2) (v := .ref (g 8)) (C := RX3) (T := TX3) (N := 14) hx hb hts inX3 hown hK hP 0 rfl rfl 4 (by decide) k2 (fun _ h9 => h9) rfl dX3_control_16 ?_
    refine lv_aload_n hx hb dX3_control_19 rfl (lv_at hl 0 rfl) ?_
    refine va_get (D := D) (ci := 2) (v := .ref (g 4)) (C := RX3) (T := TX3) (N := 14) hx hb hts inX3 hown hK hP 0 rfl rfl 1 (by decide) k4 (fun _ h9 => h9) rfl dX3_control_20 ?_
    refine lv_iconst (v := 0) hx hb dX3_control_23 (by decide +kernel) ?_
    obtain ⟨u2, h3, hE⟩ := bd_some hE
    refine cn_i (As := [.int 0]) (rest := [.ref (g 8)]) (r := u2) (w0 := (wM g cA t s y d q k r c o m)) (N := 28) ⟨hx, hb, hml, hown, hts⟩ (c_X8_fromTop l D cA (g 4) (g 5) H.size 0 (-3) s u2 h3) (cwV 1 hts hX3_control_X8_fromTop_212 rfl rfl rfl (by decide +kernel) ⟨Nat.le_of_ble_eq_true rfl, Nat.le_of_ble_eq_true rfl⟩) rfl hl.1 rfl (Nat.le_of_ble_eq_true rfl) dX3_control_24 ⟨Nat.zero_le _, Nat.zero_le _⟩ hK hP hD hS hA (va_recv hK hP (ci := 7) (q0 := 4) rfl rfl) [4, 5] [0, 1, 2, 3, 6, 7, 8, 9, 10, 11, 12, 13, 14, 15, 16, 17, 18, 19, 20, 21, 22, 23, 24, 25, 26, 27] (wM g cA t s y d q k r c o m) rfl (by decide +kernel) rfl (wr := List.filterMap (fun i => (wM g cA t s y d q k r c o m)[i]?) [0, 1, 2, 3, 6, 7, 8, 9, 10, 11, 12, 13, 14, 15, 16, 17, 18, 19, 20, 21, 22, 23, 24, 25, 26, 27]) rfl rfl (by decide +kernel) rfl (by decide +kernel) [g 0, g 1, g 2, g 3, g 4, g 5, g 6, g 7, g 8, g 9, g 10, g 11, g 12, g 13, g 14, g 15, g 16, g 17, g 18, g 19, g 20, g 21, g 22, g 23, g 24, g 25, g 26, g 27] rfl rfl (fun _ _ _ _ h => h) (fun _ _ _ => trivial) (fun H locs hP hD hS => ?_)
    have hP : va_P D vwCl (wM g cA t s y d q k r c o m) H := hP
    have hD : va_D A (wM g cA t s y d q k r c o m) := hD
    obtain ⟨u4, h5, hE⟩ := bd_some hE
    refine cn_i (As := [.int u2]) (rest := []) (r := u4) (w0 := (wM g cA t s y d q k r c o m)) (N := 28) ⟨hx, hb, hml, hown, hts⟩ (c_X2_isWord l D cA ad adK adV tA tS (g 8) (g 9) (g 10) (g 11) (g 12) (g 13) (g 14) (g 15) H.size u2 d u4 h5) (cwV 1 hts hX3_control_X2_isWord_184 rfl rfl rfl (by decide +kernel) ⟨Nat.le_of_ble_eq_true rfl, Nat.le_of_ble_eq_true rfl⟩) rfl hl.1 rfl (Nat.le_of_ble_eq_true rfl) dX3_control_27 ⟨Nat.zero_le _, Nat.zero_le _⟩ hK hP hD hS hA (va_recv hK hP (ci := 1) (q0 := 8) rfl rfl) [8, 9, 10, 11, 12, 13, 14, 15] [0, 1, 2, 3, 4, 5, 6, 7, 16, 17, 18, 19, 20, 21, 22, 23, 24, 25, 26, 27] (wM g cA t s y d q k r c o m) rfl (by decide +kernel) rfl (wr := List.filterMap (fun i => (wM g cA t s y d q k r c o m)[i]?) [0, 1, 2, 3, 4, 5, 6, 7, 16, 17, 18, 19, 20, 21, 22, 23, 24, 25, 26, 27]) rfl rfl (by decide +kernel) rfl (by decide +kernel) [g 0, g 1, g 2, g 3, g 4, g 5, g 6, g 7, g 8, g 9, g 10, g 11, g 12, g 13, g 14, g 15, g 16, g 17, g 18, g 19, g 20, g 21, g 22, g 23, g 24, g 25, g 26, g 27] rfl rfl (fun a U g mk h => SX.blind a U g mk h) (fun U hU hW => SX.call hX hS (va_free (wc := (wD (g 8) (g 9) (g 10) (g 11) (g 12) (g 13) (g 14) (g 15) cA d)) hD hS hA [8, 9, 10, 11, 12, 13, 14, 15] rfl) U hU hW) (fun H locs hP hD hS => ?_)
    have hP : va_P D vwCl (wM g cA t s y d q k r c o m) H := hP
    have hD : va_D A (wM g cA t s y d q k r c o m) := hD
    refine lv_if_ne (tgt := 36) hx hb dX3_control_30 (by decide) (fun c6 => ?_) (fun c6 => ?_)
    · have hE := if_f c6 hE
      refine lv_aload_n hx hb dX3_control_36 rfl (lv_at hl 1 rfl) ?_
      refine va_gets hx hb k6 hS hown k5 (fun _ h9 => h9) dX3_control_37 ?_
      refine lv_acmp_ne (rx := some (ad w1)) (ry := some (ad 80)) (tgt := 79) hx hb dX3_control_40 (by decide) (fun c7 => ?_) (fun c7 => ?_)
      · have c7 : ¬ w1 = 80 := fun h => c7 (by rw [h])
        have hE := if_f c7 hE
        exact w79  s d r c m H locs ls hP hD hS (lv_sub hl [0] rfl) hE
      · have c7 := hX.2.2.2.2.2.2.2.1 w1 80 hw1 (show 80 < 82 by decide) (Option.some.inj c7)
        have hE := if_t c7 hE
        refine lv_aload_n hx hb dX3_control_43 rfl (lv_at hl 0 rfl) ?_
        refine va_get (D := D) (ci := 2) (v := .ref (g 21)) (C := RX3) (T := TX3) (N := 14) hx hb hts inX3 hown hK hP 0 rfl rfl 5 (by decide) k7 (fun _ h9 => h9) rfl dX3_control_44 ?_
        obtain ⟨u8, h9, hE⟩ := bd_some hE
        refine cn_i (As := []) (rest := []) (r := u8) (w0 := (wM g cA t s y d q k r c o m)) (N := 28) ⟨hx, hb, hml, hown, hts⟩ (c_X1_isFull l D cA (g 21) (g 22) (g 23) (g 24) (g 25) H.size c u8 h9) (cwV 0 hts hX3_control_X1_isFull_267 rfl rfl rfl (by decide +kernel) ⟨Nat.le_of_ble_eq_true rfl, Nat.le_of_ble_eq_true rfl⟩) rfl hl.1 rfl (Nat.le_of_ble_eq_true rfl) dX3_control_47 ⟨Nat.zero_le _, Nat.zero_le _⟩ hK hP hD hS hA (va_recv hK hP (ci := 0) (q0 := 21) rfl rfl) [21, 22, 23, 24, 25] [0, 1, 2, 3, 4, 5, 6, 7, 8, 9, 10, 11, 12, 13, 14, 15, 16, 17, 18, 19, 20, 26, 27] (wM g cA t s y d q k r c o m) rfl (by decide +kernel) rfl (wr := List.filterMap (fun i => (wM g cA t s y d q k r c o m)[i]?) [0, 1, 2, 3, 4, 5, 6, 7, 8, 9, 10, 11, 12, 13, 14, 15, 16, 17, 18, 19, 20, 26, 27]) rfl rfl (by decide +kernel) rfl (by decide +kernel) [g 0, g 1, g 2, g 3, g 4, g 5, g 6, g 7, g 8, g 9, g 10, g 11, g 12, g 13, g 14, g 15, g 16, g 17, g 18, g 19, g 20, g 21, g 22, g 23, g 24, g 25, g 26, g 27] rfl rfl (fun _ _ _ _ h => h) (fun _ _ _ => trivial) (fun H locs hP hD hS => ?_)
        have hP : va_P D vwCl (wM g cA t s y d q k r c o m) H := hP
        have hD : va_D A (wM g cA t s y d q k r c o m) := hD
        refine lv_if_eq (tgt := 56) hx hb dX3_control_50 (by decide) (fun c10 => ?_) (fun c10 => ?_)
        · have hE := if_t c10 hE
          refine lv_aload_n hx hb dX3_control_56 rfl (lv_at hl 0 rfl) ?_
          refine va_get (D := D) (ci := 2) (v := .ref (g 21)) (C := RX3) (T := TX3) (N := 14) hx hb hts inX3 hown hK hP 0 rfl rfl 5 (by decide) k7 (fun _ h9 => h9) rfl dX3_control_57 ?_
          refine lv_aload_n hx hb dX3_control_60 rfl (lv_at hl 0 rfl) ?_
          refine va_get (D := D) (ci := 2) (v := .ref (g 4)) (C := RX3) (T := TX3) (N := 14) hx hb hts inX3 hown hK hP 0 rfl rfl 1 (by decide) k4 (fun _ h9 => h9) rfl dX3_control_61 ?_
          refine va_getN (D := D) (ci := 7) (v := .int s.1) (C := RX8) (T := TX8) (N := 3) hx hb hts inX8 hown hK hP 4 rfl rfl 2 (by decide) (k8 _) (fun _ h9 => h9) rfl dX3_control_64 ?_
          refine lv_iconst (v := 1) hx hb dX3_control_67 (by decide +kernel) ?_
          refine lv_isub hx hb dX3_control_68 ?_
          refine lv_aload_n hx hb dX3_control_69 rfl (lv_at hl 0 rfl) ?_
          refine va_get (D := D) (ci := 2) (v := .ref (g 19)) (C := RX3) (T := TX3) (N := 14) hx hb hts inX3 hown hK hP 0 rfl rfl 2 (by decide) k10 (fun _ h9 => h9) rfl dX3_control_70 ?_
          refine va_getN (D := D) (ci := 7) (v := .int r.1) (C := RX8) (T := TX8) (N := 3) hx hb hts inX8 hown hK hP 19 rfl rfl 2 (by decide) (k8 _) (fun _ h9 => h9) rfl dX3_control_73 ?_
          obtain ⟨u11, h12, hE⟩ := bd_some hE
          refine cn_v (As := [.int (s.1 - 1), .int r.1]) (rest := []) (w0 := (wM g cA t s y d q k r c o m)) (N := 28) ⟨hx, hb, hml, hown, hts⟩ (c_X1_addCatch l D cA (g 21) (g 22) (g 23) (g 24) (g 25) H.size (s.1 - 1) r.1 c u11 h12) (cwV 2 hts hX3_control_X1_addCatch_373 rfl rfl rfl (by decide +kernel) ⟨Nat.le_of_ble_eq_true rfl, Nat.le_of_ble_eq_true rfl⟩) rfl hl.1 rfl (Nat.le_of_ble_eq_true rfl) dX3_control_76 ⟨Nat.zero_le _, Nat.zero_le _⟩ hK hP hD hS hA (va_recv hK hP (ci := 0) (q0 := 21) rfl rfl) [21, 22, 23, 24, 25] [0, 1, 2, 3, 4, 5, 6, 7, 8, 9, 10, 11, 12, 13, 14, 15, 16, 17, 18, 19, 20, 26, 27] (wM g cA t s y d q k r u11 o m) rfl (by decide +kernel) rfl (wr := List.filterMap (fun i => (wM g cA t s y d q k r c o m)[i]?) [0, 1, 2, 3, 4, 5, 6, 7, 8, 9, 10, 11, 12, 13, 14, 15, 16, 17, 18, 19, 20, 26, 27]) rfl rfl (by decide +kernel) rfl (by decide +kernel) [g 0, g 1, g 2, g 3, g 4, g 5, g 6, g 7, g 8, g 9, g 10, g 11, g 12, g 13, g 14, g 15, g 16, g 17, g 18, g 19, g 20, g 21, g 22, g 23, g 24, g 25, g 26, g 27] rfl rfl (fun _ _ _ _ h => h) (fun _ _ _ => trivial) (fun H locs hP hD hS => ?_)
          have hP : va_P D vwCl (wM g cA t s y d q k r u11 o m) H := hP
          have hD : va_D A (wM g cA t s y d q k r u11 o m) := hD
          exact w79  s d r u11 m H locs ls hP hD hS (lv_sub hl [0] rfl) hE
        · have hE := if_f c10 hE
          refine lv_bipush (v := (-5)) hx hb dX3_control_53 (by decide +kernel) ?_
          obtain rfl := Option.some.inj hE
          exact rt_i hx hb hr hP hS rfl hlocks dX3_control_55
    · have hE := if_t c6 hE
      refine lv_bipush (v := (-9)) hx hb dX3_control_33 (by decide +kernel) ?_
      obtain rfl := Option.some.inj hE
      exact rt_i hx hb hr hP hS rfl hlocks dX3_control_35
  · have c1 := hX.2.2.2.2.2.2.2.1 w1 79 hw1 (show 79 < 82 by decide) (Option.some.inj c1)
    have hE := if_t c1 hE
    refine lv_aload_n hx hb dX3_control_7 rfl (lv_at hl 0 rfl) ?_
    refine va_get (D := D) (ci := 2) (v := .ref (g 4)) (C := RX3) (T := TX3) (N := 14) hx hb hts inX3 hown hK hP 0 rfl rfl 1 (by decide) k4 (fun _ h9 => h9) rfl dX3_control_8 ?_
    obtain ⟨u13, h14, hE⟩ := bd_some hE
    refine cn_i (As := []) (rest := []) (r := u13.1) (w0 := (wM g cA t s y d q k r c o m)) (N := 28) ⟨hx, hb, hml, hown, hts⟩ (c_X8_take l D cA (g 4) (g 5) H.size (-3) s u13 h14) (cwV 0 hts hX3_control_X8_take_305 rfl rfl rfl (by decide +kernel) ⟨Nat.le_of_ble_eq_true rfl, Nat.le_of_ble_eq_true rfl⟩) rfl hl.1 rfl (Nat.le_of_ble_eq_true rfl) dX3_control_11 ⟨Nat.zero_le _, Nat.zero_le _⟩ hK hP hD hS hA (va_recv hK hP (ci := 7) (q0 := 4) rfl rfl) [4, 5] [0, 1, 2, 3, 6, 7, 8, 9, 10, 11, 12, 13, 14, 15, 16, 17, 18, 19, 20, 21, 22, 23, 24, 25, 26, 27] (wM g cA t u13.2 y d q k r c o m) rfl (by decide +kernel) rfl (wr := List.filterMap (fun i => (wM g cA t s y d q k r c o m)[i]?) [0, 1, 2, 3, 6, 7, 8, 9, 10, 11, 12, 13, 14, 15, 16, 17, 18, 19, 20, 21, 22, 23, 24, 25, 26, 27]) rfl rfl (by decide +kernel) rfl (by decide +kernel) [g 0, g 1, g 2, g 3, g 4, g 5, g 6, g 7, g 8, g 9, g 10, g 11, g 12, g 13, g 14, g 15, g 16, g 17, g 18, g 19, g 20, g 21, g 22, g 23, g 24, g 25, g 26, g 27] rfl rfl (fun _ _ _ _ h => h) (fun _ _ _ => trivial) (fun H locs hP hD hS => ?_)
    have hP : va_P D vwCl (wM g cA t u13.2 y d q k r c o m) H := hP
    have hD : va_D A (wM g cA t u13.2 y d q k r c o m) := hD
    obtain rfl := Option.some.inj hE
    exact rt_i hx hb hr hP hS rfl hlocks dX3_control_14
set_option maxRecDepth 20000 in
theorem hX3_carryOutNext_X3_carryOutMade_196 : GoodIn wsX3_carryOutNext (wsV RX3 196 RX3 yX3_carryOutMade wsX3_carryOutMade) := goodIn_r _ [5, 6, 7, 8, 9, 10, 11, 3, 12, 13, 14, 15, 16, 17, 18, 19, 20, 21, 22, 23, 24, 25, 26, 27, 28, 29, 30, 31, 32, 33, 34, 35, 36, 37, 38, 39, 40, 41, 42, 43, 44, 45, 46, 47, 467, 468, 469, 470, 471, 472, 473, 474, 475, 476, 477, 478, 479, 480, 481, 482, 483, 484, 485, 486, 487, 488, 489, 490, 491, 492, 493, 494, 495, 496, 497, 498] rfl (by decide +kernel)
set_option maxRecDepth 20000 in
theorem hX3_carryOutNext_X3_askFirst_199 : GoodIn wsX3_carryOutNext (wsV RX3 199 RX3 yX3_askFirst wsX3_askFirst) := goodIn_r _ [48, 49, 50, 8, 51, 11, 4, 3, 52, 53, 54, 55, 16, 56, 19, 20, 467, 468, 469, 470, 471, 472, 473, 474, 475, 476, 477, 478, 479, 480, 499, 500, 501, 502, 503, 504, 496, 497, 498, 489, 490, 491, 492, 493] rfl (by decide +kernel)
set_option maxRecDepth 20000 in
theorem hX3_carryOutNext_X3_carryOutInner_206 : GoodIn wsX3_carryOutNext (wsV RX3 206 RX3 yX3_carryOutInner wsX3_carryOutInner) := goodIn_r _ [57, 58, 59, 8, 60, 61, 11, 62, 63, 64, 65, 66, 67, 68, 69, 70, 71, 16, 72, 19, 73, 74, 75, 8, 76, 52, 3, 43, 44, 45, 38, 46, 40, 77, 78, 79, 80, 42, 35, 36, 37, 39, 41, 81, 82, 83, 84, 85, 86, 87, 88, 10, 89, 90, 91, 92, 18, 93, 94, 95, 96, 97, 98, 99, 100, 101, 102, 103, 104, 12, 105, 32, 33, 28, 34, 25, 26, 27, 29, 30, 31, 106, 107, 108, 109, 110, 111, 112, 113, 114, 115, 116, 117, 118, 119, 120, 121, 122, 123, 124, 125, 126, 127, 467, 468, 469, 470, 471, 472, 473, 474, 475, 476, 477, 478, 479, 480, 489, 490, 491, 492, 493, 496, 497, 498, 481, 482, 483, 484, 485, 486, 487, 488, 494, 495] rfl (by decide +kernel)
set_option maxRecDepth 20000 in
theorem hX3_carryOutNext_X3_moveNumbers_209 : GoodIn wsX3_carryOutNext (wsV RX3 209 RX3 yX3_moveNumbers wsX3_moveNumbers) := goodIn_r _ [128, 129, 130, 8, 131, 61, 3, 62, 63, 64, 65, 66, 67, 68, 77, 78, 79, 38, 80, 40, 42, 35, 36, 37, 39, 41, 81, 82, 83, 84, 132, 133, 134, 135, 118, 136, 125, 126, 127, 137, 138, 139, 8, 140, 124, 141, 142, 143, 144, 52, 43, 44, 45, 46, 114, 115, 116, 117, 119, 467, 468, 469, 470, 471, 472, 473, 474, 475, 476, 477, 478, 479, 480, 496, 497, 498] rfl (by decide +kernel)
set_option maxRecDepth 20000 in
theorem hX3_carryOutNext_X8_fromTop_212 : GoodIn wsX3_carryOutNext (wsV RX3 212 RX8 yX8_fromTop wsX8_fromTop) := goodIn_r _ [77, 78, 79, 38, 80, 40, 42, 496, 497, 498] rfl (by decide +kernel)
set_option maxRecDepth 20000 in
theorem hX3_carryOutNext_X3_ofOne_215 : GoodIn wsX3_carryOutNext (wsV RX3 215 RX3 yX3_ofOne wsX3_ofOne) := goodIn_r _ [145, 146, 147, 8, 148, 61, 62, 63, 64, 65, 66, 67, 68, 149, 150, 151, 8, 152] rfl (by decide +kernel)
set_option maxRecDepth 20000 in
theorem hX3_carryOutNext_X8_replaceTop_219 : GoodIn wsX3_carryOutNext (wsV RX3 219 RX8 yX8_replaceTop wsX8_replaceTop) := goodIn_r _ [124, 125, 126, 38, 127, 40, 42, 496, 497, 498] rfl (by decide +kernel)
set_option maxRecDepth 20000 in
theorem hX3_carryOutNext_X3_reckonWithTwo_222 : GoodIn wsX3_carryOutNext (wsV RX3 222 RX3 yX3_reckonWithTwo wsX3_reckonWithTwo) := goodIn_r _ [153, 154, 155, 8, 156, 157, 158, 3, 77, 78, 79, 38, 80, 40, 42, 114, 115, 116, 117, 118, 119, 82, 83, 84, 159, 160, 161, 8, 162, 163, 164, 165, 166, 61, 167, 62, 63, 64, 65, 66, 67, 68, 149, 150, 151, 152, 35, 36, 37, 39, 41, 467, 468, 469, 470, 471, 472, 473, 474, 475, 476, 477, 478, 479, 480, 496, 497, 498] rfl (by decide +kernel)
set_option maxRecDepth 20000 in
theorem hX3_carryOutNext_X3_useMemory_225 : GoodIn wsX3_carryOutNext (wsV RX3 225 RX3 yX3_useMemory wsX3_useMemory) := goodIn_r _ [168, 169, 170, 8, 171, 61, 3, 12, 62, 63, 64, 65, 66, 67, 68, 35, 36, 37, 38, 39, 40, 41, 42, 77, 78, 79, 80, 172, 173, 174, 28, 175, 30, 176, 177, 178, 179, 180, 181, 182, 183, 184, 119, 82, 83, 84, 185, 186, 187, 188, 189, 190, 191, 8, 192, 193, 194, 105, 32, 33, 34, 25, 26, 27, 29, 31, 124, 125, 126, 127, 195, 196, 197, 198, 81, 467, 468, 469, 470, 471, 472, 473, 474, 475, 476, 477, 478, 479, 480, 494, 495, 496, 497, 498] rfl (by decide +kernel)
set_option maxRecDepth 20000 in
theorem hX3_carryOutNext_X3_write_228 : GoodIn wsX3_carryOutNext (wsV RX3 228 RX3 yX3_write wsX3_write) := goodIn_r _ [199, 200, 201, 8, 202, 61, 203, 3, 62, 63, 64, 65, 66, 67, 68, 114, 115, 116, 38, 117, 118, 78, 79, 80, 40, 42, 119, 82, 83, 84, 204, 205, 206, 207, 208, 209, 210, 211, 212, 213, 214, 215, 216, 217, 467, 468, 469, 470, 471, 472, 473, 474, 475, 476, 477, 478, 479, 480, 496, 497, 498, 505, 506] rfl (by decide +kernel)
set_option maxRecDepth 20000 in
theorem hX3_carryOutNext_X3_control_231 : GoodIn wsX3_carryOutNext (wsV RX3 231 RX3 yX3_control wsX3_control) := goodIn_r _ [218, 219, 220, 8, 221, 222, 3, 10, 223, 11, 52, 1, 114, 115, 116, 38, 117, 118, 78, 79, 80, 40, 42, 119, 82, 83, 84, 77, 224, 225, 226, 96, 227, 98, 47, 22, 23, 16, 24, 19, 228, 229, 230, 231, 20, 232, 233, 21, 467, 468, 469, 470, 471, 472, 473, 474, 475, 476, 477, 478, 479, 480, 496, 497, 498, 481, 482, 483, 484, 485, 486, 487, 488, 489, 490, 491, 492, 493] rfl (by decide +kernel)
set_option maxRecDepth 20000 in
theorem hX3_carryOutNext_X4_define_234 : GoodIn wsX3_carryOutNext (wsV RX3 234 RX4 yX4_define wsX4_define) := goodIn_r _ [234, 235, 236, 237, 238, 239, 240, 241, 242, 243, 244, 96, 245, 98, 246, 247, 248, 249, 250, 251, 252, 253, 254, 255, 256, 257, 258, 259, 260, 261, 262, 263, 264, 265, 266, 267, 268, 269, 270, 271, 272, 273, 178, 179, 28, 180, 176, 274, 275, 276, 237, 277, 278, 279, 280, 281, 63, 64, 65, 66, 67, 68, 282, 283, 284, 285, 286, 287, 288, 99, 100, 289, 290, 291, 292, 293, 294, 295, 296, 115, 116, 38, 117, 118, 78, 79, 80, 40, 42, 119, 82, 83, 84, 297, 173, 174, 175, 30, 177, 499, 500, 501, 502, 503, 504, 481, 482, 483, 484, 485, 486, 487, 488, 507, 508, 509, 510, 511, 494, 495, 496, 497, 498] rfl (by decide +kernel)
set_option maxRecDepth 20000 in
theorem hX3_carryOutNext_X4_make_237 : GoodIn wsX3_carryOutNext (wsV RX3 237 RX4 yX4_make wsX4_make) := goodIn_r _ [298, 299, 300, 237, 301, 278, 239, 280, 281, 63, 64, 65, 66, 67, 68, 302, 303, 304, 96, 305, 98, 289, 306, 78, 79, 38, 80, 40, 42, 307, 308, 309, 237, 310, 241, 311, 225, 226, 227, 297, 173, 174, 28, 175, 30, 176, 177, 178, 179, 180, 312, 182, 183, 184, 119, 82, 83, 84, 313, 314, 315, 316, 279, 242, 243, 244, 245, 246, 499, 500, 501, 502, 503, 504, 481, 482, 483, 484, 485, 486, 487, 488, 496, 497, 498, 494, 495] rfl (by decide +kernel)
set_option maxRecDepth 20000 in
theorem hX3_carryOutNext_X4_useNamed_240 : GoodIn wsX3_carryOutNext (wsV RX3 240 RX4 yX4_useNamed wsX4_useNamed) := goodIn_r _ [317, 318, 319, 237, 320, 240, 239, 278, 280, 241, 247, 248, 249, 250, 251, 252, 253, 254, 255, 256, 257, 258, 259, 260, 261, 262, 263, 264, 265, 266, 267, 268, 321, 322, 323, 96, 324, 98, 246, 325, 326, 327, 328, 287, 286, 292, 293, 294, 295, 329, 330, 331, 332, 333, 334, 335, 336, 337, 338, 339, 340, 341, 342, 343, 344, 345, 346, 347, 348, 349, 350, 351, 352, 353, 354, 355, 356, 357, 358, 359, 360, 361, 362, 363, 364, 365, 366, 367, 368, 369, 370, 371, 372, 373, 374, 375, 376, 377, 378, 379, 380, 381, 281, 63, 64, 65, 66, 67, 68, 382, 36, 37, 38, 39, 40, 41, 42, 383, 384, 385, 28, 386, 176, 30, 387, 388, 389, 237, 390, 391, 392, 393, 394, 289, 395, 225, 226, 227, 297, 173, 174, 175, 177, 178, 179, 180, 273, 499, 500, 501, 502, 503, 504, 507, 508, 509, 510, 511, 481, 482, 483, 484, 485, 486, 487, 488, 496, 497, 498, 494, 495] rfl (by decide +kernel)
set_option maxRecDepth 20000 in
theorem hX3_carryOutNext_X4_doAtOnce_243 : GoodIn wsX3_carryOutNext (wsV RX3 243 RX4 yX4_doAtOnce wsX4_doAtOnce) := goodIn_r _ [396, 397, 398, 237, 399, 400, 279, 240, 401, 402, 403, 250, 404, 256, 257, 264, 499, 500, 501, 502, 503, 504, 507, 508, 509, 510, 511] rfl (by decide +kernel)
set_option maxRecDepth 20000 in
theorem hX3_carryOutNext_X4_compileInto_246 : GoodIn wsX3_carryOutNext (wsV RX3 246 RX4 yX4_compileInto wsX4_compileInto) := goodIn_r _ [405, 406, 407, 237, 408, 278, 241, 280, 239, 281, 63, 64, 65, 66, 67, 68, 409, 410, 411, 237, 412, 413, 279, 297, 173, 174, 28, 175, 30, 176, 177, 178, 179, 180, 414, 415, 416, 96, 417, 98, 246, 306, 78, 79, 38, 80, 40, 42, 383, 384, 385, 386, 312, 182, 183, 184, 119, 82, 83, 84, 418, 419, 420, 421, 499, 500, 501, 502, 503, 504, 512, 513, 514, 494, 495, 481, 482, 483, 484, 485, 486, 487, 488, 496, 497, 498] rfl (by decide +kernel)
set_option maxRecDepth 20000 in
theorem hX3_carryOutNext_X4_structure_249 : GoodIn wsX3_carryOutNext (wsV RX3 249 RX4 yX4_structure wsX4_structure) := goodIn_r _ [422, 423, 424, 237, 425, 413, 241, 426, 427, 428, 237, 429, 278, 281, 63, 64, 65, 66, 67, 68, 430, 431, 432, 433, 434, 435, 436, 437, 438, 439, 440, 441, 442, 443, 444, 445, 446, 447, 448, 273, 178, 179, 28, 180, 176, 449, 450, 451, 452, 453, 454, 455, 456, 383, 384, 385, 386, 30, 457, 458, 459, 460, 461, 462, 463, 464, 465, 466, 196, 197, 198, 31, 32, 33, 34, 297, 173, 174, 175, 177, 499, 500, 501, 502, 503, 504, 512, 513, 514, 494, 495] rfl (by decide +kernel)
set_option maxHeartbeats 4000000 in
set_option maxRecDepth 100000 in
theorem c_X3_carryOutNext (l : Launch) (D : va_G) (cA : Nat → ClassId) (ad adK adV : Nat → Nat) (tA tS : Nat) (g : Nat → Nat) (sz : Nat) (t : tT) (s : tR) (y : tY) (d : tD) (q : tP) (k : tK) (r : tR) (c : tC) (o : tO) (m : tM) (u : Int32 × tT × tR × tY × tD × tP × tK × tR × tC × tO × tM) (hE : f_X3_carryOutNext t s y d q k r c o m = some u) : Met l yX3_carryOutNext wsX3_carryOutNext ({ frames := 7, cells := 0, slots := 0, locals := 153 }) (va_Pc [.ref (g 0)] (PRE D cA (wM g cA t s y d q k r c o m) sz (fun U => SX ad adK adV tA tS (va_A (wM g cA t s y d q k r c o m) sz) U U.heap))) (cQi D (wM g cA u.2.1 u.2.2.1 u.2.2.2.1 u.2.2.2.2.1 u.2.2.2.2.2.1 u.2.2.2.2.2.2.1 u.2.2.2.2.2.2.2.1 u.2.2.2.2.2.2.2.2.1 u.2.2.2.2.2.2.2.2.2.1 u.2.2.2.2.2.2.2.2.2.2) (va_A (wM g cA t s y d q k r c o m) sz) u.1) 0 0 (va_A (wM g cA t s y d q k r c o m) sz) := by
  refine Met.ofW (cc := cX3_carryOutNext) (maxL := 4) (ret := (some .int)) (by decide) rfl ?_
  intro PP EE S0 MM args below meth CC S1 B hml hv
  obtain ⟨rfl, hsz, hP, hK, hD0, hX⟩ := hv
  have hx := B.exec
  have hb := B.bytes
  have hr := B.returns
  have hts := atoms_spec (ws := wsX3_carryOutNext) B.pre
  have hown : S0.vm.findClass RX3 = some MM.cls := findClass_of_methodNamed B.named
  have hlocks := B.notSynchronized
  subst hsz
  have hD := hD0.self (sz := S0.heap.size)
  have hX : SX ad adK adV tA tS (va_A (wM g cA t s y d q k r c o m) S0.heap.size) S0 S0.heap := hX
  generalize hAe : va_A (wM g cA t s y d q k r c o m) S0.heap.size = A at hD hX ⊢
  have hA : ∀ q : Nat, S0.heap.size ≤ q → A q := fun q h => by rw [← hAe]; exact Or.inr h
  have hS : va_S A S0.heap S0.heap [] := va_S.rf
  have k0 := hts (.fieldLink RX3 67 "WordForge$Machine" "nextWord" "I") (List.mem_of_getElem? (i := 1) rfl)
  have inX3 : ∀ w ∈ wsX30, w ∈ wsX3_carryOutNext := fun _ h => List.mem_cons_of_mem _ (List.mem_append_left _ (List.mem_append_left _ (List.mem_append_left _ (List.mem_append_left _ (List.mem_append_left _ (List.mem_append_left _ (List.mem_append_left _ (List.mem_append_left _ (List.mem_append_right _ h)))))))))
  have k2 := hts (.fieldLink RX3 74 "WordForge$Machine" "steps" "I") (List.mem_of_getElem? (i := 2) rfl)
  have k3 := hX.nest (.fieldLinkNest RX3 190 "WordForge$Word" "ALL" "[LWordForge$Word;" "WordForge") (List.mem_of_getElem? (i := 39) rfl)
  have k4 := hX.nest (.fieldLinkNest RX3 203 "WordForge$Word" "group" "I" "WordForge") (List.mem_of_getElem? (i := 42) rfl)
  have k5 := hts (.fieldLink RX3 23 "WordForge$Machine" "stack" "LWordForge$Row;") (List.mem_of_getElem? (i := 3) rfl)
  have k6 := hts (.fieldLink RX3 63 "WordForge$Machine" "maker" "LWordForge$Maker;") (List.mem_of_getElem? (i := 4) rfl)
  have hl := lv_entry ([.ref (g 0)]) (n := 4) (Nat.le_of_ble_eq_true rfl)
  rw [lg_entry_eq]
  generalize (lg_sl ([.ref (g 0)]) ++ List.replicate (4 - (lg_sl ([.ref (g 0)])).length) Slot.unset).toArray = ls at hl ⊢
  have hl : lv_has ls 4 [(0, .ref (g 0))] := hl
  unfold f_X3_carryOutNext at hE
  suffices main : ∀ (H : Heap) (locs : List Loc) (ls : Array Slot), va_P D vwCl (wM g cA t s y d q k r c o m) H → va_D A (wM g cA t s y d q k r c o m) → va_S A S0.heap H locs → lv_has ls 4 [(0, .ref (g 0))] → W PP l EE (headSpec wsX3_carryOutNext ({ frames := 7, cells := 0, slots := 0, locals := 153 })).room S0 MM (#[.ref (g 0)] : Array Value) below meth CC H locs 0 0 (MQ below (cQi D (wM g cA u.2.1 u.2.2.1 u.2.2.2.1 u.2.2.2.2.1 u.2.2.2.2.2.1 u.2.2.2.2.2.2.1 u.2.2.2.2.2.2.2.1 u.2.2.2.2.2.2.2.2.1 u.2.2.2.2.2.2.2.2.2.1 u.2.2.2.2.2.2.2.2.2.2) A u.1) (#[.ref (g 0)] : Array Value) S0 0 0 A) (F0 MM 0 ls []) from main _ _ _ hP hD hS hl
  intro H locs ls hP hD hS hl
  refine lv_aload_n hx hb dX3_carryOutNext_0 rfl (lv_at hl 0 rfl) ?_
  refine va_get (D := D) (ci := 2) (v := .int m.2.2.2.1) (C := RX3) (T := TX3) (N := 14) hx hb hts inX3 hown hK hP 0 rfl rfl 11 (by decide) k0 (fun _ h9 => h9) rfl dX3_carryOutNext_1 ?_
  refine lv_istore_n (lv' := [(1, .int m.2.2.2.1), (0, .ref (g 0))]) hx hb dX3_carryOutNext_4 rfl hl (by decide) rfl (fun ls hl => ?_)
  refine lv_aload_n hx hb dX3_carryOutNext_5 rfl (lv_at hl 1 rfl) ?_
  refine lv_iconst (v := (-1)) hx hb dX3_carryOutNext_6 (by decide +kernel) ?_
  refine va_put (D := D) (ci := 2) (v := .int ((-1))) (ty := .int) (C := RX3) (T := TX3) (N := 14) hx hb hts inX3 tyX3 tyX3_ok nmX3 hown hK hP hD hS 0 rfl rfl 11 (by decide) k0 (fun _ h9 => h9) rfl (by decide +kernel) rfl rfl (Nat.le_of_ble_eq_true rfl) dX3_carryOutNext_7 (fun H locs hP hD hS => ?_)
  have hP : va_P D vwCl (wM g cA t s y d q k r c o ((m.1, m.2.1, m.2.2.1, (-1), m.2.2.2.2.1, m.2.2.2.2.2))) H := hP
  have hD : va_D A (wM g cA t s y d q k r c o ((m.1, m.2.1, m.2.2.1, (-1), m.2.2.2.2.1, m.2.2.2.2.2))) := hD
  refine lv_aload_n hx hb dX3_carryOutNext_10 rfl (lv_at hl 1 rfl) ?_
  refine lv_dup hx hb dX3_carryOutNext_11 rfl ?_
  refine va_get (D := D) (ci := 2) (v := .int m.2.1) (C := RX3) (T := TX3) (N := 14) hx hb hts inX3 hown hK hP 0 rfl rfl 9 (by decide) k2 (fun _ h9 => h9) rfl dX3_carryOutNext_12 ?_
  refine lv_iconst (v := 1) hx hb dX3_carryOutNext_15 (by decide +kernel) ?_
  refine lv_iadd hx hb dX3_carryOutNext_16 ?_
  refine va_put (D := D) (ci := 2) (v := .int (m.2.1 + 1)) (ty := .int) (C := RX3) (T := TX3) (N := 14) hx hb hts inX3 tyX3 tyX3_ok nmX3 hown hK hP hD hS 0 rfl rfl 9 (by decide) k2 (fun _ h9 => h9) rfl (by decide +kernel) rfl rfl (Nat.le_of_ble_eq_true rfl) dX3_carryOutNext_17 (fun H locs hP hD hS => ?_)
  have hP : va_P D vwCl (wM g cA t s y d q k r c o ((m.1, m.2.1 + 1, m.2.2.1, (-1), m.2.2.2.2.1, m.2.2.2.2.2))) H := hP
  have hD : va_D A (wM g cA t s y d q k r c o ((m.1, m.2.1 + 1, m.2.2.1, (-1), m.2.2.2.2.1, m.2.2.2.2.2))) := hD
  refine lv_iload_n hx hb dX3_carryOutNext_20 rfl (lv_at hl 0 rfl) ?_
  refine va_getsN hx hb hX.2.1 hS hown (k3 _) (fun _ h9 => h9) dX3_carryOutNext_21 ?_
  refine va_tlen hx hb hX.2.2.1 hS (v := 82) (by decide +kernel) dX3_carryOutNext_24 ?_
  refine lv_icmp_lt (tgt := 39) hx hb dX3_carryOutNext_25 (by decide) (fun c1 => ?_) (fun c1 => ?_)
  · have hE := if_t c1 hE
    refine va_getsN hx hb hX.2.1 hS hown (k3 _) (fun _ h9 => h9) dX3_carryOutNext_39 ?_
    refine lv_iload_n hx hb dX3_carryOutNext_42 rfl (lv_at hl 0 rfl) ?_
    have ⟨c2, hE⟩ := ck_some hE
    refine vb_tq hx hb hX.2.2.1 hS c2 rfl dX3_carryOutNext_43 ?_
    refine lv_astore_n (lv' := [(2, .ref (ad m.2.2.2.1.toNatClampNeg)), (1, .int m.2.2.2.1), (0, .ref (g 0))]) hx hb dX3_carryOutNext_44 rfl hl (by decide) rfl (fun ls hl => ?_)
    refine lv_aload_n hx hb dX3_carryOutNext_45 rfl (lv_at hl 2 rfl) ?_
    refine lv_aload_n hx hb dX3_carryOutNext_46 rfl (lv_at hl 0 rfl) ?_
    obtain ⟨u3, h4, hE⟩ := bd_some hE
    refine cw_i (As := [.ref (ad m.2.2.2.1.toNatClampNeg)]) (rest := []) (r := u3) (wc := (wM g cA t s y d q k r c o (((m.1, m.2.1 + 1, m.2.2.1, (-1), m.2.2.2.2.1, m.2.2.2.2.2))))) ⟨hx, hb, hml, hown, hts⟩ (c_X3_askFirst l D cA ad adK adV tA tS g H.size m.2.2.2.1.toNatClampNeg t s y d q k r c o ((m.1, m.2.1 + 1, m.2.2.1, (-1), m.2.2.2.2.1, m.2.2.2.2.2)) u3 h4) (cwV 1 hts hX3_carryOutNext_X3_askFirst_199 rfl rfl rfl (by decide +kernel) ⟨Nat.le_of_ble_eq_true rfl, Nat.le_of_ble_eq_true rfl⟩) rfl hl.1 rfl (Nat.le_of_ble_eq_true rfl) dX3_carryOutNext_47 ⟨Nat.zero_le _, Nat.zero_le _⟩ hK hP hD hS hA (va_recv hK hP (ci := 2) (q0 := 0) rfl rfl) [g 0, g 1, g 2, g 3, g 4, g 5, g 6, g 7, g 8, g 9, g 10, g 11, g 12, g 13, g 14, g 15, g 16, g 17, g 18, g 19, g 20, g 21, g 22, g 23, g 24, g 25, g 26, g 27] rfl rfl (fun a U g mk h => SX.blind a U g mk h) (fun U hU hW => SX.call hX hS (fun q h => h.elim (fun ⟨k, e, h⟩ => hD.2 k (q, e) h) (fun h => hA q (Nat.le_trans hS.1 h))) U hU hW) (fun H locs hP hD hS => ?_)
    have hP : va_P D vwCl (wM g cA t s y d q k r c o ((m.1, m.2.1 + 1, m.2.2.1, (-1), m.2.2.2.2.1, m.2.2.2.2.2))) H := hP
    have hD : va_D A (wM g cA t s y d q k r c o ((m.1, m.2.1 + 1, m.2.2.1, (-1), m.2.2.2.2.1, m.2.2.2.2.2))) := hD
    refine lv_istore_n (lv' := [(3, .int u3), (2, .ref (ad m.2.2.2.1.toNatClampNeg)), (1, .int m.2.2.2.1), (0, .ref (g 0))]) hx hb dX3_carryOutNext_50 rfl hl (by decide) rfl (fun ls hl => ?_)
    refine lv_iload_n hx hb dX3_carryOutNext_51 rfl (lv_at hl 0 rfl) ?_
    refine lv_if_eq (tgt := 57) hx hb dX3_carryOutNext_52 (by decide) (fun c5 => ?_) (fun c5 => ?_)
    · have hE := if_t c5 hE
      refine lv_aload_n hx hb dX3_carryOutNext_57 rfl (lv_at hl 1 rfl) ?_
      refine vk_getfN (v := .int (wV_group.getD m.2.2.2.1.toNatClampNeg 0)) hx hb ((hX.2.2.2.2.2.2.1 m.2.2.2.1.toNatClampNeg (Nat.not_le.mp (fun q => c2 (Or.inr q)))).2.2.1 ("WordForge$Word", "group", "I", wV_group) (List.mem_of_getElem? (i := 3) rfl)) hS hown (k4 _) (fun _ h9 => h9) dX3_carryOutNext_58 ?_
      by_cases c6 : (wV_group.getD m.2.2.2.1.toNatClampNeg 0) = 0
      · have hE := if_t c6 hE
        refine lv_tableIn (tgt := 128) (off := 67) hx hb dX3_carryOutNext_61 (by rw [c6]; decide +kernel) (by rw [c6]; decide +kernel) (by rw [c6]; decide +kernel) (by decide) ?_
        refine lv_aload_n hx hb dX3_carryOutNext_128 rfl (lv_at hl 3 rfl) ?_
        refine lv_aload_n hx hb dX3_carryOutNext_129 rfl (lv_at hl 1 rfl) ?_
        obtain ⟨u7, h8, hE⟩ := bd_some hE
        refine cw_i (As := [.ref (ad m.2.2.2.1.toNatClampNeg)]) (rest := []) (r := u7.1) (wc := (wM g cA t s y d q k r c o (((m.1, m.2.1 + 1, m.2.2.1, (-1), m.2.2.2.2.1, m.2.2.2.2.2))))) ⟨hx, hb, hml, hown, hts⟩ (c_X3_carryOutInner l D cA ad adK adV tA tS g H.size m.2.2.2.1.toNatClampNeg t s y d q k r c o ((m.1, m.2.1 + 1, m.2.2.1, (-1), m.2.2.2.2.1, m.2.2.2.2.2)) u7 h8) (cwV 1 hts hX3_carryOutNext_X3_carryOutInner_206 rfl rfl rfl (by decide +kernel) ⟨Nat.le_of_ble_eq_true rfl, Nat.le_of_ble_eq_true rfl⟩) rfl hl.1 rfl (Nat.le_of_ble_eq_true rfl) dX3_carryOutNext_130 ⟨Nat.zero_le _, Nat.zero_le _⟩ hK hP hD hS hA (va_recv hK hP (ci := 2) (q0 := 0) rfl rfl) [g 0, g 1, g 2, g 3, g 4, g 5, g 6, g 7, g 8, g 9, g 10, g 11, g 12, g 13, g 14, g 15, g 16, g 17, g 18, g 19, g 20, g 21, g 22, g 23, g 24, g 25, g 26, g 27] rfl rfl (fun a U g mk h => SX.blind a U g mk h) (fun U hU hW => SX.call hX hS (fun q h => h.elim (fun ⟨k, e, h⟩ => hD.2 k (q, e) h) (fun h => hA q (Nat.le_trans hS.1 h))) U hU hW) (fun H locs hP hD hS => ?_)
        have hP : va_P D vwCl (wM g cA t u7.2.1 y u7.2.2.1 q k u7.2.2.2.1 u7.2.2.2.2 o ((m.1, m.2.1 + 1, m.2.2.1, (-1), m.2.2.2.2.1, m.2.2.2.2.2))) H := hP
        have hD : va_D A (wM g cA t u7.2.1 y u7.2.2.1 q k u7.2.2.2.1 u7.2.2.2.2 o ((m.1, m.2.1 + 1, m.2.2.1, (-1), m.2.2.2.2.1, m.2.2.2.2.2))) := hD
        obtain rfl := Option.some.inj hE
        exact rt_i hx hb hr hP hS rfl hlocks dX3_carryOutNext_133
      have hE := if_f c6 hE
      by_cases c9 : (wV_group.getD m.2.2.2.1.toNatClampNeg 0) = 1
      · have hE := if_t c9 hE
        refine lv_tableIn (tgt := 134) (off := 73) hx hb dX3_carryOutNext_61 (by rw [c9]; decide +kernel) (by rw [c9]; decide +kernel) (by rw [c9]; decide +kernel) (by decide) ?_
        refine lv_aload_n hx hb dX3_carryOutNext_134 rfl (lv_at hl 3 rfl) ?_
        refine lv_aload_n hx hb dX3_carryOutNext_135 rfl (lv_at hl 1 rfl) ?_
        obtain ⟨u10, h11, hE⟩ := bd_some hE
        refine cw_i (As := [.ref (ad m.2.2.2.1.toNatClampNeg)]) (rest := []) (r := u10.1) (wc := (wM g cA t s y d q k r c o (((m.1, m.2.1 + 1, m.2.2.1, (-1), m.2.2.2.2.1, m.2.2.2.2.2))))) ⟨hx, hb, hml, hown, hts⟩ (c_X3_moveNumbers l D cA ad adK adV tA tS g H.size m.2.2.2.1.toNatClampNeg t s y d q k r c o ((m.1, m.2.1 + 1, m.2.2.1, (-1), m.2.2.2.2.1, m.2.2.2.2.2)) u10 h11) (cwV 1 hts hX3_carryOutNext_X3_moveNumbers_209 rfl rfl rfl (by decide +kernel) ⟨Nat.le_of_ble_eq_true rfl, Nat.le_of_ble_eq_true rfl⟩) rfl hl.1 rfl (Nat.le_of_ble_eq_true rfl) dX3_carryOutNext_136 ⟨Nat.zero_le _, Nat.zero_le _⟩ hK hP hD hS hA (va_recv hK hP (ci := 2) (q0 := 0) rfl rfl) [g 0, g 1, g 2, g 3, g 4, g 5, g 6, g 7, g 8, g 9, g 10, g 11, g 12, g 13, g 14, g 15, g 16, g 17, g 18, g 19, g 20, g 21, g 22, g 23, g 24, g 25, g 26, g 27] rfl rfl (fun a U g mk h => SX.blind a U g mk h) (fun U hU hW => SX.call hX hS (fun q h => h.elim (fun ⟨k, e, h⟩ => hD.2 k (q, e) h) (fun h => hA q (Nat.le_trans hS.1 h))) U hU hW) (fun H locs hP hD hS => ?_)
        have hP : va_P D vwCl (wM g cA t u10.2.1 y d q k u10.2.2 c o ((m.1, m.2.1 + 1, m.2.2.1, (-1), m.2.2.2.2.1, m.2.2.2.2.2))) H := hP
        have hD : va_D A (wM g cA t u10.2.1 y d q k u10.2.2 c o ((m.1, m.2.1 + 1, m.2.2.1, (-1), m.2.2.2.2.1, m.2.2.2.2.2))) := hD
        obtain rfl := Option.some.inj hE
        exact rt_i hx hb hr hP hS rfl hlocks dX3_carryOutNext_139
      have hE := if_f c9 hE
      by_cases c12 : (wV_group.getD m.2.2.2.1.toNatClampNeg 0) = 2
      · have hE := if_t c12 hE
        refine lv_tableIn (tgt := 140) (off := 79) hx hb dX3_carryOutNext_61 (by rw [c12]; decide +kernel) (by rw [c12]; decide +kernel) (by rw [c12]; decide +kernel) (by decide) ?_
        refine lv_aload_n hx hb dX3_carryOutNext_140 rfl (lv_at hl 3 rfl) ?_
        refine va_get (D := D) (ci := 2) (v := .ref (g 4)) (C := RX3) (T := TX3) (N := 14) hx hb hts inX3 hown hK hP 0 rfl rfl 1 (by decide) k5 (fun _ h9 => h9) rfl dX3_carryOutNext_141 ?_
        refine lv_aload_n hx hb dX3_carryOutNext_144 rfl (lv_at hl 3 rfl) ?_
        refine lv_aload_n hx hb dX3_carryOutNext_145 rfl (lv_at hl 1 rfl) ?_
        refine lv_aload_n hx hb dX3_carryOutNext_146 rfl (lv_at hl 3 rfl) ?_
        refine va_get (D := D) (ci := 2) (v := .ref (g 4)) (C := RX3) (T := TX3) (N := 14) hx hb hts inX3 hown hK hP 0 rfl rfl 1 (by decide) k5 (fun _ h9 => h9) rfl dX3_carryOutNext_147 ?_
        refine lv_iconst (v := 0) hx hb dX3_carryOutNext_150 (by decide +kernel) ?_
        obtain ⟨u13, h14, hE⟩ := bd_some hE
        refine cn_i (As := [.int 0]) (rest := [.ref (ad m.2.2.2.1.toNatClampNeg), .ref (g 0), .ref (g 4)]) (r := u13) (w0 := (wM g cA t s y d q k r c o ((m.1, m.2.1 + 1, m.2.2.1, (-1), m.2.2.2.2.1, m.2.2.2.2.2)))) (N := 28) ⟨hx, hb, hml, hown, hts⟩ (c_X8_fromTop l D cA (g 4) (g 5) H.size 0 (-3) s u13 h14) (cwV 1 hts hX3_carryOutNext_X8_fromTop_212 rfl rfl rfl (by decide +kernel) ⟨Nat.le_of_ble_eq_true rfl, Nat.le_of_ble_eq_true rfl⟩) rfl hl.1 rfl (Nat.le_of_ble_eq_true rfl) dX3_carryOutNext_151 ⟨Nat.zero_le _, Nat.zero_le _⟩ hK hP hD hS hA (va_recv hK hP (ci := 7) (q0 := 4) rfl rfl) [4, 5] [0, 1, 2, 3, 6, 7, 8, 9, 10, 11, 12, 13, 14, 15, 16, 17, 18, 19, 20, 21, 22, 23, 24, 25, 26, 27] (wM g cA t s y d q k r c o ((m.1, m.2.1 + 1, m.2.2.1, (-1), m.2.2.2.2.1, m.2.2.2.2.2))) rfl (by decide +kernel) rfl (wr := List.filterMap (fun i => (wM g cA t s y d q k r c o ((m.1, m.2.1 + 1, m.2.2.1, (-1), m.2.2.2.2.1, m.2.2.2.2.2)))[i]?) [0, 1, 2, 3, 6, 7, 8, 9, 10, 11, 12, 13, 14, 15, 16, 17, 18, 19, 20, 21, 22, 23, 24, 25, 26, 27]) rfl rfl (by decide +kernel) rfl (by decide +kernel) [g 0, g 1, g 2, g 3, g 4, g 5, g 6, g 7, g 8, g 9, g 10, g 11, g 12, g 13, g 14, g 15, g 16, g 17, g 18, g 19, g 20, g 21, g 22, g 23, g 24, g 25, g 26, g 27] rfl rfl (fun _ _ _ _ h => h) (fun _ _ _ => trivial) (fun H locs hP hD hS => ?_)
        have hP : va_P D vwCl (wM g cA t s y d q k r c o ((m.1, m.2.1 + 1, m.2.2.1, (-1), m.2.2.2.2.1, m.2.2.2.2.2))) H := hP
        have hD : va_D A (wM g cA t s y d q k r c o ((m.1, m.2.1 + 1, m.2.2.1, (-1), m.2.2.2.2.1, m.2.2.2.2.2))) := hD
        obtain ⟨u15, h16, hE⟩ := bd_some hE
        refine cw_i (As := [.ref (ad m.2.2.2.1.toNatClampNeg), .int u13]) (rest := [.ref (g 4)]) (r := u15) (wc := (wM g cA t s y d q k r c o (((m.1, m.2.1 + 1, m.2.2.1, (-1), m.2.2.2.2.1, m.2.2.2.2.2))))) ⟨hx, hb, hml, hown, hts⟩ (c_X3_ofOne l D cA ad adK adV tA tS g H.size m.2.2.2.1.toNatClampNeg u13 t s y d q k r c o ((m.1, m.2.1 + 1, m.2.2.1, (-1), m.2.2.2.2.1, m.2.2.2.2.2)) u15 h16) (cwV 2 hts hX3_carryOutNext_X3_ofOne_215 rfl rfl rfl (by decide +kernel) ⟨Nat.le_of_ble_eq_true rfl, Nat.le_of_ble_eq_true rfl⟩) rfl hl.1 rfl (Nat.le_of_ble_eq_true rfl) dX3_carryOutNext_154 ⟨Nat.zero_le _, Nat.zero_le _⟩ hK hP hD hS hA (va_recv hK hP (ci := 2) (q0 := 0) rfl rfl) [g 0, g 1, g 2, g 3, g 4, g 5, g 6, g 7, g 8, g 9, g 10, g 11, g 12, g 13, g 14, g 15, g 16, g 17, g 18, g 19, g 20, g 21, g 22, g 23, g 24, g 25, g 26, g 27] rfl rfl (fun a U g mk h => SX.blind a U g mk h) (fun U hU hW => SX.call hX hS (fun q h => h.elim (fun ⟨k, e, h⟩ => hD.2 k (q, e) h) (fun h => hA q (Nat.le_trans hS.1 h))) U hU hW) (fun H locs hP hD hS => ?_)
        have hP : va_P D vwCl (wM g cA t s y d q k r c o ((m.1, m.2.1 + 1, m.2.2.1, (-1), m.2.2.2.2.1, m.2.2.2.2.2))) H := hP
        have hD : va_D A (wM g cA t s y d q k r c o ((m.1, m.2.1 + 1, m.2.2.1, (-1), m.2.2.2.2.1, m.2.2.2.2.2))) := hD
        obtain ⟨u17, h18, hE⟩ := bd_some hE
        refine cn_v (As := [.int u15]) (rest := []) (w0 := (wM g cA t s y d q k r c o ((m.1, m.2.1 + 1, m.2.2.1, (-1), m.2.2.2.2.1, m.2.2.2.2.2)))) (N := 28) ⟨hx, hb, hml, hown, hts⟩ (c_X8_replaceTop l D cA (g 4) (g 5) H.size u15 (-3) s u17 h18) (cwV 1 hts hX3_carryOutNext_X8_replaceTop_219 rfl rfl rfl (by decide +kernel) ⟨Nat.le_of_ble_eq_true rfl, Nat.le_of_ble_eq_true rfl⟩) rfl hl.1 rfl (Nat.le_of_ble_eq_true rfl) dX3_carryOutNext_157 ⟨Nat.zero_le _, Nat.zero_le _⟩ hK hP hD hS hA (va_recv hK hP (ci := 7) (q0 := 4) rfl rfl) [4, 5] [0, 1, 2, 3, 6, 7, 8, 9, 10, 11, 12, 13, 14, 15, 16, 17, 18, 19, 20, 21, 22, 23, 24, 25, 26, 27] (wM g cA t u17 y d q k r c o ((m.1, m.2.1 + 1, m.2.2.1, (-1), m.2.2.2.2.1, m.2.2.2.2.2))) rfl (by decide +kernel) rfl (wr := List.filterMap (fun i => (wM g cA t s y d q k r c o ((m.1, m.2.1 + 1, m.2.2.1, (-1), m.2.2.2.2.1, m.2.2.2.2.2)))[i]?) [0, 1, 2, 3, 6, 7, 8, 9, 10, 11, 12, 13, 14, 15, 16, 17, 18, 19, 20, 21, 22, 23, 24, 25, 26, 27]) rfl rfl (by decide +kernel) rfl (by decide +kernel) [g 0, g 1, g 2, g 3, g 4, g 5, g 6, g 7, g 8, g 9, g 10, g 11, g 12, g 13, g 14, g 15, g 16, g 17, g 18, g 19, g 20, g 21, g 22, g 23, g 24, g 25, g 26, g 27] rfl rfl (fun _ _ _ _ h => h) (fun _ _ _ => trivial) (fun H locs hP hD hS => ?_)
        have hP : va_P D vwCl (wM g cA t u17 y d q k r c o ((m.1, m.2.1 + 1, m.2.2.1, (-1), m.2.2.2.2.1, m.2.2.2.2.2))) H := hP
        have hD : va_D A (wM g cA t u17 y d q k r c o ((m.1, m.2.1 + 1, m.2.2.1, (-1), m.2.2.2.2.1, m.2.2.2.2.2))) := hD
        refine lv_iconst (v := 0) hx hb dX3_carryOutNext_160 (by decide +kernel) ?_
        obtain rfl := Option.some.inj hE
        exact rt_i hx hb hr hP hS rfl hlocks dX3_carryOutNext_161
      have hE := if_f c12 hE
      by_cases c19 : (wV_group.getD m.2.2.2.1.toNatClampNeg 0) = 3
      · have hE := if_t c19 hE
        refine lv_tableIn (tgt := 162) (off := 101) hx hb dX3_carryOutNext_61 (by rw [c19]; decide +kernel) (by rw [c19]; decide +kernel) (by rw [c19]; decide +kernel) (by decide) ?_
        refine lv_aload_n hx hb dX3_carryOutNext_162 rfl (lv_at hl 3 rfl) ?_
        refine lv_aload_n hx hb dX3_carryOutNext_163 rfl (lv_at hl 1 rfl) ?_
        obtain ⟨u20, h21, hE⟩ := bd_some hE
        refine cw_i (As := [.ref (ad m.2.2.2.1.toNatClampNeg)]) (rest := []) (r := u20.1) (wc := (wM g cA t s y d q k r c o (((m.1, m.2.1 + 1, m.2.2.1, (-1), m.2.2.2.2.1, m.2.2.2.2.2))))) ⟨hx, hb, hml, hown, hts⟩ (c_X3_reckonWithTwo l D cA ad adK adV tA tS g H.size m.2.2.2.1.toNatClampNeg t s y d q k r c o ((m.1, m.2.1 + 1, m.2.2.1, (-1), m.2.2.2.2.1, m.2.2.2.2.2)) u20 h21) (cwV 1 hts hX3_carryOutNext_X3_reckonWithTwo_222 rfl rfl rfl (by decide +kernel) ⟨Nat.le_of_ble_eq_true rfl, Nat.le_of_ble_eq_true rfl⟩) rfl hl.1 rfl (Nat.le_of_ble_eq_true rfl) dX3_carryOutNext_164 ⟨Nat.zero_le _, Nat.zero_le _⟩ hK hP hD hS hA (va_recv hK hP (ci := 2) (q0 := 0) rfl rfl) [g 0, g 1, g 2, g 3, g 4, g 5, g 6, g 7, g 8, g 9, g 10, g 11, g 12, g 13, g 14, g 15, g 16, g 17, g 18, g 19, g 20, g 21, g 22, g 23, g 24, g 25, g 26, g 27] rfl rfl (fun a U g mk h => SX.blind a U g mk h) (fun U hU hW => SX.call hX hS (fun q h => h.elim (fun ⟨k, e, h⟩ => hD.2 k (q, e) h) (fun h => hA q (Nat.le_trans hS.1 h))) U hU hW) (fun H locs hP hD hS => ?_)
        have hP : va_P D vwCl (wM g cA t u20.2 y d q k r c o ((m.1, m.2.1 + 1, m.2.2.1, (-1), m.2.2.2.2.1, m.2.2.2.2.2))) H := hP
        have hD : va_D A (wM g cA t u20.2 y d q k r c o ((m.1, m.2.1 + 1, m.2.2.1, (-1), m.2.2.2.2.1, m.2.2.2.2.2))) := hD
        obtain rfl := Option.some.inj hE
        exact rt_i hx hb hr hP hS rfl hlocks dX3_carryOutNext_167
      have hE := if_f c19 hE
      by_cases c22 : (wV_group.getD m.2.2.2.1.toNatClampNeg 0) = 4
      · have hE := if_t c22 hE
        refine lv_tableIn (tgt := 168) (off := 107) hx hb dX3_carryOutNext_61 (by rw [c22]; decide +kernel) (by rw [c22]; decide +kernel) (by rw [c22]; decide +kernel) (by decide) ?_
        refine lv_aload_n hx hb dX3_carryOutNext_168 rfl (lv_at hl 3 rfl) ?_
        refine lv_aload_n hx hb dX3_carryOutNext_169 rfl (lv_at hl 1 rfl) ?_
        obtain ⟨u23, h24, hE⟩ := bd_some hE
        refine cw_i (As := [.ref (ad m.2.2.2.1.toNatClampNeg)]) (rest := []) (r := u23.1) (wc := (wM g cA t s y d q k r c o (((m.1, m.2.1 + 1, m.2.2.1, (-1), m.2.2.2.2.1, m.2.2.2.2.2))))) ⟨hx, hb, hml, hown, hts⟩ (c_X3_useMemory l D cA ad adK adV tA tS g H.size m.2.2.2.1.toNatClampNeg t s y d q k r c o ((m.1, m.2.1 + 1, m.2.2.1, (-1), m.2.2.2.2.1, m.2.2.2.2.2)) u23 h24) (cwV 1 hts hX3_carryOutNext_X3_useMemory_225 rfl rfl rfl (by decide +kernel) ⟨Nat.le_of_ble_eq_true rfl, Nat.le_of_ble_eq_true rfl⟩) rfl hl.1 rfl (Nat.le_of_ble_eq_true rfl) dX3_carryOutNext_170 ⟨Nat.zero_le _, Nat.zero_le _⟩ hK hP hD hS hA (va_recv hK hP (ci := 2) (q0 := 0) rfl rfl) [g 0, g 1, g 2, g 3, g 4, g 5, g 6, g 7, g 8, g 9, g 10, g 11, g 12, g 13, g 14, g 15, g 16, g 17, g 18, g 19, g 20, g 21, g 22, g 23, g 24, g 25, g 26, g 27] rfl rfl (fun a U g mk h => SX.blind a U g mk h) (fun U hU hW => SX.call hX hS (fun q h => h.elim (fun ⟨k, e, h⟩ => hD.2 k (q, e) h) (fun h => hA q (Nat.le_trans hS.1 h))) U hU hW) (fun H locs hP hD hS => ?_)
        have hP : va_P D vwCl (wM g cA t u23.2.1 u23.2.2 d q k r c o ((m.1, m.2.1 + 1, m.2.2.1, (-1), m.2.2.2.2.1, m.2.2.2.2.2))) H := hP
        have hD : va_D A (wM g cA t u23.2.1 u23.2.2 d q k r c o ((m.1, m.2.1 + 1, m.2.2.1, (-1), m.2.2.2.2.1, m.2.2.2.2.2))) := hD
        obtain rfl := Option.some.inj hE
        exact rt_i hx hb hr hP hS rfl hlocks dX3_carryOutNext_173
      have hE := if_f c22 hE
      by_cases c25 : (wV_group.getD m.2.2.2.1.toNatClampNeg 0) = 5
      · have hE := if_t c25 hE
        refine lv_tableIn (tgt := 174) (off := 113) hx hb dX3_carryOutNext_61 (by rw [c25]; decide +kernel) (by rw [c25]; decide +kernel) (by rw [c25]; decide +kernel) (by decide) ?_
        refine lv_aload_n hx hb dX3_carryOutNext_174 rfl (lv_at hl 3 rfl) ?_
        refine lv_aload_n hx hb dX3_carryOutNext_175 rfl (lv_at hl 1 rfl) ?_
        obtain ⟨u26, h27, hE⟩ := bd_some hE
        refine cw_i (As := [.ref (ad m.2.2.2.1.toNatClampNeg)]) (rest := []) (r := u26.1) (wc := (wM g cA t s y d q k r c o (((m.1, m.2.1 + 1, m.2.2.1, (-1), m.2.2.2.2.1, m.2.2.2.2.2))))) ⟨hx, hb, hml, hown, hts⟩ (c_X3_write l D cA ad adK adV tA tS g H.size m.2.2.2.1.toNatClampNeg t s y d q k r c o ((m.1, m.2.1 + 1, m.2.2.1, (-1), m.2.2.2.2.1, m.2.2.2.2.2)) u26 h27) (cwV 1 hts hX3_carryOutNext_X3_write_228 rfl rfl rfl (by decide +kernel) ⟨Nat.le_of_ble_eq_true rfl, Nat.le_of_ble_eq_true rfl⟩) rfl hl.1 rfl (Nat.le_of_ble_eq_true rfl) dX3_carryOutNext_176 ⟨Nat.zero_le _, Nat.zero_le _⟩ hK hP hD hS hA (va_recv hK hP (ci := 2) (q0 := 0) rfl rfl) [g 0, g 1, g 2, g 3, g 4, g 5, g 6, g 7, g 8, g 9, g 10, g 11, g 12, g 13, g 14, g 15, g 16, g 17, g 18, g 19, g 20, g 21, g 22, g 23, g 24, g 25, g 26, g 27] rfl rfl (fun a U g mk h => SX.blind a U g mk h) (fun U hU hW => SX.call hX hS (fun q h => h.elim (fun ⟨k, e, h⟩ => hD.2 k (q, e) h) (fun h => hA q (Nat.le_trans hS.1 h))) U hU hW) (fun H locs hP hD hS => ?_)
        have hP : va_P D vwCl (wM g cA t u26.2.1 y d q k r c u26.2.2 ((m.1, m.2.1 + 1, m.2.2.1, (-1), m.2.2.2.2.1, m.2.2.2.2.2))) H := hP
        have hD : va_D A (wM g cA t u26.2.1 y d q k r c u26.2.2 ((m.1, m.2.1 + 1, m.2.2.1, (-1), m.2.2.2.2.1, m.2.2.2.2.2))) := hD
        obtain rfl := Option.some.inj hE
        exact rt_i hx hb hr hP hS rfl hlocks dX3_carryOutNext_179
      have hE := if_f c25 hE
      by_cases c28 : (wV_group.getD m.2.2.2.1.toNatClampNeg 0) = 6
      · have hE := if_t c28 hE
        refine lv_tableIn (tgt := 180) (off := 119) hx hb dX3_carryOutNext_61 (by rw [c28]; decide +kernel) (by rw [c28]; decide +kernel) (by rw [c28]; decide +kernel) (by decide) ?_
        refine lv_aload_n hx hb dX3_carryOutNext_180 rfl (lv_at hl 3 rfl) ?_
        refine lv_aload_n hx hb dX3_carryOutNext_181 rfl (lv_at hl 1 rfl) ?_
        obtain ⟨u29, h30, hE⟩ := bd_some hE
        refine cw_i (As := [.ref (ad m.2.2.2.1.toNatClampNeg)]) (rest := []) (r := u29.1) (wc := (wM g cA t s y d q k r c o (((m.1, m.2.1 + 1, m.2.2.1, (-1), m.2.2.2.2.1, m.2.2.2.2.2))))) ⟨hx, hb, hml, hown, hts⟩ (c_X3_control l D cA ad adK adV tA tS g H.size m.2.2.2.1.toNatClampNeg t s y d q k r c o ((m.1, m.2.1 + 1, m.2.2.1, (-1), m.2.2.2.2.1, m.2.2.2.2.2)) u29 h30) (cwV 1 hts hX3_carryOutNext_X3_control_231 rfl rfl rfl (by decide +kernel) ⟨Nat.le_of_ble_eq_true rfl, Nat.le_of_ble_eq_true rfl⟩) rfl hl.1 rfl (Nat.le_of_ble_eq_true rfl) dX3_carryOutNext_182 ⟨Nat.zero_le _, Nat.zero_le _⟩ hK hP hD hS hA (va_recv hK hP (ci := 2) (q0 := 0) rfl rfl) [g 0, g 1, g 2, g 3, g 4, g 5, g 6, g 7, g 8, g 9, g 10, g 11, g 12, g 13, g 14, g 15, g 16, g 17, g 18, g 19, g 20, g 21, g 22, g 23, g 24, g 25, g 26, g 27] rfl rfl (fun a U g mk h => SX.blind a U g mk h) (fun U hU hW => SX.call hX hS (fun q h => h.elim (fun ⟨k, e, h⟩ => hD.2 k (q, e) h) (fun h => hA q (Nat.le_trans hS.1 h))) U hU hW) (fun H locs hP hD hS => ?_)
        have hP : va_P D vwCl (wM g cA t u29.2.1 y d q k r u29.2.2.1 o u29.2.2.2) H := hP
        have hD : va_D A (wM g cA t u29.2.1 y d q k r u29.2.2.1 o u29.2.2.2) := hD
        obtain rfl := Option.some.inj hE
        exact rt_i hx hb hr hP hS rfl hlocks dX3_carryOutNext_185
      have hE := if_f c28 hE
      by_cases c31 : (wV_group.getD m.2.2.2.1.toNatClampNeg 0) = 7
      · have hE := if_t c31 hE
        refine lv_tableIn (tgt := 186) (off := 125) hx hb dX3_carryOutNext_61 (by rw [c31]; decide +kernel) (by rw [c31]; decide +kernel) (by rw [c31]; decide +kernel) (by decide) ?_
        refine lv_aload_n hx hb dX3_carryOutNext_186 rfl (lv_at hl 3 rfl) ?_
        refine va_get (D := D) (ci := 2) (v := .ref (g 1)) (C := RX3) (T := TX3) (N := 14) hx hb hts inX3 hown hK hP 0 rfl rfl 7 (by decide) k6 (fun _ h9 => h9) rfl dX3_carryOutNext_187 ?_
        refine lv_aload_n hx hb dX3_carryOutNext_190 rfl (lv_at hl 1 rfl) ?_
        obtain ⟨u32, h33, hE⟩ := bd_some hE
        refine cn_i (As := [.ref (ad m.2.2.2.1.toNatClampNeg)]) (rest := []) (r := u32.1) (w0 := (wM g cA t s y d q k r c o ((m.1, m.2.1 + 1, m.2.2.1, (-1), m.2.2.2.2.1, m.2.2.2.2.2)))) (N := 28) ⟨hx, hb, hml, hown, hts⟩ (c_X4_define l D cA ad adK adV tA tS (fun k => g (k + 1)) H.size m.2.2.2.1.toNatClampNeg t s y d q k u32 h33) (cwV 1 hts hX3_carryOutNext_X4_define_234 rfl rfl rfl (by decide +kernel) ⟨Nat.le_of_ble_eq_true rfl, Nat.le_of_ble_eq_true rfl⟩) rfl hl.1 rfl (Nat.le_of_ble_eq_true rfl) dX3_carryOutNext_191 ⟨Nat.zero_le _, Nat.zero_le _⟩ hK hP hD hS hA (va_recv hK hP (ci := 3) (q0 := 1) rfl rfl) [1, 2, 3, 4, 5, 6, 7, 8, 9, 10, 11, 12, 13, 14, 15, 16, 17, 18] [0, 19, 20, 21, 22, 23, 24, 25, 26, 27] (wM g cA u32.2.1 u32.2.2.1 u32.2.2.2.1 u32.2.2.2.2.1 q u32.2.2.2.2.2 r c o ((m.1, m.2.1 + 1, m.2.2.1, (-1), m.2.2.2.2.1, m.2.2.2.2.2))) rfl (by decide +kernel) rfl (wr := List.filterMap (fun i => (wM g cA t s y d q k r c o ((m.1, m.2.1 + 1, m.2.2.1, (-1), m.2.2.2.2.1, m.2.2.2.2.2)))[i]?) [0, 19, 20, 21, 22, 23, 24, 25, 26, 27]) rfl rfl (by decide +kernel) rfl (by decide +kernel) [g 0, g 1, g 2, g 3, g 4, g 5, g 6, g 7, g 8, g 9, g 10, g 11, g 12, g 13, g 14, g 15, g 16, g 17, g 18, g 19, g 20, g 21, g 22, g 23, g 24, g 25, g 26, g 27] rfl rfl (fun a U g mk h => SX.blind a U g mk h) (fun U hU hW => SX.call hX hS (va_free (wc := (wK (fun k => g (k + 1)) cA t s y d q k)) hD hS hA [1, 2, 3, 4, 5, 6, 7, 8, 9, 10, 11, 12, 13, 14, 15, 16, 17, 18] rfl) U hU hW) (fun H locs hP hD hS => ?_)
        have hP : va_P D vwCl (wM g cA u32.2.1 u32.2.2.1 u32.2.2.2.1 u32.2.2.2.2.1 q u32.2.2.2.2.2 r c o ((m.1, m.2.1 + 1, m.2.2.1, (-1), m.2.2.2.2.1, m.2.2.2.2.2))) H := hP
        have hD : va_D A (wM g cA u32.2.1 u32.2.2.1 u32.2.2.2.1 u32.2.2.2.2.1 q u32.2.2.2.2.2 r c o ((m.1, m.2.1 + 1, m.2.2.1, (-1), m.2.2.2.2.1, m.2.2.2.2.2))) := hD
        obtain rfl := Option.some.inj hE
        exact rt_i hx hb hr hP hS rfl hlocks dX3_carryOutNext_194
      have hE := if_f c31 hE
      by_cases c34 : (wV_group.getD m.2.2.2.1.toNatClampNeg 0) = 8
      · have hE := if_t c34 hE
        refine lv_tableIn (tgt := 195) (off := 134) hx hb dX3_carryOutNext_61 (by rw [c34]; decide +kernel) (by rw [c34]; decide +kernel) (by rw [c34]; decide +kernel) (by decide) ?_
        refine lv_aload_n hx hb dX3_carryOutNext_195 rfl (lv_at hl 3 rfl) ?_
        refine va_get (D := D) (ci := 2) (v := .ref (g 1)) (C := RX3) (T := TX3) (N := 14) hx hb hts inX3 hown hK hP 0 rfl rfl 7 (by decide) k6 (fun _ h9 => h9) rfl dX3_carryOutNext_196 ?_
        refine lv_aload_n hx hb dX3_carryOutNext_199 rfl (lv_at hl 1 rfl) ?_
        obtain ⟨u35, h36, hE⟩ := bd_some hE
        refine cn_i (As := [.ref (ad m.2.2.2.1.toNatClampNeg)]) (rest := []) (r := u35.1) (w0 := (wM g cA t s y d q k r c o ((m.1, m.2.1 + 1, m.2.2.1, (-1), m.2.2.2.2.1, m.2.2.2.2.2)))) (N := 28) ⟨hx, hb, hml, hown, hts⟩ (c_X4_make l D cA ad adK adV tA tS (fun k => g (k + 1)) H.size m.2.2.2.1.toNatClampNeg t s y d q k u35 h36) (cwV 1 hts hX3_carryOutNext_X4_make_237 rfl rfl rfl (by decide +kernel) ⟨Nat.le_of_ble_eq_true rfl, Nat.le_of_ble_eq_true rfl⟩) rfl hl.1 rfl (Nat.le_of_ble_eq_true rfl) dX3_carryOutNext_200 ⟨Nat.zero_le _, Nat.zero_le _⟩ hK hP hD hS hA (va_recv hK hP (ci := 3) (q0 := 1) rfl rfl) [1, 2, 3, 4, 5, 6, 7, 8, 9, 10, 11, 12, 13, 14, 15, 16, 17, 18] [0, 19, 20, 21, 22, 23, 24, 25, 26, 27] (wM g cA t u35.2.1 u35.2.2.1 u35.2.2.2.1 q u35.2.2.2.2 r c o ((m.1, m.2.1 + 1, m.2.2.1, (-1), m.2.2.2.2.1, m.2.2.2.2.2))) rfl (by decide +kernel) rfl (wr := List.filterMap (fun i => (wM g cA t s y d q k r c o ((m.1, m.2.1 + 1, m.2.2.1, (-1), m.2.2.2.2.1, m.2.2.2.2.2)))[i]?) [0, 19, 20, 21, 22, 23, 24, 25, 26, 27]) rfl rfl (by decide +kernel) rfl (by decide +kernel) [g 0, g 1, g 2, g 3, g 4, g 5, g 6, g 7, g 8, g 9, g 10, g 11, g 12, g 13, g 14, g 15, g 16, g 17, g 18, g 19, g 20, g 21, g 22, g 23, g 24, g 25, g 26, g 27] rfl rfl (fun a U g mk h => SX.blind a U g mk h) (fun U hU hW => SX.call hX hS (va_free (wc := (wK (fun k => g (k + 1)) cA t s y d q k)) hD hS hA [1, 2, 3, 4, 5, 6, 7, 8, 9, 10, 11, 12, 13, 14, 15, 16, 17, 18] rfl) U hU hW) (fun H locs hP hD hS => ?_)
        have hP : va_P D vwCl (wM g cA t u35.2.1 u35.2.2.1 u35.2.2.2.1 q u35.2.2.2.2 r c o ((m.1, m.2.1 + 1, m.2.2.1, (-1), m.2.2.2.2.1, m.2.2.2.2.2))) H := hP
        have hD : va_D A (wM g cA t u35.2.1 u35.2.2.1 u35.2.2.2.1 q u35.2.2.2.2 r c o ((m.1, m.2.1 + 1, m.2.2.1, (-1), m.2.2.2.2.1, m.2.2.2.2.2))) := hD
        obtain rfl := Option.some.inj hE
        exact rt_i hx hb hr hP hS rfl hlocks dX3_carryOutNext_203
      have hE := if_f c34 hE
      by_cases c37 : (wV_group.getD m.2.2.2.1.toNatClampNeg 0) = 9
      · have hE := if_t c37 hE
        refine lv_tableIn (tgt := 204) (off := 143) hx hb dX3_carryOutNext_61 (by rw [c37]; decide +kernel) (by rw [c37]; decide +kernel) (by rw [c37]; decide +kernel) (by decide) ?_
        refine lv_aload_n hx hb dX3_carryOutNext_204 rfl (lv_at hl 3 rfl) ?_
        refine va_get (D := D) (ci := 2) (v := .ref (g 1)) (C := RX3) (T := TX3) (N := 14) hx hb hts inX3 hown hK hP 0 rfl rfl 7 (by decide) k6 (fun _ h9 => h9) rfl dX3_carryOutNext_205 ?_
        refine lv_aload_n hx hb dX3_carryOutNext_208 rfl (lv_at hl 1 rfl) ?_
        obtain ⟨u38, h39, hE⟩ := bd_some hE
        refine cn_i (As := [.ref (ad m.2.2.2.1.toNatClampNeg)]) (rest := []) (r := u38.1) (w0 := (wM g cA t s y d q k r c o ((m.1, m.2.1 + 1, m.2.2.1, (-1), m.2.2.2.2.1, m.2.2.2.2.2)))) (N := 28) ⟨hx, hb, hml, hown, hts⟩ (c_X4_useNamed l D cA ad adK adV tA tS (fun k => g (k + 1)) H.size m.2.2.2.1.toNatClampNeg t s y d q k u38 h39) (cwV 1 hts hX3_carryOutNext_X4_useNamed_240 rfl rfl rfl (by decide +kernel) ⟨Nat.le_of_ble_eq_true rfl, Nat.le_of_ble_eq_true rfl⟩) rfl hl.1 rfl (Nat.le_of_ble_eq_true rfl) dX3_carryOutNext_209 ⟨Nat.zero_le _, Nat.zero_le _⟩ hK hP hD hS hA (va_recv hK hP (ci := 3) (q0 := 1) rfl rfl) [1, 2, 3, 4, 5, 6, 7, 8, 9, 10, 11, 12, 13, 14, 15, 16, 17, 18] [0, 19, 20, 21, 22, 23, 24, 25, 26, 27] (wM g cA u38.2.1 u38.2.2.1 u38.2.2.2 d q k r c o ((m.1, m.2.1 + 1, m.2.2.1, (-1), m.2.2.2.2.1, m.2.2.2.2.2))) rfl (by decide +kernel) rfl (wr := List.filterMap (fun i => (wM g cA t s y d q k r c o ((m.1, m.2.1 + 1, m.2.2.1, (-1), m.2.2.2.2.1, m.2.2.2.2.2)))[i]?) [0, 19, 20, 21, 22, 23, 24, 25, 26, 27]) rfl rfl (by decide +kernel) rfl (by decide +kernel) [g 0, g 1, g 2, g 3, g 4, g 5, g 6, g 7, g 8, g 9, g 10, g 11, g 12, g 13, g 14, g 15, g 16, g 17, g 18, g 19, g 20, g 21, g 22, g 23, g 24, g 25, g 26, g 27] rfl rfl (fun a U g mk h => SX.blind a U g mk h) (fun U hU hW => SX.call hX hS (va_free (wc := (wK (fun k => g (k + 1)) cA t s y d q k)) hD hS hA [1, 2, 3, 4, 5, 6, 7, 8, 9, 10, 11, 12, 13, 14, 15, 16, 17, 18] rfl) U hU hW) (fun H locs hP hD hS => ?_)
        have hP : va_P D vwCl (wM g cA u38.2.1 u38.2.2.1 u38.2.2.2 d q k r c o ((m.1, m.2.1 + 1, m.2.2.1, (-1), m.2.2.2.2.1, m.2.2.2.2.2))) H := hP
        have hD : va_D A (wM g cA u38.2.1 u38.2.2.1 u38.2.2.2 d q k r c o ((m.1, m.2.1 + 1, m.2.2.1, (-1), m.2.2.2.2.1, m.2.2.2.2.2))) := hD
        obtain rfl := Option.some.inj hE
        exact rt_i hx hb hr hP hS rfl hlocks dX3_carryOutNext_212
      have hE := if_f c37 hE
      by_cases c40 : (wV_group.getD m.2.2.2.1.toNatClampNeg 0) = 10
      · have hE := if_t c40 hE
        refine lv_tableIn (tgt := 213) (off := 152) hx hb dX3_carryOutNext_61 (by rw [c40]; decide +kernel) (by rw [c40]; decide +kernel) (by rw [c40]; decide +kernel) (by decide) ?_
        refine lv_aload_n hx hb dX3_carryOutNext_213 rfl (lv_at hl 3 rfl) ?_
        refine va_get (D := D) (ci := 2) (v := .ref (g 1)) (C := RX3) (T := TX3) (N := 14) hx hb hts inX3 hown hK hP 0 rfl rfl 7 (by decide) k6 (fun _ h9 => h9) rfl dX3_carryOutNext_214 ?_
        refine lv_aload_n hx hb dX3_carryOutNext_217 rfl (lv_at hl 1 rfl) ?_
        obtain ⟨u41, h42, hE⟩ := bd_some hE
        refine cn_i (As := [.ref (ad m.2.2.2.1.toNatClampNeg)]) (rest := []) (r := u41.1) (w0 := (wM g cA t s y d q k r c o ((m.1, m.2.1 + 1, m.2.2.1, (-1), m.2.2.2.2.1, m.2.2.2.2.2)))) (N := 28) ⟨hx, hb, hml, hown, hts⟩ (c_X4_doAtOnce l D cA ad adK adV tA tS (fun k => g (k + 1)) H.size m.2.2.2.1.toNatClampNeg t s y d q k u41 h42) (cwV 1 hts hX3_carryOutNext_X4_doAtOnce_243 rfl rfl rfl (by decide +kernel) ⟨Nat.le_of_ble_eq_true rfl, Nat.le_of_ble_eq_true rfl⟩) rfl hl.1 rfl (Nat.le_of_ble_eq_true rfl) dX3_carryOutNext_218 ⟨Nat.zero_le _, Nat.zero_le _⟩ hK hP hD hS hA (va_recv hK hP (ci := 3) (q0 := 1) rfl rfl) [1, 2, 3, 4, 5, 6, 7, 8, 9, 10, 11, 12, 13, 14, 15, 16, 17, 18] [0, 19, 20, 21, 22, 23, 24, 25, 26, 27] (wM g cA u41.2.1 s y d q u41.2.2 r c o ((m.1, m.2.1 + 1, m.2.2.1, (-1), m.2.2.2.2.1, m.2.2.2.2.2))) rfl (by decide +kernel) rfl (wr := List.filterMap (fun i => (wM g cA t s y d q k r c o ((m.1, m.2.1 + 1, m.2.2.1, (-1), m.2.2.2.2.1, m.2.2.2.2.2)))[i]?) [0, 19, 20, 21, 22, 23, 24, 25, 26, 27]) rfl rfl (by decide +kernel) rfl (by decide +kernel) [g 0, g 1, g 2, g 3, g 4, g 5, g 6, g 7, g 8, g 9, g 10, g 11, g 12, g 13, g 14, g 15, g 16, g 17, g 18, g 19, g 20, g 21, g 22, g 23, g 24, g 25, g 26, g 27] rfl rfl (fun a U g mk h => SX.blind a U g mk h) (fun U hU hW => SX.call hX hS (va_free (wc := (wK (fun k => g (k + 1)) cA t s y d q k)) hD hS hA [1, 2, 3, 4, 5, 6, 7, 8, 9, 10, 11, 12, 13, 14, 15, 16, 17, 18] rfl) U hU hW) (fun H locs hP hD hS => ?_)
        have hP : va_P D vwCl (wM g cA u41.2.1 s y d q u41.2.2 r c o ((m.1, m.2.1 + 1, m.2.2.1, (-1), m.2.2.2.2.1, m.2.2.2.2.2))) H := hP
        have hD : va_D A (wM g cA u41.2.1 s y d q u41.2.2 r c o ((m.1, m.2.1 + 1, m.2.2.1, (-1), m.2.2.2.2.1, m.2.2.2.2.2))) := hD
        obtain rfl := Option.some.inj hE
        exact rt_i hx hb hr hP hS rfl hlocks dX3_carryOutNext_221
      have hE := if_f c40 hE
      by_cases c43 : (wV_group.getD m.2.2.2.1.toNatClampNeg 0) = 11
      · have hE := if_t c43 hE
        refine lv_tableIn (tgt := 222) (off := 161) hx hb dX3_carryOutNext_61 (by rw [c43]; decide +kernel) (by rw [c43]; decide +kernel) (by rw [c43]; decide +kernel) (by decide) ?_
        refine lv_aload_n hx hb dX3_carryOutNext_222 rfl (lv_at hl 3 rfl) ?_
        refine va_get (D := D) (ci := 2) (v := .ref (g 1)) (C := RX3) (T := TX3) (N := 14) hx hb hts inX3 hown hK hP 0 rfl rfl 7 (by decide) k6 (fun _ h9 => h9) rfl dX3_carryOutNext_223 ?_
        refine lv_aload_n hx hb dX3_carryOutNext_226 rfl (lv_at hl 1 rfl) ?_
        obtain ⟨u44, h45, hE⟩ := bd_some hE
        refine cn_i (As := [.ref (ad m.2.2.2.1.toNatClampNeg)]) (rest := []) (r := u44.1) (w0 := (wM g cA t s y d q k r c o ((m.1, m.2.1 + 1, m.2.2.1, (-1), m.2.2.2.2.1, m.2.2.2.2.2)))) (N := 28) ⟨hx, hb, hml, hown, hts⟩ (c_X4_compileInto l D cA ad adK adV tA tS (fun k => g (k + 1)) H.size m.2.2.2.1.toNatClampNeg t s y d q k u44 h45) (cwV 1 hts hX3_carryOutNext_X4_compileInto_246 rfl rfl rfl (by decide +kernel) ⟨Nat.le_of_ble_eq_true rfl, Nat.le_of_ble_eq_true rfl⟩) rfl hl.1 rfl (Nat.le_of_ble_eq_true rfl) dX3_carryOutNext_227 ⟨Nat.zero_le _, Nat.zero_le _⟩ hK hP hD hS hA (va_recv hK hP (ci := 3) (q0 := 1) rfl rfl) [1, 2, 3, 4, 5, 6, 7, 8, 9, 10, 11, 12, 13, 14, 15, 16, 17, 18] [0, 19, 20, 21, 22, 23, 24, 25, 26, 27] (wM g cA t u44.2.1 u44.2.2.1 u44.2.2.2.1 q u44.2.2.2.2 r c o ((m.1, m.2.1 + 1, m.2.2.1, (-1), m.2.2.2.2.1, m.2.2.2.2.2))) rfl (by decide +kernel) rfl (wr := List.filterMap (fun i => (wM g cA t s y d q k r c o ((m.1, m.2.1 + 1, m.2.2.1, (-1), m.2.2.2.2.1, m.2.2.2.2.2)))[i]?) [0, 19, 20, 21, 22, 23, 24, 25, 26, 27]) rfl rfl (by decide +kernel) rfl (by decide +kernel) [g 0, g 1, g 2, g 3, g 4, g 5, g 6, g 7, g 8, g 9, g 10, g 11, g 12, g 13, g 14, g 15, g 16, g 17, g 18, g 19, g 20, g 21, g 22, g 23, g 24, g 25, g 26, g 27] rfl rfl (fun a U g mk h => SX.blind a U g mk h) (fun U hU hW => SX.call hX hS (va_free (wc := (wK (fun k => g (k + 1)) cA t s y d q k)) hD hS hA [1, 2, 3, 4, 5, 6, 7, 8, 9, 10, 11, 12, 13, 14, 15, 16, 17, 18] rfl) U hU hW) (fun H locs hP hD hS => ?_)
        have hP : va_P D vwCl (wM g cA t u44.2.1 u44.2.2.1 u44.2.2.2.1 q u44.2.2.2.2 r c o ((m.1, m.2.1 + 1, m.2.2.1, (-1), m.2.2.2.2.1, m.2.2.2.2.2))) H := hP
        have hD : va_D A (wM g cA t u44.2.1 u44.2.2.1 u44.2.2.2.1 q u44.2.2.2.2 r c o ((m.1, m.2.1 + 1, m.2.2.1, (-1), m.2.2.2.2.1, m.2.2.2.2.2))) := hD
        obtain rfl := Option.some.inj hE
        exact rt_i hx hb hr hP hS rfl hlocks dX3_carryOutNext_230
      have hE := if_f c43 hE
      by_cases c46 : (wV_group.getD m.2.2.2.1.toNatClampNeg 0) = 12
      · have hE := if_t c46 hE
        refine lv_tableIn (tgt := 204) (off := 143) hx hb dX3_carryOutNext_61 (by rw [c46]; decide +kernel) (by rw [c46]; decide +kernel) (by rw [c46]; decide +kernel) (by decide) ?_
        refine lv_aload_n hx hb dX3_carryOutNext_204 rfl (lv_at hl 3 rfl) ?_
        refine va_get (D := D) (ci := 2) (v := .ref (g 1)) (C := RX3) (T := TX3) (N := 14) hx hb hts inX3 hown hK hP 0 rfl rfl 7 (by decide) k6 (fun _ h9 => h9) rfl dX3_carryOutNext_205 ?_
        refine lv_aload_n hx hb dX3_carryOutNext_208 rfl (lv_at hl 1 rfl) ?_
        obtain ⟨u47, h48, hE⟩ := bd_some hE
        refine cn_i (As := [.ref (ad m.2.2.2.1.toNatClampNeg)]) (rest := []) (r := u47.1) (w0 := (wM g cA t s y d q k r c o ((m.1, m.2.1 + 1, m.2.2.1, (-1), m.2.2.2.2.1, m.2.2.2.2.2)))) (N := 28) ⟨hx, hb, hml, hown, hts⟩ (c_X4_useNamed l D cA ad adK adV tA tS (fun k => g (k + 1)) H.size m.2.2.2.1.toNatClampNeg t s y d q k u47 h48) (cwV 1 hts hX3_carryOutNext_X4_useNamed_240 rfl rfl rfl (by decide +kernel) ⟨Nat.le_of_ble_eq_true rfl, Nat.le_of_ble_eq_true rfl⟩) rfl hl.1 rfl (Nat.le_of_ble_eq_true rfl) dX3_carryOutNext_209 ⟨Nat.zero_le _, Nat.zero_le _⟩ hK hP hD hS hA (va_recv hK hP (ci := 3) (q0 := 1) rfl rfl) [1, 2, 3, 4, 5, 6, 7, 8, 9, 10, 11, 12, 13, 14, 15, 16, 17, 18] [0, 19, 20, 21, 22, 23, 24, 25, 26, 27] (wM g cA u47.2.1 u47.2.2.1 u47.2.2.2 d q k r c o ((m.1, m.2.1 + 1, m.2.2.1, (-1), m.2.2.2.2.1, m.2.2.2.2.2))) rfl (by decide +kernel) rfl (wr := List.filterMap (fun i => (wM g cA t s y d q k r c o ((m.1, m.2.1 + 1, m.2.2.1, (-1), m.2.2.2.2.1, m.2.2.2.2.2)))[i]?) [0, 19, 20, 21, 22, 23, 24, 25, 26, 27]) rfl rfl (by decide +kernel) rfl (by decide +kernel) [g 0, g 1, g 2, g 3, g 4, g 5, g 6, g 7, g 8, g 9, g 10, g 11, g 12, g 13, g 14, g 15, g 16, g 17, g 18, g 19, g 20, g 21, g 22, g 23, g 24, g 25, g 26, g 27] rfl rfl (fun a U g mk h => SX.blind a U g mk h) (fun U hU hW => SX.call hX hS (va_free (wc := (wK (fun k => g (k + 1)) cA t s y d q k)) hD hS hA [1, 2, 3, 4, 5, 6, 7, 8, 9, 10, 11, 12, 13, 14, 15, 16, 17, 18] rfl) U hU hW) (fun H locs hP hD hS => ?_)
        have hP : va_P D vwCl (wM g cA u47.2.1 u47.2.2.1 u47.2.2.2 d q k r c o ((m.1, m.2.1 + 1, m.2.2.1, (-1), m.2.2.2.2.1, m.2.2.2.2.2))) H := hP
        have hD : va_D A (wM g cA u47.2.1 u47.2.2.1 u47.2.2.2 d q k r c o ((m.1, m.2.1 + 1, m.2.2.1, (-1), m.2.2.2.2.1, m.2.2.2.2.2))) := hD
        obtain rfl := Option.some.inj hE
        exact rt_i hx hb hr hP hS rfl hlocks dX3_carryOutNext_212
      have hE := if_f c46 hE
      have tc6 := lv_neT c6 (show (0 : Int32).toInt = 0 by decide +kernel)
      have tc9 := lv_neT c9 (show (1 : Int32).toInt = 1 by decide +kernel)
      have tc12 := lv_neT c12 (show (2 : Int32).toInt = 2 by decide +kernel)
      have tc19 := lv_neT c19 (show (3 : Int32).toInt = 3 by decide +kernel)
      have tc22 := lv_neT c22 (show (4 : Int32).toInt = 4 by decide +kernel)
      have tc25 := lv_neT c25 (show (5 : Int32).toInt = 5 by decide +kernel)
      have tc28 := lv_neT c28 (show (6 : Int32).toInt = 6 by decide +kernel)
      have tc31 := lv_neT c31 (show (7 : Int32).toInt = 7 by decide +kernel)
      have tc34 := lv_neT c34 (show (8 : Int32).toInt = 8 by decide +kernel)
      have tc37 := lv_neT c37 (show (9 : Int32).toInt = 9 by decide +kernel)
      have tc40 := lv_neT c40 (show (10 : Int32).toInt = 10 by decide +kernel)
      have tc43 := lv_neT c43 (show (11 : Int32).toInt = 11 by decide +kernel)
      have tc46 := lv_neT c46 (show (12 : Int32).toInt = 12 by decide +kernel)
      refine lv_tableOut (tgt := 231) hx hb dX3_carryOutNext_61 (by omega) (by decide) ?_
      refine lv_aload_n hx hb dX3_carryOutNext_231 rfl (lv_at hl 3 rfl) ?_
      refine va_get (D := D) (ci := 2) (v := .ref (g 1)) (C := RX3) (T := TX3) (N := 14) hx hb hts inX3 hown hK hP 0 rfl rfl 7 (by decide) k6 (fun _ h9 => h9) rfl dX3_carryOutNext_232 ?_
      refine lv_aload_n hx hb dX3_carryOutNext_235 rfl (lv_at hl 1 rfl) ?_
      obtain ⟨u49, h50, hE⟩ := bd_some hE
      refine cn_i (As := [.ref (ad m.2.2.2.1.toNatClampNeg)]) (rest := []) (r := u49.1) (w0 := (wM g cA t s y d q k r c o ((m.1, m.2.1 + 1, m.2.2.1, (-1), m.2.2.2.2.1, m.2.2.2.2.2)))) (N := 28) ⟨hx, hb, hml, hown, hts⟩ (c_X4_structure l D cA ad adK adV tA tS (fun k => g (k + 1)) H.size m.2.2.2.1.toNatClampNeg t s y d q k u49 h50) (cwV 1 hts hX3_carryOutNext_X4_structure_249 rfl rfl rfl (by decide +kernel) ⟨Nat.le_of_ble_eq_true rfl, Nat.le_of_ble_eq_true rfl⟩) rfl hl.1 rfl (Nat.le_of_ble_eq_true rfl) dX3_carryOutNext_236 ⟨Nat.zero_le _, Nat.zero_le _⟩ hK hP hD hS hA (va_recv hK hP (ci := 3) (q0 := 1) rfl rfl) [1, 2, 3, 4, 5, 6, 7, 8, 9, 10, 11, 12, 13, 14, 15, 16, 17, 18] [0, 19, 20, 21, 22, 23, 24, 25, 26, 27] (wM g cA t s u49.2.1 d u49.2.2 k r c o ((m.1, m.2.1 + 1, m.2.2.1, (-1), m.2.2.2.2.1, m.2.2.2.2.2))) rfl (by decide +kernel) rfl (wr := List.filterMap (fun i => (wM g cA t s y d q k r c o ((m.1, m.2.1 + 1, m.2.2.1, (-1), m.2.2.2.2.1, m.2.2.2.2.2)))[i]?) [0, 19, 20, 21, 22, 23, 24, 25, 26, 27]) rfl rfl (by decide +kernel) rfl (by decide +kernel) [g 0, g 1, g 2, g 3, g 4, g 5, g 6, g 7, g 8, g 9, g 10, g 11, g 12, g 13, g 14, g 15, g 16, g 17, g 18, g 19, g 20, g 21, g 22, g 23, g 24, g 25, g 26, g 27] rfl rfl (fun a U g mk h => SX.blind a U g mk h) (fun U hU hW => SX.call hX hS (va_free (wc := (wK (fun k => g (k + 1)) cA t s y d q k)) hD hS hA [1, 2, 3, 4, 5, 6, 7, 8, 9, 10, 11, 12, 13, 14, 15, 16, 17, 18] rfl) U hU hW) (fun H locs hP hD hS => ?_)
      have hP : va_P D vwCl (wM g cA t s u49.2.1 d u49.2.2 k r c o ((m.1, m.2.1 + 1, m.2.2.1, (-1), m.2.2.2.2.1, m.2.2.2.2.2))) H := hP
      have hD : va_D A (wM g cA t s u49.2.1 d u49.2.2 k r c o ((m.1, m.2.1 + 1, m.2.2.1, (-1), m.2.2.2.2.1, m.2.2.2.2.2))) := hD
      obtain rfl := Option.some.inj hE
      exact rt_i hx hb hr hP hS rfl hlocks dX3_carryOutNext_239
    · have hE := if_f c5 hE
      refine lv_iload_n hx hb dX3_carryOutNext_55 rfl (lv_at hl 0 rfl) ?_
      obtain rfl := Option.some.inj hE
      exact rt_i hx hb hr hP hS rfl hlocks dX3_carryOutNext_56
  · have hE := if_f c1 hE
    refine lv_aload_n hx hb dX3_carryOutNext_28 rfl (lv_at hl 1 rfl) ?_
    refine lv_iload_n hx hb dX3_carryOutNext_29 rfl (lv_at hl 0 rfl) ?_
    refine va_getsN hx hb hX.2.1 hS hown (k3 _) (fun _ h9 => h9) dX3_carryOutNext_30 ?_
    refine va_tlen hx hb hX.2.2.1 hS (v := 82) (by decide +kernel) dX3_carryOutNext_33 ?_
    refine lv_isub hx hb dX3_carryOutNext_34 ?_
    obtain ⟨u51, h52, hE⟩ := bd_some hE
    refine cw_i (As := [.int (m.2.2.2.1 - 82)]) (rest := []) (r := u51.1) (wc := (wM g cA t s y d q k r c o (((m.1, m.2.1 + 1, m.2.2.1, (-1), m.2.2.2.2.1, m.2.2.2.2.2))))) ⟨hx, hb, hml, hown, hts⟩ (c_X3_carryOutMade l D cA ad adK adV tA tS g H.size (m.2.2.2.1 - 82) t s y d q k r c o ((m.1, m.2.1 + 1, m.2.2.1, (-1), m.2.2.2.2.1, m.2.2.2.2.2)) u51 h52) (cwV 1 hts hX3_carryOutNext_X3_carryOutMade_196 rfl rfl rfl (by decide +kernel) ⟨Nat.le_of_ble_eq_true rfl, Nat.le_of_ble_eq_true rfl⟩) rfl hl.1 rfl (Nat.le_of_ble_eq_true rfl) dX3_carryOutNext_35 ⟨Nat.zero_le _, Nat.zero_le _⟩ hK hP hD hS hA (va_recv hK hP (ci := 2) (q0 := 0) rfl rfl) [g 0, g 1, g 2, g 3, g 4, g 5, g 6, g 7, g 8, g 9, g 10, g 11, g 12, g 13, g 14, g 15, g 16, g 17, g 18, g 19, g 20, g 21, g 22, g 23, g 24, g 25, g 26, g 27] rfl rfl (fun a U g mk h => SX.blind a U g mk h) (fun U hU hW => SX.call hX hS (fun q h => h.elim (fun ⟨k, e, h⟩ => hD.2 k (q, e) h) (fun h => hA q (Nat.le_trans hS.1 h))) U hU hW) (fun H locs hP hD hS => ?_)
    have hP : va_P D vwCl (wM g cA t u51.2.1 y d q k r u51.2.2 o ((m.1, m.2.1 + 1, m.2.2.1, (-1), m.2.2.2.2.1, m.2.2.2.2.2))) H := hP
    have hD : va_D A (wM g cA t u51.2.1 y d q k r u51.2.2 o ((m.1, m.2.1 + 1, m.2.2.1, (-1), m.2.2.2.2.1, m.2.2.2.2.2))) := hD
    obtain rfl := Option.some.inj hE
    exact rt_i hx hb hr hP hS rfl hlocks dX3_carryOutNext_38
set_option maxRecDepth 20000 in
theorem hX3_meet_X1_latestCatch_130 : GoodIn wsX3_meet (wsV RX3 130 RX1 yX1_latestCatch wsX1_latestCatch) := goodIn_r _ [5, 6, 7, 8, 9, 10, 11, 63, 64, 65, 66, 67] rfl (by decide +kernel)
set_option maxRecDepth 20000 in
theorem hX3_meet_X3_endWith_91 : GoodIn wsX3_meet (wsV RX3 91 RX3 yX3_endWith wsX3_endWith) := goodIn_r _ [12, 13, 14, 15, 16, 2, 3, 1, 17, 18, 19, 20, 21, 22, 23, 24, 25, 26, 27, 28, 29, 30, 31, 32, 33, 34, 35, 36, 49, 50, 51, 52, 53, 54, 55, 56, 57, 58, 59, 60, 61, 62, 68, 69, 70, 63, 64, 65, 66, 67, 71, 72, 73, 74, 75, 76, 77, 78, 79, 80, 81, 82, 83, 84, 85, 86, 87, 88, 89] rfl (by decide +kernel)
set_option maxRecDepth 20000 in
theorem hX3_meet_X8_resize_137 : GoodIn wsX3_meet (wsV RX3 137 RX8 yX8_resize wsX8_resize) := goodIn_r _ [37, 38, 39, 40, 41, 42, 43, 68, 69, 70] rfl (by decide +kernel)
set_option maxRecDepth 20000 in
theorem hX3_meet_X8_put_120 : GoodIn wsX3_meet (wsV RX3 120 RX8 yX8_put wsX8_put) := goodIn_r _ [44, 45, 46, 40, 47, 42, 48, 43, 68, 69, 70] rfl (by decide +kernel)
set_option maxHeartbeats 4000000 in
set_option maxRecDepth 100000 in
theorem c_X3_meet (l : Launch) (D : va_G) (cA : Nat → ClassId) (ad adK adV : Nat → Nat) (tA tS : Nat) (g : Nat → Nat) (sz : Nat) (x1 : Int32) (t : tT) (s : tR) (y : tY) (d : tD) (q : tP) (k : tK) (r : tR) (c : tC) (o : tO) (m : tM) (u : tR × tY × tD × tP × tK × tR × tC × tM) (hE : f_X3_meet x1 s y d q k r c m = some u) : Met l yX3_meet wsX3_meet ({ frames := 3, cells := 0, slots := 0, locals := 61 }) (va_Pc [.ref (g 0), .int x1] (PRE D cA (wM g cA t s y d q k r c o m) sz (fun U => SX ad adK adV tA tS (va_A (wM g cA t s y d q k r c o m) sz) U U.heap))) (cQv D (wM g cA t u.1 u.2.1 u.2.2.1 u.2.2.2.1 u.2.2.2.2.1 u.2.2.2.2.2.1 u.2.2.2.2.2.2.1 o u.2.2.2.2.2.2.2) (va_A (wM g cA t s y d q k r c o m) sz)) 0 0 (va_A (wM g cA t s y d q k r c o m) sz) := by
  refine Met.ofW (cc := cX3_meet) (maxL := 3) (ret := none) (by decide) rfl ?_
  intro PP EE S0 MM args below meth CC S1 B hml hv
  obtain ⟨rfl, hsz, hP, hK, hD0, hX⟩ := hv
  have hx := B.exec
  have hb := B.bytes
  have hr := B.returns
  have hts := atoms_spec (ws := wsX3_meet) B.pre
  have hown : S0.vm.findClass RX3 = some MM.cls := findClass_of_methodNamed B.named
  have hlocks := B.notSynchronized
  subst hsz
  have hD := hD0.self (sz := S0.heap.size)
  have hX : SX ad adK adV tA tS (va_A (wM g cA t s y d q k r c o m) S0.heap.size) S0 S0.heap := hX
  generalize hAe : va_A (wM g cA t s y d q k r c o m) S0.heap.size = A at hD hX ⊢
  have hA : ∀ q : Nat, S0.heap.size ≤ q → A q := fun q h => by rw [← hAe]; exact Or.inr h
  have hS : va_S A S0.heap S0.heap [] := va_S.rf
  have k0 := hts (.fieldLink RX3 47 "WordForge$Machine" "calls" "LWordForge$Calls;") (List.mem_of_getElem? (i := 1) rfl)
  have inX3 : ∀ w ∈ wsX30, w ∈ wsX3_meet := fun _ h => List.mem_cons_of_mem _ (List.mem_append_left _ (List.mem_append_left _ (List.mem_append_left _ (List.mem_append_left _ (List.mem_append_left _ (List.mem_append_left _ (List.mem_append_right _ h)))))))
  have k2 := hts (.fieldLink RX3 23 "WordForge$Machine" "stack" "LWordForge$Row;") (List.mem_of_getElem? (i := 2) rfl)
  have k3 := hX.nest (.fieldLinkNest RX3 133 "WordForge$Calls" "notedStack" "[I" "WordForge") (List.mem_of_getElem? (i := 18) rfl)
  have inX1 : ∀ w ∈ wsX10, w ∈ wsX3_meet := fun _ h => List.mem_cons_of_mem _ (List.mem_append_left _ (List.mem_append_left _ (List.mem_append_left _ (List.mem_append_left _ (List.mem_append_left _ (List.mem_append_right _ h))))))
  have k5 := hts (.fieldLink RX3 27 "WordForge$Machine" "store" "LWordForge$Row;") (List.mem_of_getElem? (i := 3) rfl)
  have k6 := hX.nest (.fieldLinkNest RX3 140 "WordForge$Calls" "notedStore" "[I" "WordForge") (List.mem_of_getElem? (i := 19) rfl)
  have k7 := hX.nest (.fieldLinkNest RX3 143 "WordForge$Calls" "size" "I" "WordForge") (List.mem_of_getElem? (i := 20) rfl)
  have k8 := hts (.fieldLink RX3 77 "WordForge$Machine" "caught" "I") (List.mem_of_getElem? (i := 4) rfl)
  have hl := lv_entry ([.ref (g 0), .int x1]) (n := 3) (Nat.le_of_ble_eq_true rfl)
  rw [lg_entry_eq]
  generalize (lg_sl ([.ref (g 0), .int x1]) ++ List.replicate (3 - (lg_sl ([.ref (g 0), .int x1])).length) Slot.unset).toArray = ls at hl ⊢
  have hl : lv_has ls 3 [(0, .ref (g 0)), (1, .int x1)] := hl
  unfold f_X3_meet at hE
  suffices main : ∀ (H : Heap) (locs : List Loc) (ls : Array Slot), va_P D vwCl (wM g cA t s y d q k r c o m) H → va_D A (wM g cA t s y d q k r c o m) → va_S A S0.heap H locs → lv_has ls 3 [(0, .ref (g 0)), (1, .int x1)] → W PP l EE (headSpec wsX3_meet ({ frames := 3, cells := 0, slots := 0, locals := 61 })).room S0 MM (#[.ref (g 0), .int x1] : Array Value) below meth CC H locs 0 0 (MQ below (cQv D (wM g cA t u.1 u.2.1 u.2.2.1 u.2.2.2.1 u.2.2.2.2.1 u.2.2.2.2.2.1 u.2.2.2.2.2.2.1 o u.2.2.2.2.2.2.2) A) (#[.ref (g 0), .int x1] : Array Value) S0 0 0 A) (F0 MM 0 ls []) from main _ _ _ hP hD hS hl
  intro H locs ls hP hD hS hl
  refine lv_iload_n hx hb dX3_meet_0 rfl (lv_at hl 1 rfl) ?_
  refine lv_if_ne (tgt := 5) hx hb dX3_meet_1 (by decide) (fun c1 => ?_) (fun c1 => ?_)
  · have hE := if_f c1 hE
    refine lv_aload_n hx hb dX3_meet_5 rfl (lv_at hl 0 rfl) ?_
    refine va_get (D := D) (ci := 2) (v := .ref (g 21)) (C := RX3) (T := TX3) (N := 14) hx hb hts inX3 hown hK hP 0 rfl rfl 5 (by decide) k0 (fun _ h9 => h9) rfl dX3_meet_6 ?_
    obtain ⟨u2, h3, hE⟩ := bd_some hE
    refine cn_i (As := []) (rest := []) (r := u2) (w0 := (wM g cA t s y d q k r c o m)) (N := 28) ⟨hx, hb, hml, hown, hts⟩ (c_X1_latestCatch l D cA (g 21) (g 22) (g 23) (g 24) (g 25) H.size c u2 h3) (cwV 0 hts hX3_meet_X1_latestCatch_130 rfl rfl rfl (by decide +kernel) ⟨Nat.le_of_ble_eq_true rfl, Nat.le_of_ble_eq_true rfl⟩) rfl hl.1 rfl (Nat.le_of_ble_eq_true rfl) dX3_meet_9 ⟨Nat.zero_le _, Nat.zero_le _⟩ hK hP hD hS hA (va_recv hK hP (ci := 0) (q0 := 21) rfl rfl) [21, 22, 23, 24, 25] [0, 1, 2, 3, 4, 5, 6, 7, 8, 9, 10, 11, 12, 13, 14, 15, 16, 17, 18, 19, 20, 26, 27] (wM g cA t s y d q k r c o m) rfl (by decide +kernel) rfl (wr := List.filterMap (fun i => (wM g cA t s y d q k r c o m)[i]?) [0, 1, 2, 3, 4, 5, 6, 7, 8, 9, 10, 11, 12, 13, 14, 15, 16, 17, 18, 19, 20, 26, 27]) rfl rfl (by decide +kernel) rfl (by decide +kernel) [g 0, g 1, g 2, g 3, g 4, g 5, g 6, g 7, g 8, g 9, g 10, g 11, g 12, g 13, g 14, g 15, g 16, g 17, g 18, g 19, g 20, g 21, g 22, g 23, g 24, g 25, g 26, g 27] rfl rfl (fun _ _ _ _ h => h) (fun _ _ _ => trivial) (fun H locs hP hD hS => ?_)
    have hP : va_P D vwCl (wM g cA t s y d q k r c o m) H := hP
    have hD : va_D A (wM g cA t s y d q k r c o m) := hD
    refine lv_istore_n (lv' := [(2, .int u2), (0, .ref (g 0)), (1, .int x1)]) hx hb dX3_meet_12 rfl hl (by decide) rfl (fun ls hl => ?_)
    refine lv_iload_n hx hb dX3_meet_13 rfl (lv_at hl 0 rfl) ?_
    refine lv_iconst (v := (-1)) hx hb dX3_meet_14 (by decide +kernel) ?_
    refine lv_icmp_ne (tgt := 24) hx hb dX3_meet_15 (by decide) (fun c4 => ?_) (fun c4 => ?_)
    · have hE := if_f c4 hE
      refine lv_aload_n hx hb dX3_meet_24 rfl (lv_at hl 1 rfl) ?_
      refine va_get (D := D) (ci := 2) (v := .ref (g 4)) (C := RX3) (T := TX3) (N := 14) hx hb hts inX3 hown hK hP 0 rfl rfl 1 (by decide) k2 (fun _ h9 => h9) rfl dX3_meet_25 ?_
      refine lv_aload_n hx hb dX3_meet_28 rfl (lv_at hl 1 rfl) ?_
      refine va_get (D := D) (ci := 2) (v := .ref (g 21)) (C := RX3) (T := TX3) (N := 14) hx hb hts inX3 hown hK hP 0 rfl rfl 5 (by decide) k0 (fun _ h9 => h9) rfl dX3_meet_29 ?_
      refine va_getN (D := D) (ci := 0) (v := .ref (g 24)) (C := RX1) (T := TX1) (N := 5) hx hb hts inX1 hown hK hP 21 rfl rfl 2 (by decide) (k3 _) (fun _ h9 => h9) rfl dX3_meet_32 ?_
      refine lv_iload_n hx hb dX3_meet_35 rfl (lv_at hl 0 rfl) ?_
      have ⟨c5, hE⟩ := ck_some hE
      refine va_iald hx hb hK hP 24 0 rfl rfl c5 dX3_meet_36 ?_
      obtain ⟨u6, h7, hE⟩ := bd_some hE
      refine cn_v (As := [.int (c.2.2.2.1 u2.toNatClampNeg)]) (rest := []) (w0 := (wM g cA t s y d q k r c o m)) (N := 28) ⟨hx, hb, hml, hown, hts⟩ (c_X8_resize l D cA (g 4) (g 5) H.size (c.2.2.2.1 u2.toNatClampNeg) (-3) s u6 h7) (cwV 1 hts hX3_meet_X8_resize_137 rfl rfl rfl (by decide +kernel) ⟨Nat.le_of_ble_eq_true rfl, Nat.le_of_ble_eq_true rfl⟩) rfl hl.1 rfl (Nat.le_of_ble_eq_true rfl) dX3_meet_37 ⟨Nat.zero_le _, Nat.zero_le _⟩ hK hP hD hS hA (va_recv hK hP (ci := 7) (q0 := 4) rfl rfl) [4, 5] [0, 1, 2, 3, 6, 7, 8, 9, 10, 11, 12, 13, 14, 15, 16, 17, 18, 19, 20, 21, 22, 23, 24, 25, 26, 27] (wM g cA t u6 y d q k r c o m) rfl (by decide +kernel) rfl (wr := List.filterMap (fun i => (wM g cA t s y d q k r c o m)[i]?) [0, 1, 2, 3, 6, 7, 8, 9, 10, 11, 12, 13, 14, 15, 16, 17, 18, 19, 20, 21, 22, 23, 24, 25, 26, 27]) rfl rfl (by decide +kernel) rfl (by decide +kernel) [g 0, g 1, g 2, g 3, g 4, g 5, g 6, g 7, g 8, g 9, g 10, g 11, g 12, g 13, g 14, g 15, g 16, g 17, g 18, g 19, g 20, g 21, g 22, g 23, g 24, g 25, g 26, g 27] rfl rfl (fun _ _ _ _ h => h) (fun _ _ _ => trivial) (fun H locs hP hD hS => ?_)
      have hP : va_P D vwCl (wM g cA t u6 y d q k r c o m) H := hP
      have hD : va_D A (wM g cA t u6 y d q k r c o m) := hD
      refine lv_aload_n hx hb dX3_meet_40 rfl (lv_at hl 1 rfl) ?_
      refine va_get (D := D) (ci := 2) (v := .ref (g 19)) (C := RX3) (T := TX3) (N := 14) hx hb hts inX3 hown hK hP 0 rfl rfl 2 (by decide) k5 (fun _ h9 => h9) rfl dX3_meet_41 ?_
      refine lv_aload_n hx hb dX3_meet_44 rfl (lv_at hl 1 rfl) ?_
      refine va_get (D := D) (ci := 2) (v := .ref (g 21)) (C := RX3) (T := TX3) (N := 14) hx hb hts inX3 hown hK hP 0 rfl rfl 5 (by decide) k0 (fun _ h9 => h9) rfl dX3_meet_45 ?_
      refine va_getN (D := D) (ci := 0) (v := .ref (g 25)) (C := RX1) (T := TX1) (N := 5) hx hb hts inX1 hown hK hP 21 rfl rfl 3 (by decide) (k6 _) (fun _ h9 => h9) rfl dX3_meet_48 ?_
      refine lv_iload_n hx hb dX3_meet_51 rfl (lv_at hl 0 rfl) ?_
      have ⟨c8, hE⟩ := ck_some hE
      refine va_iald hx hb hK hP 25 0 rfl rfl c8 dX3_meet_52 ?_
      obtain ⟨u9, h10, hE⟩ := bd_some hE
      refine cn_v (As := [.int (c.2.2.2.2 u2.toNatClampNeg)]) (rest := []) (w0 := (wM g cA t u6 y d q k r c o m)) (N := 28) ⟨hx, hb, hml, hown, hts⟩ (c_X8_resize l D cA (g 19) (g 20) H.size (c.2.2.2.2 u2.toNatClampNeg) (-5) r u9 h10) (cwV 1 hts hX3_meet_X8_resize_137 rfl rfl rfl (by decide +kernel) ⟨Nat.le_of_ble_eq_true rfl, Nat.le_of_ble_eq_true rfl⟩) rfl hl.1 rfl (Nat.le_of_ble_eq_true rfl) dX3_meet_53 ⟨Nat.zero_le _, Nat.zero_le _⟩ hK hP hD hS hA (va_recv hK hP (ci := 7) (q0 := 19) rfl rfl) [19, 20] [0, 1, 2, 3, 4, 5, 6, 7, 8, 9, 10, 11, 12, 13, 14, 15, 16, 17, 18, 21, 22, 23, 24, 25, 26, 27] (wM g cA t u6 y d q k u9 c o m) rfl (by decide +kernel) rfl (wr := List.filterMap (fun i => (wM g cA t u6 y d q k r c o m)[i]?) [0, 1, 2, 3, 4, 5, 6, 7, 8, 9, 10, 11, 12, 13, 14, 15, 16, 17, 18, 21, 22, 23, 24, 25, 26, 27]) rfl rfl (by decide +kernel) rfl (by decide +kernel) [g 0, g 1, g 2, g 3, g 4, g 5, g 6, g 7, g 8, g 9, g 10, g 11, g 12, g 13, g 14, g 15, g 16, g 17, g 18, g 19, g 20, g 21, g 22, g 23, g 24, g 25, g 26, g 27] rfl rfl (fun _ _ _ _ h => h) (fun _ _ _ => trivial) (fun H locs hP hD hS => ?_)
      have hP : va_P D vwCl (wM g cA t u6 y d q k u9 c o m) H := hP
      have hD : va_D A (wM g cA t u6 y d q k u9 c o m) := hD
      refine lv_aload_n hx hb dX3_meet_56 rfl (lv_at hl 1 rfl) ?_
      refine va_get (D := D) (ci := 2) (v := .ref (g 21)) (C := RX3) (T := TX3) (N := 14) hx hb hts inX3 hown hK hP 0 rfl rfl 5 (by decide) k0 (fun _ h9 => h9) rfl dX3_meet_57 ?_
      refine lv_iload_n hx hb dX3_meet_60 rfl (lv_at hl 0 rfl) ?_
      refine va_putN (D := D) (ci := 0) (v := .int u2) (ty := .int) (C := RX1) (T := TX1) (N := 5) hx hb hts inX1 tyX1 tyX1_ok nmX1 hown hK hP hD hS 21 rfl rfl 4 (by decide) (k7 _) (fun _ h9 => h9) rfl (by decide +kernel) rfl rfl (Nat.le_of_ble_eq_true rfl) dX3_meet_61 (fun H locs hP hD hS => ?_)
      have hP : va_P D vwCl (wM g cA t u6 y d q k u9 ((u2, c.2.1, c.2.2.1, c.2.2.2.1, c.2.2.2.2)) o m) H := hP
      have hD : va_D A (wM g cA t u6 y d q k u9 ((u2, c.2.1, c.2.2.1, c.2.2.2.1, c.2.2.2.2)) o m) := hD
      refine lv_aload_n hx hb dX3_meet_64 rfl (lv_at hl 1 rfl) ?_
      refine va_get (D := D) (ci := 2) (v := .ref (g 4)) (C := RX3) (T := TX3) (N := 14) hx hb hts inX3 hown hK hP 0 rfl rfl 1 (by decide) k2 (fun _ h9 => h9) rfl dX3_meet_65 ?_
      refine lv_iload_n hx hb dX3_meet_68 rfl (lv_at hl 2 rfl) ?_
      obtain ⟨u11, h12, hE⟩ := bd_some hE
      refine cn_i (As := [.int x1]) (rest := []) (r := u11.1) (w0 := (wM g cA t u6 y d q k u9 ((u2, c.2.1, c.2.2.1, c.2.2.2.1, c.2.2.2.2)) o m)) (N := 28) ⟨hx, hb, hml, hown, hts⟩ (c_X8_put l D cA (g 4) (g 5) H.size x1 (-3) u6 u11 h12) (cwV 1 hts hX3_meet_X8_put_120 rfl rfl rfl (by decide +kernel) ⟨Nat.le_of_ble_eq_true rfl, Nat.le_of_ble_eq_true rfl⟩) rfl hl.1 rfl (Nat.le_of_ble_eq_true rfl) dX3_meet_69 ⟨Nat.zero_le _, Nat.zero_le _⟩ hK hP hD hS hA (va_recv hK hP (ci := 7) (q0 := 4) rfl rfl) [4, 5] [0, 1, 2, 3, 6, 7, 8, 9, 10, 11, 12, 13, 14, 15, 16, 17, 18, 19, 20, 21, 22, 23, 24, 25, 26, 27] (wM g cA t u11.2 y d q k u9 ((u2, c.2.1, c.2.2.1, c.2.2.2.1, c.2.2.2.2)) o m) rfl (by decide +kernel) rfl (wr := List.filterMap (fun i => (wM g cA t u6 y d q k u9 ((u2, c.2.1, c.2.2.1, c.2.2.2.1, c.2.2.2.2)) o m)[i]?) [0, 1, 2, 3, 6, 7, 8, 9, 10, 11, 12, 13, 14, 15, 16, 17, 18, 19, 20, 21, 22, 23, 24, 25, 26, 27]) rfl rfl (by decide +kernel) rfl (by decide +kernel) [g 0, g 1, g 2, g 3, g 4, g 5, g 6, g 7, g 8, g 9, g 10, g 11, g 12, g 13, g 14, g 15, g 16, g 17, g 18, g 19, g 20, g 21, g 22, g 23, g 24, g 25, g 26, g 27] rfl rfl (fun _ _ _ _ h => h) (fun _ _ _ => trivial) (fun H locs hP hD hS => ?_)
      have hP : va_P D vwCl (wM g cA t u11.2 y d q k u9 ((u2, c.2.1, c.2.2.1, c.2.2.2.1, c.2.2.2.2)) o m) H := hP
      have hD : va_D A (wM g cA t u11.2 y d q k u9 ((u2, c.2.1, c.2.2.1, c.2.2.2.1, c.2.2.2.2)) o m) := hD
      refine lv_pop hx hb dX3_meet_72 rfl ?_
      refine lv_aload_n hx hb dX3_meet_73 rfl (lv_at hl 1 rfl) ?_
      refine lv_dup hx hb dX3_meet_74 rfl ?_
      refine va_get (D := D) (ci := 2) (v := .int m.2.2.1) (C := RX3) (T := TX3) (N := 14) hx hb hts inX3 hown hK hP 0 rfl rfl 10 (by decide) k8 (fun _ h9 => h9) rfl dX3_meet_75 ?_
      refine lv_iconst (v := 1) hx hb dX3_meet_78 (by decide +kernel) ?_
      refine lv_iadd hx hb dX3_meet_79 ?_
      refine va_put (D := D) (ci := 2) (v := .int (m.2.2.1 + 1)) (ty := .int) (C := RX3) (T := TX3) (N := 14) hx hb hts inX3 tyX3 tyX3_ok nmX3 hown hK hP hD hS 0 rfl rfl 10 (by decide) k8 (fun _ h9 => h9) rfl (by decide +kernel) rfl rfl (Nat.le_of_ble_eq_true rfl) dX3_meet_80 (fun H locs hP hD hS => ?_)
      have hP : va_P D vwCl (wM g cA t u11.2 y d q k u9 ((u2, c.2.1, c.2.2.1, c.2.2.2.1, c.2.2.2.2)) o ((m.1, m.2.1, m.2.2.1 + 1, m.2.2.2.1, m.2.2.2.2.1, m.2.2.2.2.2))) H := hP
      have hD : va_D A (wM g cA t u11.2 y d q k u9 ((u2, c.2.1, c.2.2.1, c.2.2.2.1, c.2.2.2.2)) o ((m.1, m.2.1, m.2.2.1 + 1, m.2.2.2.1, m.2.2.2.2.1, m.2.2.2.2.2))) := hD
      obtain rfl := Option.some.inj hE
      exact rt_v hx hb hr hP hS hlocks dX3_meet_83
    · have hE := if_t c4 hE
      refine lv_aload_n hx hb dX3_meet_18 rfl (lv_at hl 1 rfl) ?_
      refine lv_iload_n hx hb dX3_meet_19 rfl (lv_at hl 2 rfl) ?_
      obtain ⟨u13, h14, hE⟩ := bd_some hE
      refine cw_v (As := [.int x1]) (rest := []) (wc := (wM g cA t s y d q k r c o m)) ⟨hx, hb, hml, hown, hts⟩ (c_X3_endWith l D cA ad adK adV tA tS g H.size x1 t s y d q k r c o m u13 h14) (cwV 1 hts hX3_meet_X3_endWith_91 rfl rfl rfl (by decide +kernel) ⟨Nat.le_of_ble_eq_true rfl, Nat.le_of_ble_eq_true rfl⟩) rfl hl.1 rfl (Nat.le_of_ble_eq_true rfl) dX3_meet_20 ⟨Nat.zero_le _, Nat.zero_le _⟩ hK hP hD hS hA (va_recv hK hP (ci := 2) (q0 := 0) rfl rfl) [g 0, g 1, g 2, g 3, g 4, g 5, g 6, g 7, g 8, g 9, g 10, g 11, g 12, g 13, g 14, g 15, g 16, g 17, g 18, g 19, g 20, g 21, g 22, g 23, g 24, g 25, g 26, g 27] rfl rfl (fun a U g mk h => SX.blind a U g mk h) (fun U hU hW => SX.call hX hS (fun q h => h.elim (fun ⟨k, e, h⟩ => hD.2 k (q, e) h) (fun h => hA q (Nat.le_trans hS.1 h))) U hU hW) (fun H locs hP hD hS => ?_)
      have hP : va_P D vwCl (wM g cA t u13.1 u13.2.1 u13.2.2.1 u13.2.2.2.1 u13.2.2.2.2.1 u13.2.2.2.2.2.1 u13.2.2.2.2.2.2.1 o u13.2.2.2.2.2.2.2) H := hP
      have hD : va_D A (wM g cA t u13.1 u13.2.1 u13.2.2.1 u13.2.2.2.1 u13.2.2.2.2.1 u13.2.2.2.2.2.1 u13.2.2.2.2.2.2.1 o u13.2.2.2.2.2.2.2) := hD
      obtain rfl := Option.some.inj hE
      exact rt_v hx hb hr hP hS hlocks dX3_meet_23
  · have hE := if_t c1 hE
    obtain rfl := Option.some.inj hE
    exact rt_v hx hb hr hP hS hlocks dX3_meet_4
set_option maxRecDepth 20000 in
theorem hX3_interpret_X3_endWith_91 : GoodIn wsX3_interpret (wsV RX3 91 RX3 yX3_endWith wsX3_endWith) := goodIn_r _ [10, 11, 12, 13, 14, 15, 16, 17, 18, 8, 5, 6, 19, 20, 21, 22, 23, 24, 25, 26, 27, 28, 29, 30, 31, 32, 33, 34, 532, 533, 534, 535, 536, 537, 538, 539, 540, 541, 542, 543, 544, 545, 548, 549, 550, 551, 552, 553, 554, 555, 556, 557, 558, 559, 560, 561, 562, 563, 564, 565, 566, 567, 568, 569, 570, 571, 572, 573, 574] rfl (by decide +kernel)
set_option maxRecDepth 20000 in
theorem hX3_interpret_X3_goOn_94 : GoodIn wsX3_interpret (wsV RX3 94 RX3 yX3_goOn wsX3_goOn) := goodIn_r _ [35, 36, 37, 13, 38, 17, 15, 9, 5, 39, 40, 41, 42, 43, 44, 45, 46, 47, 48, 13, 49, 50, 51, 8, 52, 53, 54, 55, 56, 57, 58, 59, 60, 61, 62, 63, 64, 65, 66, 67, 68, 69, 70, 31, 71, 33, 72, 73, 74, 75, 76, 77, 78, 79, 80, 81, 82, 83, 84, 85, 86, 87, 88, 89, 90, 91, 92, 93, 94, 95, 96, 97, 98, 99, 100, 101, 102, 103, 104, 105, 106, 107, 108, 109, 18, 110, 111, 112, 113, 114, 34, 115, 116, 117, 118, 119, 120, 121, 122, 123, 124, 125, 126, 127, 128, 129, 130, 131, 132, 133, 134, 135, 136, 137, 138, 139, 140, 141, 142, 143, 144, 145, 146, 147, 148, 149, 150, 151, 152, 153, 154, 155, 156, 157, 158, 159, 160, 161, 162, 163, 164, 165, 166, 167, 168, 169, 170, 171, 172, 173, 174, 175, 176, 177, 178, 179, 180, 181, 182, 183, 184, 185, 186, 187, 188, 189, 190, 191, 192, 193, 194, 195, 196, 197, 198, 199, 200, 201, 202, 203, 204, 205, 206, 207, 208, 209, 532, 533, 534, 535, 536, 537, 538, 539, 540, 541, 542, 543, 544, 545, 551, 552, 553, 554, 555, 573, 574, 565, 566, 567, 568, 569, 570, 571, 572, 548, 549, 550, 575, 576, 577, 578, 579, 556, 557, 558, 559, 560, 561] rfl (by decide +kernel)
set_option maxRecDepth 20000 in
theorem hX3_interpret_X3_carryOutNext_98 : GoodIn wsX3_interpret (wsV RX3 98 RX3 yX3_carryOutNext wsX3_carryOutNext) := goodIn_r _ [210, 211, 212, 13, 213, 8, 2, 15, 18, 214, 215, 216, 13, 217, 51, 17, 50, 218, 219, 220, 42, 221, 56, 44, 45, 222, 223, 224, 225, 62, 63, 64, 60, 65, 66, 67, 58, 59, 61, 84, 85, 86, 87, 88, 89, 90, 91, 226, 227, 228, 229, 230, 231, 232, 233, 234, 16, 39, 40, 41, 43, 235, 236, 237, 238, 239, 240, 241, 242, 243, 244, 245, 246, 80, 81, 82, 83, 247, 248, 249, 250, 251, 252, 253, 254, 255, 256, 257, 258, 259, 260, 261, 262, 52, 53, 54, 55, 263, 264, 265, 31, 266, 33, 267, 268, 269, 270, 271, 272, 57, 273, 274, 275, 276, 72, 73, 74, 75, 277, 278, 279, 280, 281, 282, 283, 284, 285, 286, 287, 288, 289, 290, 291, 292, 293, 294, 295, 296, 297, 298, 299, 300, 301, 302, 303, 304, 305, 306, 307, 308, 309, 310, 311, 312, 313, 314, 315, 316, 317, 318, 319, 320, 321, 322, 323, 324, 325, 326, 327, 328, 329, 330, 331, 332, 333, 334, 184, 185, 186, 187, 188, 189, 190, 191, 192, 335, 336, 337, 338, 339, 340, 341, 342, 343, 344, 345, 346, 347, 348, 349, 350, 351, 352, 353, 354, 355, 356, 4, 357, 358, 359, 360, 361, 362, 363, 364, 365, 366, 367, 368, 369, 370, 371, 372, 373, 374, 375, 376, 68, 69, 70, 71, 377, 378, 379, 380, 381, 382, 383, 384, 385, 22, 386, 26, 387, 27, 28, 29, 30, 32, 34, 388, 389, 390, 95, 391, 392, 93, 94, 96, 97, 98, 99, 100, 101, 102, 103, 104, 105, 393, 203, 204, 205, 394, 395, 396, 397, 398, 399, 400, 401, 402, 403, 24, 404, 405, 406, 407, 408, 409, 120, 119, 410, 182, 411, 412, 121, 122, 123, 124, 413, 414, 415, 416, 417, 418, 419, 420, 421, 422, 423, 424, 425, 426, 427, 428, 429, 430, 431, 432, 433, 434, 435, 436, 437, 438, 112, 113, 114, 115, 116, 117, 118, 125, 126, 127, 128, 129, 130, 131, 132, 133, 134, 135, 136, 137, 138, 139, 140, 141, 142, 143, 144, 145, 146, 147, 148, 149, 150, 151, 152, 153, 154, 155, 156, 157, 158, 159, 160, 161, 162, 163, 164, 165, 166, 167, 168, 169, 170, 171, 172, 173, 174, 175, 176, 177, 439, 440, 207, 208, 209, 441, 442, 443, 444, 445, 179, 180, 181, 183, 446, 447, 448, 449, 450, 451, 452, 453, 454, 455, 456, 457, 458, 459, 460, 461, 462, 25, 463, 464, 465, 466, 467, 468, 469, 470, 471, 472, 473, 474, 475, 476, 477, 478, 479, 480, 481, 482, 483, 484, 485, 486, 487, 488, 489, 490, 491, 492, 493, 494, 495, 496, 497, 498, 499, 500, 501, 502, 503, 504, 505, 506, 507, 508, 509, 510, 511, 512, 513, 514, 515, 532, 533, 534, 535, 536, 537, 538, 539, 540, 541, 542, 543, 544, 545, 565, 566, 567, 568, 569, 570, 571, 572, 551, 552, 553, 554, 555, 573, 574, 548, 549, 550, 556, 557, 558, 559, 560, 561, 546, 547, 575, 576, 577, 578, 579, 562, 563, 564] rfl (by decide +kernel)
set_option maxRecDepth 20000 in
theorem hX3_interpret_X3_meet_101 : GoodIn wsX3_interpret (wsV RX3 101 RX3 yX3_meet wsX3_meet) := goodIn_r _ [516, 517, 518, 13, 519, 17, 15, 16, 3, 520, 521, 522, 42, 523, 44, 45, 10, 11, 12, 13, 14, 18, 8, 5, 6, 19, 20, 21, 22, 23, 24, 25, 26, 27, 28, 29, 30, 31, 32, 33, 34, 524, 525, 526, 87, 527, 89, 91, 84, 85, 86, 88, 90, 532, 533, 534, 535, 536, 537, 538, 539, 540, 541, 542, 543, 544, 545, 551, 552, 553, 554, 555, 548, 549, 550, 556, 557, 558, 559, 560, 561, 562, 563, 564, 565, 566, 567, 568, 569, 570, 571, 572, 573, 574] rfl (by decide +kernel)
set_option maxRecDepth 20000 in
theorem hX3_interpret_X9_clear_104 : GoodIn wsX3_interpret (wsV RX3 104 RX9 yX9_clear wsX9_clear) := goodIn_r _ [528, 529, 530, 95, 531, 98, 97, 575, 576, 577, 578, 579] rfl (by decide +kernel)
set_option maxHeartbeats 4000000 in
set_option maxRecDepth 100000 in
theorem c_X3_interpret (l : Launch) (D : va_G) (cA : Nat → ClassId) (ad adK adV : Nat → Nat) (tA tS : Nat) (g : Nat → Nat) (sz : Nat) (x1 : Int32) (t : tT) (s : tR) (y : tY) (d : tD) (q : tP) (k : tK) (r : tR) (c : tC) (o : tO) (m : tM) (u : Int32 × tT × tR × tY × tD × tP × tK × tR × tC × tO × tM) (hE : f_X3_interpret x1 t s y d q k r c o m = some u) : Met l yX3_interpret wsX3_interpret ({ frames := 8, cells := 0, slots := 0, locals := 176 }) (va_Pc [.ref (g 0), .int x1] (PRE D cA (wM g cA t s y d q k r c o m) sz (fun U => SX ad adK adV tA tS (va_A (wM g cA t s y d q k r c o m) sz) U U.heap))) (cQi D (wM g cA u.2.1 u.2.2.1 u.2.2.2.1 u.2.2.2.2.1 u.2.2.2.2.2.1 u.2.2.2.2.2.2.1 u.2.2.2.2.2.2.2.1 u.2.2.2.2.2.2.2.2.1 u.2.2.2.2.2.2.2.2.2.1 u.2.2.2.2.2.2.2.2.2.2) (va_A (wM g cA t s y d q k r c o m) sz) u.1) 0 0 (va_A (wM g cA t s y d q k r c o m) sz) := by
  refine Met.ofW (cc := cX3_interpret) (maxL := 3) (ret := (some .int)) (by decide) rfl ?_
  intro PP EE S0 MM args below meth CC S1 B hml hv
  obtain ⟨rfl, hsz, hP, hK, hD0, hX⟩ := hv
  have hx := B.exec
  have hb := B.bytes
  have hr := B.returns
  have hts := atoms_spec (ws := wsX3_interpret) B.pre
  have hown : S0.vm.findClass RX3 = some MM.cls := findClass_of_methodNamed B.named
  have hlocks := B.notSynchronized
  subst hsz
  have hD := hD0.self (sz := S0.heap.size)
  have hX : SX ad adK adV tA tS (va_A (wM g cA t s y d q k r c o m) S0.heap.size) S0 S0.heap := hX
  generalize hAe : va_A (wM g cA t s y d q k r c o m) S0.heap.size = A at hD hX ⊢
  have hA : ∀ q : Nat, S0.heap.size ≤ q → A q := fun q h => by rw [← hAe]; exact Or.inr h
  have hS : va_S A S0.heap S0.heap [] := va_S.rf
  have k0 := hts (.fieldLink RX3 71 "WordForge$Machine" "stepsAllowed" "I") (List.mem_of_getElem? (i := 1) rfl)
  have inX3 : ∀ w ∈ wsX30, w ∈ wsX3_interpret := fun _ h => List.mem_cons_of_mem _ (List.mem_append_left _ (List.mem_append_left _ (List.mem_append_left _ (List.mem_append_left _ (List.mem_append_left _ (List.mem_append_left _ (List.mem_append_left _ (List.mem_append_left _ (List.mem_append_right _ h)))))))))
  have k2 := hts (.fieldLink RX3 74 "WordForge$Machine" "steps" "I") (List.mem_of_getElem? (i := 2) rfl)
  have k3 := hts (.fieldLink RX3 77 "WordForge$Machine" "caught" "I") (List.mem_of_getElem? (i := 3) rfl)
  have k4 := hts (.fieldLink RX3 54 "WordForge$Machine" "written" "LWordForge$Output;") (List.mem_of_getElem? (i := 4) rfl)
  have k5 := hX.nest (.fieldLinkNest RX3 80 "WordForge$Output" "size" "I" "WordForge") (List.mem_of_getElem? (i := 22) rfl)
  have inX7 : ∀ w ∈ wsX70, w ∈ wsX3_interpret := fun _ h => List.mem_cons_of_mem _ (List.mem_append_left _ (List.mem_append_left _ (List.mem_append_left _ (List.mem_append_left _ (List.mem_append_left _ (List.mem_append_left _ (List.mem_append_left _ (List.mem_append_right _ h))))))))
  have k7 := hts (.fieldLink RX3 83 "WordForge$Machine" "over" "Z") (List.mem_of_getElem? (i := 5) rfl)
  have k8 := hts (.fieldLink RX3 87 "WordForge$Machine" "answer" "I") (List.mem_of_getElem? (i := 6) rfl)
  have k9 := hts (.constant RX3 90 (1000000)) (List.mem_of_getElem? (i := 7) rfl)
  have k10 := hts (.fieldLink RX3 67 "WordForge$Machine" "nextWord" "I") (List.mem_of_getElem? (i := 8) rfl)
  have k11 := hts (.fieldLink RX3 12 "WordForge$Machine" "text" "LWordForge$Text;") (List.mem_of_getElem? (i := 9) rfl)
  have hl := lv_entry ([.ref (g 0), .int x1]) (n := 3) (Nat.le_of_ble_eq_true rfl)
  rw [lg_entry_eq]
  generalize (lg_sl ([.ref (g 0), .int x1]) ++ List.replicate (3 - (lg_sl ([.ref (g 0), .int x1])).length) Slot.unset).toArray = ls at hl ⊢
  have hl : lv_has ls 3 [(0, .ref (g 0)), (1, .int x1)] := hl
  have w99 : ∀ (K35 : Int32 → tT → tR → tY → tD → tP → tK → tR → tC → tO → tM → Option (Int32 × tT × tR × tY × tD × tP × tK × tR × tC × tO × tM)) (_ : ∀ (y2 : Int32) (t : tT) (s : tR) (y : tY) (d : tD) (q : tP) (k : tK) (r : tR) (c : tC) (o : tO) (m : tM) (H : Heap) (locs : List Loc) (ls : Array Slot), va_P D vwCl (wM g cA t s y d q k r c o m) H → va_D A (wM g cA t s y d q k r c o m) → va_S A S0.heap H locs → lv_has ls 3 [(0, .ref (g 0)), (2, .int y2)] → K35 y2 t s y d q k r c o m = some u → W PP l EE (headSpec wsX3_interpret ({ frames := 8, cells := 0, slots := 0, locals := 176 })).room S0 MM (#[.ref (g 0), .int x1] : Array Value) below meth CC H locs 0 0 (MQ below (cQi D (wM g cA u.2.1 u.2.2.1 u.2.2.2.1 u.2.2.2.2.1 u.2.2.2.2.2.1 u.2.2.2.2.2.2.1 u.2.2.2.2.2.2.2.1 u.2.2.2.2.2.2.2.2.1 u.2.2.2.2.2.2.2.2.2.1 u.2.2.2.2.2.2.2.2.2.2) A u.1) (#[.ref (g 0), .int x1] : Array Value) S0 0 0 A) (F0 MM 35 ls [])), ∀ (y2 : Int32) (t : tT) (s : tR) (y : tY) (d : tD) (q : tP) (k : tK) (r : tR) (c : tC) (o : tO) (m : tM) (H : Heap) (locs : List Loc) (ls : Array Slot), va_P D vwCl (wM g cA t s y d q k r c o m) H → va_D A (wM g cA t s y d q k r c o m) → va_S A S0.heap H locs → lv_has ls 3 [(0, .ref (g 0)), (2, .int y2)] → b_X3_interpret_99 K35 y2 t s y d q k r c o m = some u → W PP l EE (headSpec wsX3_interpret ({ frames := 8, cells := 0, slots := 0, locals := 176 })).room S0 MM (#[.ref (g 0), .int x1] : Array Value) below meth CC H locs 0 0 (MQ below (cQi D (wM g cA u.2.1 u.2.2.1 u.2.2.2.1 u.2.2.2.2.1 u.2.2.2.2.2.1 u.2.2.2.2.2.2.1 u.2.2.2.2.2.2.2.1 u.2.2.2.2.2.2.2.2.1 u.2.2.2.2.2.2.2.2.2.1 u.2.2.2.2.2.2.2.2.2.2) A u.1) (#[.ref (g 0), .int x1] : Array Value) S0 0 0 A) (F0 MM 99 ls []) := by
    intro K35 hK35
    intro y2 t s y d q k r c o m
    intro H locs ls hP hD hS hl hE
    unfold b_X3_interpret_99 at hE
    refine lv_iinc (v := y2 + 1) (lv' := [(2, .int (y2 + 1)), (0, .ref (g 0))]) hx hb dX3_interpret_99 hl (k := 1) rfl rfl (by decide) rfl (fun ls hl => ?_)
    refine lv_goto (tgt := 35) hx hb dX3_interpret_102 (by decide) ?_
    exact hK35 (y2 + 1) t s y d q k r c o m H locs ls hP hD hS (lv_sub hl [1, 0] rfl) hE
  have w96 : ∀ (K35 : Int32 → tT → tR → tY → tD → tP → tK → tR → tC → tO → tM → Option (Int32 × tT × tR × tY × tD × tP × tK × tR × tC × tO × tM)) (_ : ∀ (y2 : Int32) (t : tT) (s : tR) (y : tY) (d : tD) (q : tP) (k : tK) (r : tR) (c : tC) (o : tO) (m : tM) (H : Heap) (locs : List Loc) (ls : Array Slot), va_P D vwCl (wM g cA t s y d q k r c o m) H → va_D A (wM g cA t s y d q k r c o m) → va_S A S0.heap H locs → lv_has ls 3 [(0, .ref (g 0)), (2, .int y2)] → K35 y2 t s y d q k r c o m = some u → W PP l EE (headSpec wsX3_interpret ({ frames := 8, cells := 0, slots := 0, locals := 176 })).room S0 MM (#[.ref (g 0), .int x1] : Array Value) below meth CC H locs 0 0 (MQ below (cQi D (wM g cA u.2.1 u.2.2.1 u.2.2.2.1 u.2.2.2.2.1 u.2.2.2.2.2.1 u.2.2.2.2.2.2.1 u.2.2.2.2.2.2.2.1 u.2.2.2.2.2.2.2.2.1 u.2.2.2.2.2.2.2.2.2.1 u.2.2.2.2.2.2.2.2.2.2) A u.1) (#[.ref (g 0), .int x1] : Array Value) S0 0 0 A) (F0 MM 35 ls [])), ∀ (y2 : Int32) (z0 : Int32) (t : tT) (s : tR) (y : tY) (d : tD) (q : tP) (k : tK) (r : tR) (c : tC) (o : tO) (m : tM) (H : Heap) (locs : List Loc) (ls : Array Slot), va_P D vwCl (wM g cA t s y d q k r c o m) H → va_D A (wM g cA t s y d q k r c o m) → va_S A S0.heap H locs → lv_has ls 3 [(0, .ref (g 0)), (2, .int y2)] → b_X3_interpret_96 K35 y2 z0 t s y d q k r c o m = some u → W PP l EE (headSpec wsX3_interpret ({ frames := 8, cells := 0, slots := 0, locals := 176 })).room S0 MM (#[.ref (g 0), .int x1] : Array Value) below meth CC H locs 0 0 (MQ below (cQi D (wM g cA u.2.1 u.2.2.1 u.2.2.2.1 u.2.2.2.2.1 u.2.2.2.2.2.1 u.2.2.2.2.2.2.1 u.2.2.2.2.2.2.2.1 u.2.2.2.2.2.2.2.2.1 u.2.2.2.2.2.2.2.2.2.1 u.2.2.2.2.2.2.2.2.2.2) A u.1) (#[.ref (g 0), .int x1] : Array Value) S0 0 0 A) (F0 MM 96 ls [.int z0, .ref (g 0)]) := by
    intro K35 hK35
    intro y2 z0 t s y d q k r c o m
    intro H locs ls hP hD hS hl hE
    unfold b_X3_interpret_96 at hE
    obtain ⟨u14, h15, hE⟩ := bd_some hE
    refine cw_v (As := [.int z0]) (rest := []) (wc := (wM g cA t s y d q k r c o m)) ⟨hx, hb, hml, hown, hts⟩ (c_X3_meet l D cA ad adK adV tA tS g H.size z0 t s y d q k r c o m u14 h15) (cwV 1 hts hX3_interpret_X3_meet_101 rfl rfl rfl (by decide +kernel) ⟨Nat.le_of_ble_eq_true rfl, Nat.le_of_ble_eq_true rfl⟩) rfl hl.1 rfl (Nat.le_of_ble_eq_true rfl) dX3_interpret_96 ⟨Nat.zero_le _, Nat.zero_le _⟩ hK hP hD hS hA (va_recv hK hP (ci := 2) (q0 := 0) rfl rfl) [g 0, g 1, g 2, g 3, g 4, g 5, g 6, g 7, g 8, g 9, g 10, g 11, g 12, g 13, g 14, g 15, g 16, g 17, g 18, g 19, g 20, g 21, g 22, g 23, g 24, g 25, g 26, g 27] rfl rfl (fun a U g mk h => SX.blind a U g mk h) (fun U hU hW => SX.call hX hS (fun q h => h.elim (fun ⟨k, e, h⟩ => hD.2 k (q, e) h) (fun h => hA q (Nat.le_trans hS.1 h))) U hU hW) (fun H locs hP hD hS => ?_)
    have hP : va_P D vwCl (wM g cA t u14.1 u14.2.1 u14.2.2.1 u14.2.2.2.1 u14.2.2.2.2.1 u14.2.2.2.2.2.1 u14.2.2.2.2.2.2.1 o u14.2.2.2.2.2.2.2) H := hP
    have hD : va_D A (wM g cA t u14.1 u14.2.1 u14.2.2.1 u14.2.2.2.1 u14.2.2.2.2.1 u14.2.2.2.2.2.1 u14.2.2.2.2.2.2.1 o u14.2.2.2.2.2.2.2) := hD
    exact w99 K35 hK35 y2 t u14.1 u14.2.1 u14.2.2.1 u14.2.2.2.1 u14.2.2.2.2.1 u14.2.2.2.2.2.1 u14.2.2.2.2.2.2.1 o u14.2.2.2.2.2.2.2 H locs ls hP hD hS (lv_sub hl [0, 1] rfl) hE
  have w76 : ∀ (K35 : Int32 → tT → tR → tY → tD → tP → tK → tR → tC → tO → tM → Option (Int32 × tT × tR × tY × tD × tP × tK × tR × tC × tO × tM)) (_ : ∀ (y2 : Int32) (t : tT) (s : tR) (y : tY) (d : tD) (q : tP) (k : tK) (r : tR) (c : tC) (o : tO) (m : tM) (H : Heap) (locs : List Loc) (ls : Array Slot), va_P D vwCl (wM g cA t s y d q k r c o m) H → va_D A (wM g cA t s y d q k r c o m) → va_S A S0.heap H locs → lv_has ls 3 [(0, .ref (g 0)), (2, .int y2)] → K35 y2 t s y d q k r c o m = some u → W PP l EE (headSpec wsX3_interpret ({ frames := 8, cells := 0, slots := 0, locals := 176 })).room S0 MM (#[.ref (g 0), .int x1] : Array Value) below meth CC H locs 0 0 (MQ below (cQi D (wM g cA u.2.1 u.2.2.1 u.2.2.2.1 u.2.2.2.2.1 u.2.2.2.2.2.1 u.2.2.2.2.2.2.1 u.2.2.2.2.2.2.2.1 u.2.2.2.2.2.2.2.2.1 u.2.2.2.2.2.2.2.2.2.1 u.2.2.2.2.2.2.2.2.2.2) A u.1) (#[.ref (g 0), .int x1] : Array Value) S0 0 0 A) (F0 MM 35 ls [])), ∀ (y2 : Int32) (t : tT) (s : tR) (y : tY) (d : tD) (q : tP) (k : tK) (r : tR) (c : tC) (o : tO) (m : tM) (H : Heap) (locs : List Loc) (ls : Array Slot), va_P D vwCl (wM g cA t s y d q k r c o m) H → va_D A (wM g cA t s y d q k r c o m) → va_S A S0.heap H locs → lv_has ls 3 [(0, .ref (g 0)), (2, .int y2)] → b_X3_interpret_76 K35 y2 t s y d q k r c o m = some u → W PP l EE (headSpec wsX3_interpret ({ frames := 8, cells := 0, slots := 0, locals := 176 })).room S0 MM (#[.ref (g 0), .int x1] : Array Value) below meth CC H locs 0 0 (MQ below (cQi D (wM g cA u.2.1 u.2.2.1 u.2.2.2.1 u.2.2.2.2.1 u.2.2.2.2.2.1 u.2.2.2.2.2.2.1 u.2.2.2.2.2.2.2.1 u.2.2.2.2.2.2.2.2.1 u.2.2.2.2.2.2.2.2.2.1 u.2.2.2.2.2.2.2.2.2.2) A u.1) (#[.ref (g 0), .int x1] : Array Value) S0 0 0 A) (F0 MM 76 ls []) := by
    intro K35 hK35
    intro y2 t s y d q k r c o m
    intro H locs ls hP hD hS hl hE
    unfold b_X3_interpret_76 at hE
    refine lv_aload_n hx hb dX3_interpret_76 rfl (lv_at hl 0 rfl) ?_
    refine lv_aload_n hx hb dX3_interpret_77 rfl (lv_at hl 0 rfl) ?_
    refine va_get (D := D) (ci := 2) (v := .int m.2.2.2.1) (C := RX3) (T := TX3) (N := 14) hx hb hts inX3 hown hK hP 0 rfl rfl 11 (by decide) k10 (fun _ h9 => h9) rfl dX3_interpret_78 ?_
    refine lv_iconst (v := (-1)) hx hb dX3_interpret_81 (by decide +kernel) ?_
    refine lv_icmp_ne (tgt := 92) hx hb dX3_interpret_82 (by decide) (fun c9 => ?_) (fun c9 => ?_)
    · have hE := if_f c9 hE
      refine lv_aload_n hx hb dX3_interpret_92 rfl (lv_at hl 0 rfl) ?_
      obtain ⟨u10, h11, hE⟩ := bd_some hE
      refine cw_i (As := []) (rest := [.ref (g 0)]) (r := u10.1) (wc := (wM g cA t s y d q k r c o m)) ⟨hx, hb, hml, hown, hts⟩ (c_X3_carryOutNext l D cA ad adK adV tA tS g H.size t s y d q k r c o m u10 h11) (cwV 0 hts hX3_interpret_X3_carryOutNext_98 rfl rfl rfl (by decide +kernel) ⟨Nat.le_of_ble_eq_true rfl, Nat.le_of_ble_eq_true rfl⟩) rfl hl.1 rfl (Nat.le_of_ble_eq_true rfl) dX3_interpret_93 ⟨Nat.zero_le _, Nat.zero_le _⟩ hK hP hD hS hA (va_recv hK hP (ci := 2) (q0 := 0) rfl rfl) [g 0, g 1, g 2, g 3, g 4, g 5, g 6, g 7, g 8, g 9, g 10, g 11, g 12, g 13, g 14, g 15, g 16, g 17, g 18, g 19, g 20, g 21, g 22, g 23, g 24, g 25, g 26, g 27] rfl rfl (fun a U g mk h => SX.blind a U g mk h) (fun U hU hW => SX.call hX hS (fun q h => h.elim (fun ⟨k, e, h⟩ => hD.2 k (q, e) h) (fun h => hA q (Nat.le_trans hS.1 h))) U hU hW) (fun H locs hP hD hS => ?_)
      have hP : va_P D vwCl (wM g cA u10.2.1 u10.2.2.1 u10.2.2.2.1 u10.2.2.2.2.1 u10.2.2.2.2.2.1 u10.2.2.2.2.2.2.1 u10.2.2.2.2.2.2.2.1 u10.2.2.2.2.2.2.2.2.1 u10.2.2.2.2.2.2.2.2.2.1 u10.2.2.2.2.2.2.2.2.2.2) H := hP
      have hD : va_D A (wM g cA u10.2.1 u10.2.2.1 u10.2.2.2.1 u10.2.2.2.2.1 u10.2.2.2.2.2.1 u10.2.2.2.2.2.2.1 u10.2.2.2.2.2.2.2.1 u10.2.2.2.2.2.2.2.2.1 u10.2.2.2.2.2.2.2.2.2.1 u10.2.2.2.2.2.2.2.2.2.2) := hD
      exact w96 K35 hK35 y2 u10.1 u10.2.1 u10.2.2.1 u10.2.2.2.1 u10.2.2.2.2.1 u10.2.2.2.2.2.1 u10.2.2.2.2.2.2.1 u10.2.2.2.2.2.2.2.1 u10.2.2.2.2.2.2.2.2.1 u10.2.2.2.2.2.2.2.2.2.1 u10.2.2.2.2.2.2.2.2.2.2 H locs ls hP hD hS (lv_sub hl [0, 1] rfl) hE
    · have hE := if_t c9 hE
      refine lv_aload_n hx hb dX3_interpret_85 rfl (lv_at hl 0 rfl) ?_
      obtain ⟨u12, h13, hE⟩ := bd_some hE
      refine cw_i (As := []) (rest := [.ref (g 0)]) (r := u12.1) (wc := (wM g cA t s y d q k r c o m)) ⟨hx, hb, hml, hown, hts⟩ (c_X3_goOn l D cA ad adK adV tA tS g H.size t s y d q k r c o m u12 h13) (cwV 0 hts hX3_interpret_X3_goOn_94 rfl rfl rfl (by decide +kernel) ⟨Nat.le_of_ble_eq_true rfl, Nat.le_of_ble_eq_true rfl⟩) rfl hl.1 rfl (Nat.le_of_ble_eq_true rfl) dX3_interpret_86 ⟨Nat.zero_le _, Nat.zero_le _⟩ hK hP hD hS hA (va_recv hK hP (ci := 2) (q0 := 0) rfl rfl) [g 0, g 1, g 2, g 3, g 4, g 5, g 6, g 7, g 8, g 9, g 10, g 11, g 12, g 13, g 14, g 15, g 16, g 17, g 18, g 19, g 20, g 21, g 22, g 23, g 24, g 25, g 26, g 27] rfl rfl (fun a U g mk h => SX.blind a U g mk h) (fun U hU hW => SX.call hX hS (fun q h => h.elim (fun ⟨k, e, h⟩ => hD.2 k (q, e) h) (fun h => hA q (Nat.le_trans hS.1 h))) U hU hW) (fun H locs hP hD hS => ?_)
      have hP : va_P D vwCl (wM g cA u12.2.1 u12.2.2.1 u12.2.2.2.1 d q k r u12.2.2.2.2.1 o u12.2.2.2.2.2) H := hP
      have hD : va_D A (wM g cA u12.2.1 u12.2.2.1 u12.2.2.2.1 d q k r u12.2.2.2.2.1 o u12.2.2.2.2.2) := hD
      refine lv_goto (tgt := 96) hx hb dX3_interpret_89 (by decide) ?_
      exact w96 K35 hK35 y2 u12.1 u12.2.1 u12.2.2.1 u12.2.2.2.1 d q k r u12.2.2.2.2.1 o u12.2.2.2.2.2 H locs ls hP hD hS (lv_sub hl [0, 1] rfl) hE
  have w105 : ∀ (t : tT) (s : tR) (y : tY) (d : tD) (q : tP) (k : tK) (r : tR) (c : tC) (o : tO) (m : tM) (H : Heap) (locs : List Loc) (ls : Array Slot), va_P D vwCl (wM g cA t s y d q k r c o m) H → va_D A (wM g cA t s y d q k r c o m) → va_S A S0.heap H locs → lv_has ls 3 [(0, .ref (g 0))] → b_X3_interpret_105  t s y d q k r c o m = some u → W PP l EE (headSpec wsX3_interpret ({ frames := 8, cells := 0, slots := 0, locals := 176 })).room S0 MM (#[.ref (g 0), .int x1] : Array Value) below meth CC H locs 0 0 (MQ below (cQi D (wM g cA u.2.1 u.2.2.1 u.2.2.2.1 u.2.2.2.2.1 u.2.2.2.2.2.1 u.2.2.2.2.2.2.1 u.2.2.2.2.2.2.2.1 u.2.2.2.2.2.2.2.2.1 u.2.2.2.2.2.2.2.2.2.1 u.2.2.2.2.2.2.2.2.2.2) A u.1) (#[.ref (g 0), .int x1] : Array Value) S0 0 0 A) (F0 MM 105 ls []) := by
    intro t s y d q k r c o m
    intro H locs ls hP hD hS hl hE
    unfold b_X3_interpret_105 at hE
    refine lv_aload_n hx hb dX3_interpret_105 rfl (lv_at hl 0 rfl) ?_
    refine va_get (D := D) (ci := 2) (v := .ref (g 2)) (C := RX3) (T := TX3) (N := 14) hx hb hts inX3 hown hK hP 0 rfl rfl 0 (by decide) k11 (fun _ h9 => h9) rfl dX3_interpret_106 ?_
    obtain ⟨u7, h8, hE⟩ := bd_some hE
    refine cn_v (As := []) (rest := []) (w0 := (wM g cA t s y d q k r c o m)) (N := 28) ⟨hx, hb, hml, hown, hts⟩ (c_X9_clear l D cA (g 2) (g 3) H.size t u7 h8) (cwV 0 hts hX3_interpret_X9_clear_104 rfl rfl rfl (by decide +kernel) ⟨Nat.le_of_ble_eq_true rfl, Nat.le_of_ble_eq_true rfl⟩) rfl hl.1 rfl (Nat.le_of_ble_eq_true rfl) dX3_interpret_109 ⟨Nat.zero_le _, Nat.zero_le _⟩ hK hP hD hS hA (va_recv hK hP (ci := 8) (q0 := 2) rfl rfl) [2, 3] [0, 1, 4, 5, 6, 7, 8, 9, 10, 11, 12, 13, 14, 15, 16, 17, 18, 19, 20, 21, 22, 23, 24, 25, 26, 27] (wM g cA u7 s y d q k r c o m) rfl (by decide +kernel) rfl (wr := List.filterMap (fun i => (wM g cA t s y d q k r c o m)[i]?) [0, 1, 4, 5, 6, 7, 8, 9, 10, 11, 12, 13, 14, 15, 16, 17, 18, 19, 20, 21, 22, 23, 24, 25, 26, 27]) rfl rfl (by decide +kernel) rfl (by decide +kernel) [g 0, g 1, g 2, g 3, g 4, g 5, g 6, g 7, g 8, g 9, g 10, g 11, g 12, g 13, g 14, g 15, g 16, g 17, g 18, g 19, g 20, g 21, g 22, g 23, g 24, g 25, g 26, g 27] rfl rfl (fun _ _ _ _ h => h) (fun _ _ _ => trivial) (fun H locs hP hD hS => ?_)
    have hP : va_P D vwCl (wM g cA u7 s y d q k r c o m) H := hP
    have hD : va_D A (wM g cA u7 s y d q k r c o m) := hD
    refine lv_aload_n hx hb dX3_interpret_112 rfl (lv_at hl 0 rfl) ?_
    refine va_get (D := D) (ci := 2) (v := .int m.2.2.2.2.2) (C := RX3) (T := TX3) (N := 14) hx hb hts inX3 hown hK hP 0 rfl rfl 13 (by decide) k8 (fun _ h9 => h9) rfl dX3_interpret_113 ?_
    obtain rfl := Option.some.inj hE
    exact rt_i hx hb hr hP hS rfl hlocks dX3_interpret_116
  have w35 : ∀ (n : Nat), ∀ (y2 : Int32) (t : tT) (s : tR) (y : tY) (d : tD) (q : tP) (k : tK) (r : tR) (c : tC) (o : tO) (m : tM) (H : Heap) (locs : List Loc) (ls : Array Slot), va_P D vwCl (wM g cA t s y d q k r c o m) H → va_D A (wM g cA t s y d q k r c o m) → va_S A S0.heap H locs → lv_has ls 3 [(0, .ref (g 0)), (2, .int y2)] → b_X3_interpret_35 n y2 t s y d q k r c o m = some u → W PP l EE (headSpec wsX3_interpret ({ frames := 8, cells := 0, slots := 0, locals := 176 })).room S0 MM (#[.ref (g 0), .int x1] : Array Value) below meth CC H locs 0 0 (MQ below (cQi D (wM g cA u.2.1 u.2.2.1 u.2.2.2.1 u.2.2.2.2.1 u.2.2.2.2.2.1 u.2.2.2.2.2.2.1 u.2.2.2.2.2.2.2.1 u.2.2.2.2.2.2.2.2.1 u.2.2.2.2.2.2.2.2.2.1 u.2.2.2.2.2.2.2.2.2.2) A u.1) (#[.ref (g 0), .int x1] : Array Value) S0 0 0 A) (F0 MM 35 ls []) := by
    intro  n
    induction n with
    | zero => intros; rename_i hE; exact absurd hE (by simp [b_X3_interpret_35])
    | succ n ih35 =>
      intro y2 t s y d q k r c o m
      intro H locs ls hP hD hS hl hE
      unfold b_X3_interpret_35 at hE
      refine lv_iload_n hx hb dX3_interpret_35 rfl (lv_at hl 1 rfl) ?_
      refine lv_ldc (v := 1000000) hx hb hown k9 dX3_interpret_36 ?_
      refine lv_icmp_ge (tgt := 105) hx hb dX3_interpret_38 (by decide) (fun c1 => ?_) (fun c1 => ?_)
      · have hE := if_t c1 hE
        exact w105  t s y d q k r c o m H locs ls hP hD hS (lv_sub hl [0] rfl) hE
      · have hE := if_f c1 hE
        refine lv_aload_n hx hb dX3_interpret_41 rfl (lv_at hl 0 rfl) ?_
        refine va_get (D := D) (ci := 2) (v := .int m.2.2.2.2.1) (C := RX3) (T := TX3) (N := 14) hx hb hts inX3 hown hK hP 0 rfl rfl 12 (by decide) k7 (fun _ h9 => h9) rfl dX3_interpret_42 ?_
        refine lv_if_ne (tgt := 105) hx hb dX3_interpret_45 (by decide) (fun c2 => ?_) (fun c2 => ?_)
        · have hE := if_f c2 hE
          exact w105  t s y d q k r c o m H locs ls hP hD hS (lv_sub hl [0] rfl) hE
        · have hE := if_t c2 hE
          refine lv_aload_n hx hb dX3_interpret_48 rfl (lv_at hl 0 rfl) ?_
          refine va_get (D := D) (ci := 2) (v := .int m.2.2.2.1) (C := RX3) (T := TX3) (N := 14) hx hb hts inX3 hown hK hP 0 rfl rfl 11 (by decide) k10 (fun _ h9 => h9) rfl dX3_interpret_49 ?_
          refine lv_iconst (v := (-1)) hx hb dX3_interpret_52 (by decide +kernel) ?_
          refine lv_icmp_eq (tgt := 76) hx hb dX3_interpret_53 (by decide) (fun c3 => ?_) (fun c3 => ?_)
          · have hE := if_t c3 hE
            exact w76 (b_X3_interpret_35 n) ih35 y2 t s y d q k r c o m H locs ls hP hD hS (lv_sub hl [0, 1] rfl) hE
          · have hE := if_f c3 hE
            refine lv_aload_n hx hb dX3_interpret_56 rfl (lv_at hl 0 rfl) ?_
            refine va_get (D := D) (ci := 2) (v := .int m.2.1) (C := RX3) (T := TX3) (N := 14) hx hb hts inX3 hown hK hP 0 rfl rfl 9 (by decide) k2 (fun _ h9 => h9) rfl dX3_interpret_57 ?_
            refine lv_aload_n hx hb dX3_interpret_60 rfl (lv_at hl 0 rfl) ?_
            refine va_get (D := D) (ci := 2) (v := .int m.1) (C := RX3) (T := TX3) (N := 14) hx hb hts inX3 hown hK hP 0 rfl rfl 8 (by decide) k0 (fun _ h9 => h9) rfl dX3_interpret_61 ?_
            refine lv_icmp_ne (tgt := 76) hx hb dX3_interpret_64 (by decide) (fun c4 => ?_) (fun c4 => ?_)
            · have hE := if_f c4 hE
              exact w76 (b_X3_interpret_35 n) ih35 y2 t s y d q k r c o m H locs ls hP hD hS (lv_sub hl [0, 1] rfl) hE
            · have hE := if_t c4 hE
              refine lv_aload_n hx hb dX3_interpret_67 rfl (lv_at hl 0 rfl) ?_
              refine lv_bipush (v := (-28)) hx hb dX3_interpret_68 (by decide +kernel) ?_
              obtain ⟨u5, h6, hE⟩ := bd_some hE
              refine cw_v (As := [.int ((-28))]) (rest := []) (wc := (wM g cA t s y d q k r c o m)) ⟨hx, hb, hml, hown, hts⟩ (c_X3_endWith l D cA ad adK adV tA tS g H.size ((-28)) t s y d q k r c o m u5 h6) (cwV 1 hts hX3_interpret_X3_endWith_91 rfl rfl rfl (by decide +kernel) ⟨Nat.le_of_ble_eq_true rfl, Nat.le_of_ble_eq_true rfl⟩) rfl hl.1 rfl (Nat.le_of_ble_eq_true rfl) dX3_interpret_70 ⟨Nat.zero_le _, Nat.zero_le _⟩ hK hP hD hS hA (va_recv hK hP (ci := 2) (q0 := 0) rfl rfl) [g 0, g 1, g 2, g 3, g 4, g 5, g 6, g 7, g 8, g 9, g 10, g 11, g 12, g 13, g 14, g 15, g 16, g 17, g 18, g 19, g 20, g 21, g 22, g 23, g 24, g 25, g 26, g 27] rfl rfl (fun a U g mk h => SX.blind a U g mk h) (fun U hU hW => SX.call hX hS (fun q h => h.elim (fun ⟨k, e, h⟩ => hD.2 k (q, e) h) (fun h => hA q (Nat.le_trans hS.1 h))) U hU hW) (fun H locs hP hD hS => ?_)
              have hP : va_P D vwCl (wM g cA t u5.1 u5.2.1 u5.2.2.1 u5.2.2.2.1 u5.2.2.2.2.1 u5.2.2.2.2.2.1 u5.2.2.2.2.2.2.1 o u5.2.2.2.2.2.2.2) H := hP
              have hD : va_D A (wM g cA t u5.1 u5.2.1 u5.2.2.1 u5.2.2.2.1 u5.2.2.2.2.1 u5.2.2.2.2.2.1 u5.2.2.2.2.2.2.1 o u5.2.2.2.2.2.2.2) := hD
              refine lv_goto (tgt := 99) hx hb dX3_interpret_73 (by decide) ?_
              exact w99 (b_X3_interpret_35 n) ih35 y2 t u5.1 u5.2.1 u5.2.2.1 u5.2.2.2.1 u5.2.2.2.2.1 u5.2.2.2.2.2.1 u5.2.2.2.2.2.2.1 o u5.2.2.2.2.2.2.2 H locs ls hP hD hS (lv_sub hl [0, 1] rfl) hE
  unfold f_X3_interpret at hE
  suffices main : ∀ (H : Heap) (locs : List Loc) (ls : Array Slot), va_P D vwCl (wM g cA t s y d q k r c o m) H → va_D A (wM g cA t s y d q k r c o m) → va_S A S0.heap H locs → lv_has ls 3 [(0, .ref (g 0)), (1, .int x1)] → W PP l EE (headSpec wsX3_interpret ({ frames := 8, cells := 0, slots := 0, locals := 176 })).room S0 MM (#[.ref (g 0), .int x1] : Array Value) below meth CC H locs 0 0 (MQ below (cQi D (wM g cA u.2.1 u.2.2.1 u.2.2.2.1 u.2.2.2.2.1 u.2.2.2.2.2.1 u.2.2.2.2.2.2.1 u.2.2.2.2.2.2.2.1 u.2.2.2.2.2.2.2.2.1 u.2.2.2.2.2.2.2.2.2.1 u.2.2.2.2.2.2.2.2.2.2) A u.1) (#[.ref (g 0), .int x1] : Array Value) S0 0 0 A) (F0 MM 0 ls []) from main _ _ _ hP hD hS hl
  intro H locs ls hP hD hS hl
  refine lv_aload_n hx hb dX3_interpret_0 rfl (lv_at hl 0 rfl) ?_
  refine lv_iload_n hx hb dX3_interpret_1 rfl (lv_at hl 1 rfl) ?_
  refine va_put (D := D) (ci := 2) (v := .int x1) (ty := .int) (C := RX3) (T := TX3) (N := 14) hx hb hts inX3 tyX3 tyX3_ok nmX3 hown hK hP hD hS 0 rfl rfl 8 (by decide) k0 (fun _ h9 => h9) rfl (by decide +kernel) rfl rfl (Nat.le_of_ble_eq_true rfl) dX3_interpret_2 (fun H locs hP hD hS => ?_)
  have hP : va_P D vwCl (wM g cA t s y d q k r c o ((x1, m.2.1, m.2.2.1, m.2.2.2.1, m.2.2.2.2.1, m.2.2.2.2.2))) H := hP
  have hD : va_D A (wM g cA t s y d q k r c o ((x1, m.2.1, m.2.2.1, m.2.2.2.1, m.2.2.2.2.1, m.2.2.2.2.2))) := hD
  refine lv_aload_n hx hb dX3_interpret_5 rfl (lv_at hl 0 rfl) ?_
  refine lv_iconst (v := 0) hx hb dX3_interpret_6 (by decide +kernel) ?_
  refine va_put (D := D) (ci := 2) (v := .int 0) (ty := .int) (C := RX3) (T := TX3) (N := 14) hx hb hts inX3 tyX3 tyX3_ok nmX3 hown hK hP hD hS 0 rfl rfl 9 (by decide) k2 (fun _ h9 => h9) rfl (by decide +kernel) rfl rfl (Nat.le_of_ble_eq_true rfl) dX3_interpret_7 (fun H locs hP hD hS => ?_)
  have hP : va_P D vwCl (wM g cA t s y d q k r c o ((x1, 0, m.2.2.1, m.2.2.2.1, m.2.2.2.2.1, m.2.2.2.2.2))) H := hP
  have hD : va_D A (wM g cA t s y d q k r c o ((x1, 0, m.2.2.1, m.2.2.2.1, m.2.2.2.2.1, m.2.2.2.2.2))) := hD
  refine lv_aload_n hx hb dX3_interpret_10 rfl (lv_at hl 0 rfl) ?_
  refine lv_iconst (v := 0) hx hb dX3_interpret_11 (by decide +kernel) ?_
  refine va_put (D := D) (ci := 2) (v := .int 0) (ty := .int) (C := RX3) (T := TX3) (N := 14) hx hb hts inX3 tyX3 tyX3_ok nmX3 hown hK hP hD hS 0 rfl rfl 10 (by decide) k3 (fun _ h9 => h9) rfl (by decide +kernel) rfl rfl (Nat.le_of_ble_eq_true rfl) dX3_interpret_12 (fun H locs hP hD hS => ?_)
  have hP : va_P D vwCl (wM g cA t s y d q k r c o ((x1, 0, 0, m.2.2.2.1, m.2.2.2.2.1, m.2.2.2.2.2))) H := hP
  have hD : va_D A (wM g cA t s y d q k r c o ((x1, 0, 0, m.2.2.2.1, m.2.2.2.2.1, m.2.2.2.2.2))) := hD
  refine lv_aload_n hx hb dX3_interpret_15 rfl (lv_at hl 0 rfl) ?_
  refine va_get (D := D) (ci := 2) (v := .ref (g 26)) (C := RX3) (T := TX3) (N := 14) hx hb hts inX3 hown hK hP 0 rfl rfl 6 (by decide) k4 (fun _ h9 => h9) rfl dX3_interpret_16 ?_
  refine lv_iconst (v := 0) hx hb dX3_interpret_19 (by decide +kernel) ?_
  refine va_putN (D := D) (ci := 6) (v := .int 0) (ty := .int) (C := RX7) (T := TX7) (N := 2) hx hb hts inX7 tyX7 tyX7_ok nmX7 hown hK hP hD hS 26 rfl rfl 1 (by decide) (k5 _) (fun _ h9 => h9) rfl (by decide +kernel) rfl rfl (Nat.le_of_ble_eq_true rfl) dX3_interpret_20 (fun H locs hP hD hS => ?_)
  have hP : va_P D vwCl (wM g cA t s y d q k r c ((0, o.2)) ((x1, 0, 0, m.2.2.2.1, m.2.2.2.2.1, m.2.2.2.2.2))) H := hP
  have hD : va_D A (wM g cA t s y d q k r c ((0, o.2)) ((x1, 0, 0, m.2.2.2.1, m.2.2.2.2.1, m.2.2.2.2.2))) := hD
  refine lv_aload_n hx hb dX3_interpret_23 rfl (lv_at hl 0 rfl) ?_
  refine lv_iconst (v := 0) hx hb dX3_interpret_24 (by decide +kernel) ?_
  refine va_put (D := D) (ci := 2) (v := .int 0) (ty := .boolean) (C := RX3) (T := TX3) (N := 14) hx hb hts inX3 tyX3 tyX3_ok nmX3 hown hK hP hD hS 0 rfl rfl 12 (by decide) k7 (fun _ h9 => h9) rfl (by decide +kernel) (by decide +kernel) (by decide +kernel) (Nat.le_of_ble_eq_true rfl) dX3_interpret_25 (fun H locs hP hD hS => ?_)
  have hP : va_P D vwCl (wM g cA t s y d q k r c ((0, o.2)) ((x1, 0, 0, m.2.2.2.1, 0, m.2.2.2.2.2))) H := hP
  have hD : va_D A (wM g cA t s y d q k r c ((0, o.2)) ((x1, 0, 0, m.2.2.2.1, 0, m.2.2.2.2.2))) := hD
  refine lv_aload_n hx hb dX3_interpret_28 rfl (lv_at hl 0 rfl) ?_
  refine lv_iconst (v := 0) hx hb dX3_interpret_29 (by decide +kernel) ?_
  refine va_put (D := D) (ci := 2) (v := .int 0) (ty := .int) (C := RX3) (T := TX3) (N := 14) hx hb hts inX3 tyX3 tyX3_ok nmX3 hown hK hP hD hS 0 rfl rfl 13 (by decide) k8 (fun _ h9 => h9) rfl (by decide +kernel) rfl rfl (Nat.le_of_ble_eq_true rfl) dX3_interpret_30 (fun H locs hP hD hS => ?_)
  have hP : va_P D vwCl (wM g cA t s y d q k r c ((0, o.2)) ((x1, 0, 0, m.2.2.2.1, 0, 0))) H := hP
  have hD : va_D A (wM g cA t s y d q k r c ((0, o.2)) ((x1, 0, 0, m.2.2.2.1, 0, 0))) := hD
  refine lv_iconst (v := 0) hx hb dX3_interpret_33 (by decide +kernel) ?_
  refine lv_istore_n (lv' := [(2, .int 0), (0, .ref (g 0)), (1, .int x1)]) hx hb dX3_interpret_34 rfl hl (by decide) rfl (fun ls hl => ?_)
  exact w35 FU 0 t s y d q k r c ((0, o.2)) ((x1, 0, 0, m.2.2.2.1, 0, 0)) H locs ls hP hD hS (lv_sub hl [1, 0] rfl) hE
