set_option maxRecDepth 20000 in
theorem hX3_carryOutInner_X1_comeBack_117 : GoodIn wsX3_carryOutInner (wsV RX3 117 RX1 yX1_comeBack wsX1_comeBack) := goodIn_r _ [10, 11, 12, 13, 14, 15, 113, 114, 115, 116, 117] rfl (by decide +kernel)
set_option maxRecDepth 20000 in
theorem hX3_carryOutInner_X3_enterLoop_287 : GoodIn wsX3_carryOutInner (wsV RX3 287 RX3 yX3_enterLoop wsX3_enterLoop) := goodIn_r _ [16, 17, 18, 19, 20, 21, 22, 23, 24, 25, 26, 27, 28, 29, 30, 31, 32, 33, 34, 35, 36, 37, 38, 39, 40, 41, 42, 99, 100, 101, 102, 103, 104, 105, 106, 107, 108, 109, 110, 111, 112, 118, 119, 120] rfl (by decide +kernel)
set_option maxRecDepth 20000 in
theorem hX3_carryOutInner_X3_giveBehaviour_290 : GoodIn wsX3_carryOutInner (wsV RX3 290 RX3 yX3_giveBehaviour wsX3_giveBehaviour) := goodIn_r _ [43, 44, 45, 19, 46, 47, 2, 48, 49, 50, 13, 51, 15, 52, 53, 54, 55, 56, 57, 58, 59, 60, 10, 11, 12, 14, 99, 100, 101, 102, 103, 104, 105, 106, 107, 108, 109, 110, 111, 112, 113, 114, 115, 116, 117, 121, 122, 123, 124, 125, 126, 127, 128] rfl (by decide +kernel)
set_option maxRecDepth 20000 in
theorem hX3_carryOutInner_X1_place_175 : GoodIn wsX3_carryOutInner (wsV RX3 175 RX1 yX1_place wsX1_place) := goodIn_r _ [48, 49, 50, 13, 51, 15, 52, 113, 114, 115, 116, 117] rfl (by decide +kernel)
set_option maxRecDepth 20000 in
theorem hX3_carryOutInner_X3_useNumberBehind_293 : GoodIn wsX3_carryOutInner (wsV RX3 293 RX3 yX3_useNumberBehind wsX3_useNumberBehind) := goodIn_r _ [61, 62, 63, 19, 64, 65, 1, 2, 22, 66, 67, 68, 69, 70, 71, 72, 73, 74, 75, 76, 3, 4, 5, 6, 7, 8, 9, 77, 78, 79, 19, 80, 34, 35, 36, 26, 37, 28, 38, 33, 81, 82, 83, 13, 84, 15, 52, 85, 86, 87, 88, 89, 30, 31, 32, 90, 40, 41, 42, 91, 92, 93, 94, 21, 29, 39, 95, 96, 97, 98, 99, 100, 101, 102, 103, 104, 105, 106, 107, 108, 109, 110, 111, 112, 129, 130, 118, 119, 120, 113, 114, 115, 116, 117] rfl (by decide +kernel)
set_option maxHeartbeats 4000000 in
set_option maxRecDepth 100000 in
theorem c_X3_carryOutInner (l : Launch) (D : va_G) (cA : Nat → ClassId) (ad adK adV : Nat → Nat) (tA tS : Nat) (g : Nat → Nat) (sz : Nat) (w1 : Nat) (t : tT) (s : tR) (y : tY) (d : tD) (q : tP) (k : tK) (r : tR) (c : tC) (o : tO) (m : tM) (u : Int32 × tR × tD × tR × tC) (hE : f_X3_carryOutInner w1 s y d r c = some u) : Met l yX3_carryOutInner wsX3_carryOutInner ({ frames := 3, cells := 0, slots := 0, locals := 67 }) (va_Pc [.ref (g 0), .ref (ad w1)] (PRE D cA (wM g cA t s y d q k r c o m) sz (fun U => SX ad adK adV tA tS (va_A (wM g cA t s y d q k r c o m) sz) U U.heap))) (cQi D (wM g cA t u.2.1 y u.2.2.1 q k u.2.2.2.1 u.2.2.2.2 o m) (va_A (wM g cA t s y d q k r c o m) sz) u.1) 0 0 (va_A (wM g cA t s y d q k r c o m) sz) := by
  refine Met.ofW (cc := cX3_carryOutInner) (maxL := 2) (ret := (some .int)) (by decide) rfl ?_
  intro PP EE S0 MM args below meth CC S1 B hml hv
  obtain ⟨rfl, hsz, hP, hK, hD0, hX⟩ := hv
  have hx := B.exec
  have hb := B.bytes
  have hr := B.returns
  have hts := atoms_spec (ws := wsX3_carryOutInner) B.pre
  have hown : S0.vm.findClass RX3 = some MM.cls := findClass_of_methodNamed B.named
  have hlocks := B.notSynchronized
  subst hsz
  have hD := hD0.self (sz := S0.heap.size)
  have hX : SX ad adK adV tA tS (va_A (wM g cA t s y d q k r c o m) S0.heap.size) S0 S0.heap := hX
  generalize hAe : va_A (wM g cA t s y d q k r c o m) S0.heap.size = A at hD hX ⊢
  have hA : ∀ q : Nat, S0.heap.size ≤ q → A q := fun q h => by rw [← hAe]; exact Or.inr h
  have hS : va_S A S0.heap S0.heap [] := va_S.rf
  have k0 := hts (.fieldLink RX3 279 "WordForge$1" "$SwitchMap$WordForge$Word" "[I") (List.mem_of_getElem? (i := 1) rfl)
  have k1 := hts (.fieldLink RX3 47 "WordForge$Machine" "calls" "LWordForge$Calls;") (List.mem_of_getElem? (i := 2) rfl)
  have inX3 : ∀ w ∈ wsX30, w ∈ wsX3_carryOutInner := fun _ h => List.mem_cons_of_mem _ (List.mem_append_left _ (List.mem_append_left _ (List.mem_append_left _ (List.mem_append_left _ (List.mem_append_right _ h)))))
  have hl := lv_entry ([.ref (g 0), .ref (ad w1)]) (n := 2) (Nat.le_of_ble_eq_true rfl)
  rw [lg_entry_eq]
  generalize (lg_sl ([.ref (g 0), .ref (ad w1)]) ++ List.replicate (2 - (lg_sl ([.ref (g 0), .ref (ad w1)])).length) Slot.unset).toArray = ls at hl ⊢
  have hl : lv_has ls 2 [(0, .ref (g 0)), (1, .ref (ad w1))] := hl
  unfold f_X3_carryOutInner at hE
  have ⟨hw1, hE⟩ := ck_some hE
  suffices main : ∀ (H : Heap) (locs : List Loc) (ls : Array Slot), va_P D vwCl (wM g cA t s y d q k r c o m) H → va_D A (wM g cA t s y d q k r c o m) → va_S A S0.heap H locs → lv_has ls 2 [(0, .ref (g 0)), (1, .ref (ad w1))] → W PP l EE (headSpec wsX3_carryOutInner ({ frames := 3, cells := 0, slots := 0, locals := 67 })).room S0 MM (#[.ref (g 0), .ref (ad w1)] : Array Value) below meth CC H locs 0 0 (MQ below (cQi D (wM g cA t u.2.1 y u.2.2.1 q k u.2.2.2.1 u.2.2.2.2 o m) A u.1) (#[.ref (g 0), .ref (ad w1)] : Array Value) S0 0 0 A) (F0 MM 0 ls []) from main _ _ _ hP hD hS hl
  intro H locs ls hP hD hS hl
  refine va_gets hx hb hX.2.2.2.1 hS hown k0 (fun _ h9 => h9) dX3_carryOutInner_0 ?_
  refine lv_aload_n hx hb dX3_carryOutInner_3 rfl (lv_at hl 1 rfl) ?_
  refine cu_i (As := []) (rest := [.ref tS]) (r := wV_ordinal.getD w1 0) ⟨hx, hb, hml, hown, hts⟩ (c_ordinal l w1 (ad w1) H.size) (va_cwU 0 hts gX3_carryOutInner_Jx29ce0_ordinal_8abf5_u284X10 rfl rfl rfl rfl (by decide +kernel) ⟨Nat.le_of_ble_eq_true rfl, Nat.le_of_ble_eq_true rfl⟩) rfl hl.1 rfl (Nat.le_of_ble_eq_true rfl) dX3_carryOutInner_4 ⟨Nat.zero_le _, Nat.zero_le _⟩ hP hD hS hA (recvO (hX.2.2.2.2.2.2.1 w1 hw1).2.1 hS) PO_blind (PO_call ((hX.2.2.2.2.2.2.1 w1 hw1).2.2.1 ("java/lang/Enum", "ordinal", "I", wV_ordinal) (List.mem_of_getElem? (i := 0) rfl)) hS hA) (fun H locs hP hD hS => ?_)
  have ⟨c1, hE⟩ := ck_some hE
  refine va_ti hx hb hX.2.2.2.2.1 hS c1 rfl dX3_carryOutInner_7 ?_
  by_cases c2 : (swm ((wV_ordinal.getD w1 0).toNatClampNeg)) = 21
  · have hE := if_t c2 hE
    refine lv_tableIn (tgt := 36) (off := 28) hx hb dX3_carryOutInner_8 (by rw [c2]; decide +kernel) (by rw [c2]; decide +kernel) (by rw [c2]; decide +kernel) (by decide) ?_
    refine lv_aload_n hx hb dX3_carryOutInner_36 rfl (lv_at hl 0 rfl) ?_
    refine va_get (D := D) (ci := 2) (v := .ref (g 21)) (C := RX3) (T := TX3) (N := 14) hx hb hts inX3 hown hK hP 0 rfl rfl 5 (by decide) k1 (fun _ h9 => h9) rfl dX3_carryOutInner_37 ?_
    obtain ⟨u3, h4, hE⟩ := bd_some hE
    refine cn_v (As := []) (rest := []) (w0 := (wM g cA t s y d q k r c o m)) (N := 28) ⟨hx, hb, hml, hown, hts⟩ (c_X1_comeBack l D cA (g 21) (g 22) (g 23) (g 24) (g 25) H.size c u3 h4) (cwV 0 hts hX3_carryOutInner_X1_comeBack_117 rfl rfl rfl (by decide +kernel) ⟨Nat.le_of_ble_eq_true rfl, Nat.le_of_ble_eq_true rfl⟩) rfl hl.1 rfl (Nat.le_of_ble_eq_true rfl) dX3_carryOutInner_40 ⟨Nat.zero_le _, Nat.zero_le _⟩ hK hP hD hS hA (va_recv hK hP (ci := 0) (q0 := 21) rfl rfl) [21, 22, 23, 24, 25] [0, 1, 2, 3, 4, 5, 6, 7, 8, 9, 10, 11, 12, 13, 14, 15, 16, 17, 18, 19, 20, 26, 27] (wM g cA t s y d q k r u3 o m) rfl (by decide +kernel) rfl (wr := List.filterMap (fun i => (wM g cA t s y d q k r c o m)[i]?) [0, 1, 2, 3, 4, 5, 6, 7, 8, 9, 10, 11, 12, 13, 14, 15, 16, 17, 18, 19, 20, 26, 27]) rfl rfl (by decide +kernel) rfl (by decide +kernel) [g 0, g 1, g 2, g 3, g 4, g 5, g 6, g 7, g 8, g 9, g 10, g 11, g 12, g 13, g 14, g 15, g 16, g 17, g 18, g 19, g 20, g 21, g 22, g 23, g 24, g 25, g 26, g 27] rfl rfl (fun _ _ _ _ h => h) (fun _ _ _ => trivial) (fun H locs hP hD hS => ?_)
    have hP : va_P D vwCl (wM g cA t s y d q k r u3 o m) H := hP
    have hD : va_D A (wM g cA t s y d q k r u3 o m) := hD
    refine lv_iconst (v := 0) hx hb dX3_carryOutInner_43 (by decide +kernel) ?_
    obtain rfl := Option.some.inj hE
    exact rt_i hx hb hr hP hS rfl hlocks dX3_carryOutInner_44
  have hE := if_f c2 hE
  by_cases c5 : (swm ((wV_ordinal.getD w1 0).toNatClampNeg)) = 22
  · have hE := if_t c5 hE
    refine lv_tableIn (tgt := 45) (off := 37) hx hb dX3_carryOutInner_8 (by rw [c5]; decide +kernel) (by rw [c5]; decide +kernel) (by rw [c5]; decide +kernel) (by decide) ?_
    refine lv_aload_n hx hb dX3_carryOutInner_45 rfl (lv_at hl 0 rfl) ?_
    obtain ⟨u6, h7, hE⟩ := bd_some hE
    refine cw_i (As := []) (rest := []) (r := u6.1) (wc := (wM g cA t s y d q k r c o m)) ⟨hx, hb, hml, hown, hts⟩ (c_X3_enterLoop l D cA ad adK adV tA tS g H.size t s y d q k r c o m u6 h7) (cwV 0 hts hX3_carryOutInner_X3_enterLoop_287 rfl rfl rfl (by decide +kernel) ⟨Nat.le_of_ble_eq_true rfl, Nat.le_of_ble_eq_true rfl⟩) rfl hl.1 rfl (Nat.le_of_ble_eq_true rfl) dX3_carryOutInner_46 ⟨Nat.zero_le _, Nat.zero_le _⟩ hK hP hD hS hA (va_recv hK hP (ci := 2) (q0 := 0) rfl rfl) [g 0, g 1, g 2, g 3, g 4, g 5, g 6, g 7, g 8, g 9, g 10, g 11, g 12, g 13, g 14, g 15, g 16, g 17, g 18, g 19, g 20, g 21, g 22, g 23, g 24, g 25, g 26, g 27] rfl rfl (fun a U g mk h => SX.blind a U g mk h) (fun U hU hW => SX.call hX hS (fun q h => h.elim (fun ⟨k, e, h⟩ => hD.2 k (q, e) h) (fun h => hA q (Nat.le_trans hS.1 h))) U hU hW) (fun H locs hP hD hS => ?_)
    have hP : va_P D vwCl (wM g cA t u6.2.1 y d q k u6.2.2 c o m) H := hP
    have hD : va_D A (wM g cA t u6.2.1 y d q k u6.2.2 c o m) := hD
    obtain rfl := Option.some.inj hE
    exact rt_i hx hb hr hP hS rfl hlocks dX3_carryOutInner_49
  have hE := if_f c5 hE
  by_cases c8 : (swm ((wV_ordinal.getD w1 0).toNatClampNeg)) = 23
  · have hE := if_t c8 hE
    refine lv_tableIn (tgt := 50) (off := 42) hx hb dX3_carryOutInner_8 (by rw [c8]; decide +kernel) (by rw [c8]; decide +kernel) (by rw [c8]; decide +kernel) (by decide) ?_
    refine lv_aload_n hx hb dX3_carryOutInner_50 rfl (lv_at hl 0 rfl) ?_
    obtain ⟨u9, h10, hE⟩ := bd_some hE
    refine cw_i (As := []) (rest := []) (r := u9.1) (wc := (wM g cA t s y d q k r c o m)) ⟨hx, hb, hml, hown, hts⟩ (c_X3_giveBehaviour l D cA ad adK adV tA tS g H.size t s y d q k r c o m u9 h10) (cwV 0 hts hX3_carryOutInner_X3_giveBehaviour_290 rfl rfl rfl (by decide +kernel) ⟨Nat.le_of_ble_eq_true rfl, Nat.le_of_ble_eq_true rfl⟩) rfl hl.1 rfl (Nat.le_of_ble_eq_true rfl) dX3_carryOutInner_51 ⟨Nat.zero_le _, Nat.zero_le _⟩ hK hP hD hS hA (va_recv hK hP (ci := 2) (q0 := 0) rfl rfl) [g 0, g 1, g 2, g 3, g 4, g 5, g 6, g 7, g 8, g 9, g 10, g 11, g 12, g 13, g 14, g 15, g 16, g 17, g 18, g 19, g 20, g 21, g 22, g 23, g 24, g 25, g 26, g 27] rfl rfl (fun a U g mk h => SX.blind a U g mk h) (fun U hU hW => SX.call hX hS (fun q h => h.elim (fun ⟨k, e, h⟩ => hD.2 k (q, e) h) (fun h => hA q (Nat.le_trans hS.1 h))) U hU hW) (fun H locs hP hD hS => ?_)
    have hP : va_P D vwCl (wM g cA t s y u9.2.1 q k r u9.2.2 o m) H := hP
    have hD : va_D A (wM g cA t s y u9.2.1 q k r u9.2.2 o m) := hD
    obtain rfl := Option.some.inj hE
    exact rt_i hx hb hr hP hS rfl hlocks dX3_carryOutInner_54
  have hE := if_f c8 hE
  have tc2 := lv_neT c2 (show (21 : Int32).toInt = 21 by decide +kernel)
  have tc5 := lv_neT c5 (show (22 : Int32).toInt = 22 by decide +kernel)
  have tc8 := lv_neT c8 (show (23 : Int32).toInt = 23 by decide +kernel)
  refine lv_tableOut (tgt := 55) hx hb dX3_carryOutInner_8 (by omega) (by decide) ?_
  refine lv_aload_n hx hb dX3_carryOutInner_55 rfl (lv_at hl 0 rfl) ?_
  refine lv_aload_n hx hb dX3_carryOutInner_56 rfl (lv_at hl 1 rfl) ?_
  refine lv_aload_n hx hb dX3_carryOutInner_57 rfl (lv_at hl 0 rfl) ?_
  refine va_get (D := D) (ci := 2) (v := .ref (g 21)) (C := RX3) (T := TX3) (N := 14) hx hb hts inX3 hown hK hP 0 rfl rfl 5 (by decide) k1 (fun _ h9 => h9) rfl dX3_carryOutInner_58 ?_
  obtain ⟨u11, h12, hE⟩ := bd_some hE
  refine cn_i (As := []) (rest := [.ref (ad w1), .ref (g 0)]) (r := u11) (w0 := (wM g cA t s y d q k r c o m)) (N := 28) ⟨hx, hb, hml, hown, hts⟩ (c_X1_place l D cA (g 21) (g 22) (g 23) (g 24) (g 25) H.size c u11 h12) (cwV 0 hts hX3_carryOutInner_X1_place_175 rfl rfl rfl (by decide +kernel) ⟨Nat.le_of_ble_eq_true rfl, Nat.le_of_ble_eq_true rfl⟩) rfl hl.1 rfl (Nat.le_of_ble_eq_true rfl) dX3_carryOutInner_61 ⟨Nat.zero_le _, Nat.zero_le _⟩ hK hP hD hS hA (va_recv hK hP (ci := 0) (q0 := 21) rfl rfl) [21, 22, 23, 24, 25] [0, 1, 2, 3, 4, 5, 6, 7, 8, 9, 10, 11, 12, 13, 14, 15, 16, 17, 18, 19, 20, 26, 27] (wM g cA t s y d q k r c o m) rfl (by decide +kernel) rfl (wr := List.filterMap (fun i => (wM g cA t s y d q k r c o m)[i]?) [0, 1, 2, 3, 4, 5, 6, 7, 8, 9, 10, 11, 12, 13, 14, 15, 16, 17, 18, 19, 20, 26, 27]) rfl rfl (by decide +kernel) rfl (by decide +kernel) [g 0, g 1, g 2, g 3, g 4, g 5, g 6, g 7, g 8, g 9, g 10, g 11, g 12, g 13, g 14, g 15, g 16, g 17, g 18, g 19, g 20, g 21, g 22, g 23, g 24, g 25, g 26, g 27] rfl rfl (fun _ _ _ _ h => h) (fun _ _ _ => trivial) (fun H locs hP hD hS => ?_)
  have hP : va_P D vwCl (wM g cA t s y d q k r c o m) H := hP
  have hD : va_D A (wM g cA t s y d q k r c o m) := hD
  obtain ⟨u13, h14, hE⟩ := bd_some hE
  refine cw_i (As := [.ref (ad w1), .int u11]) (rest := []) (r := u13.1) (wc := (wM g cA t s y d q k r c o m)) ⟨hx, hb, hml, hown, hts⟩ (c_X3_useNumberBehind l D cA ad adK adV tA tS g H.size w1 u11 t s y d q k r c o m u13 h14) (cwV 2 hts hX3_carryOutInner_X3_useNumberBehind_293 rfl rfl rfl (by decide +kernel) ⟨Nat.le_of_ble_eq_true rfl, Nat.le_of_ble_eq_true rfl⟩) rfl hl.1 rfl (Nat.le_of_ble_eq_true rfl) dX3_carryOutInner_64 ⟨Nat.zero_le _, Nat.zero_le _⟩ hK hP hD hS hA (va_recv hK hP (ci := 2) (q0 := 0) rfl rfl) [g 0, g 1, g 2, g 3, g 4, g 5, g 6, g 7, g 8, g 9, g 10, g 11, g 12, g 13, g 14, g 15, g 16, g 17, g 18, g 19, g 20, g 21, g 22, g 23, g 24, g 25, g 26, g 27] rfl rfl (fun a U g mk h => SX.blind a U g mk h) (fun U hU hW => SX.call hX hS (fun q h => h.elim (fun ⟨k, e, h⟩ => hD.2 k (q, e) h) (fun h => hA q (Nat.le_trans hS.1 h))) U hU hW) (fun H locs hP hD hS => ?_)
  have hP : va_P D vwCl (wM g cA t u13.2.1 y d q k u13.2.2.1 u13.2.2.2 o m) H := hP
  have hD : va_D A (wM g cA t u13.2.1 y d q k u13.2.2.1 u13.2.2.2 o m) := hD
  obtain rfl := Option.some.inj hE
  exact rt_i hx hb hr hP hS rfl hlocks dX3_carryOutInner_67
set_option maxRecDepth 20000 in
theorem hX3_pick_X8_fromTop_212 : GoodIn wsX3_pick (wsV RX3 212 RX8 yX8_fromTop wsX8_fromTop) := goodIn_r _ [2, 3, 4, 5, 6, 7, 8, 27, 28, 29] rfl (by decide +kernel)
set_option maxRecDepth 20000 in
theorem hX3_pick_X8_replaceTop_219 : GoodIn wsX3_pick (wsV RX3 219 RX8 yX8_replaceTop wsX8_replaceTop) := goodIn_r _ [9, 10, 11, 5, 12, 7, 8, 27, 28, 29] rfl (by decide +kernel)
set_option maxHeartbeats 4000000 in
set_option maxRecDepth 100000 in
theorem c_X3_pick (l : Launch) (D : va_G) (cA : Nat → ClassId) (ad adK adV : Nat → Nat) (tA tS : Nat) (g : Nat → Nat) (sz : Nat) (t : tT) (s : tR) (y : tY) (d : tD) (q : tP) (k : tK) (r : tR) (c : tC) (o : tO) (m : tM) (u : Int32 × tR) (hE : f_X3_pick s = some u) : Met l yX3_pick wsX3_pick ({ frames := 1, cells := 0, slots := 0, locals := 21 }) (va_Pc [.ref (g 0)] (PRE D cA (wM g cA t s y d q k r c o m) sz (fun U => SX ad adK adV tA tS (va_A (wM g cA t s y d q k r c o m) sz) U U.heap))) (cQi D (wM g cA t u.2 y d q k r c o m) (va_A (wM g cA t s y d q k r c o m) sz) u.1) 0 0 (va_A (wM g cA t s y d q k r c o m) sz) := by
  refine Met.ofW (cc := cX3_pick) (maxL := 2) (ret := (some .int)) (by decide) rfl ?_
  intro PP EE S0 MM args below meth CC S1 B hml hv
  obtain ⟨rfl, hsz, hP, hK, hD0, hX⟩ := hv
  have hx := B.exec
  have hb := B.bytes
  have hr := B.returns
  have hts := atoms_spec (ws := wsX3_pick) B.pre
  have hown : S0.vm.findClass RX3 = some MM.cls := findClass_of_methodNamed B.named
  have hlocks := B.notSynchronized
  subst hsz
  have hD := hD0.self (sz := S0.heap.size)
  have hX : SX ad adK adV tA tS (va_A (wM g cA t s y d q k r c o m) S0.heap.size) S0 S0.heap := hX
  generalize hAe : va_A (wM g cA t s y d q k r c o m) S0.heap.size = A at hD hX ⊢
  have hA : ∀ q : Nat, S0.heap.size ≤ q → A q := fun q h => by rw [← hAe]; exact Or.inr h
  have hS : va_S A S0.heap S0.heap [] := va_S.rf
  have k0 := hts (.fieldLink RX3 23 "WordForge$Machine" "stack" "LWordForge$Row;") (List.mem_of_getElem? (i := 1) rfl)
  have inX3 : ∀ w ∈ wsX30, w ∈ wsX3_pick := fun _ h => List.mem_cons_of_mem _ (List.mem_append_left _ (List.mem_append_right _ h))
  have k2 := hX.nest (.fieldLinkNest RX3 144 "WordForge$Row" "size" "I" "WordForge") (List.mem_of_getElem? (i := 2) rfl)
  have inX8 : ∀ w ∈ wsX80, w ∈ wsX3_pick := fun _ h => List.mem_cons_of_mem _ (List.mem_append_right _ h)
  have hl := lv_entry ([.ref (g 0)]) (n := 2) (Nat.le_of_ble_eq_true rfl)
  rw [lg_entry_eq]
  generalize (lg_sl ([.ref (g 0)]) ++ List.replicate (2 - (lg_sl ([.ref (g 0)])).length) Slot.unset).toArray = ls at hl ⊢
  have hl : lv_has ls 2 [(0, .ref (g 0))] := hl
  unfold f_X3_pick at hE
  suffices main : ∀ (H : Heap) (locs : List Loc) (ls : Array Slot), va_P D vwCl (wM g cA t s y d q k r c o m) H → va_D A (wM g cA t s y d q k r c o m) → va_S A S0.heap H locs → lv_has ls 2 [(0, .ref (g 0))] → W PP l EE (headSpec wsX3_pick ({ frames := 1, cells := 0, slots := 0, locals := 21 })).room S0 MM (#[.ref (g 0)] : Array Value) below meth CC H locs 0 0 (MQ below (cQi D (wM g cA t u.2 y d q k r c o m) A u.1) (#[.ref (g 0)] : Array Value) S0 0 0 A) (F0 MM 0 ls []) from main _ _ _ hP hD hS hl
  intro H locs ls hP hD hS hl
  refine lv_aload_n hx hb dX3_pick_0 rfl (lv_at hl 0 rfl) ?_
  refine va_get (D := D) (ci := 2) (v := .ref (g 4)) (C := RX3) (T := TX3) (N := 14) hx hb hts inX3 hown hK hP 0 rfl rfl 1 (by decide) k0 (fun _ h9 => h9) rfl dX3_pick_1 ?_
  refine lv_iconst (v := 0) hx hb dX3_pick_4 (by decide +kernel) ?_
  obtain ⟨u1, h2, hE⟩ := bd_some hE
  refine cn_i (As := [.int 0]) (rest := []) (r := u1) (w0 := (wM g cA t s y d q k r c o m)) (N := 28) ⟨hx, hb, hml, hown, hts⟩ (c_X8_fromTop l D cA (g 4) (g 5) H.size 0 (-3) s u1 h2) (cwV 1 hts hX3_pick_X8_fromTop_212 rfl rfl rfl (by decide +kernel) ⟨Nat.le_of_ble_eq_true rfl, Nat.le_of_ble_eq_true rfl⟩) rfl hl.1 rfl (Nat.le_of_ble_eq_true rfl) dX3_pick_5 ⟨Nat.zero_le _, Nat.zero_le _⟩ hK hP hD hS hA (va_recv hK hP (ci := 7) (q0 := 4) rfl rfl) [4, 5] [0, 1, 2, 3, 6, 7, 8, 9, 10, 11, 12, 13, 14, 15, 16, 17, 18, 19, 20, 21, 22, 23, 24, 25, 26, 27] (wM g cA t s y d q k r c o m) rfl (by decide +kernel) rfl (wr := List.filterMap (fun i => (wM g cA t s y d q k r c o m)[i]?) [0, 1, 2, 3, 6, 7, 8, 9, 10, 11, 12, 13, 14, 15, 16, 17, 18, 19, 20, 21, 22, 23, 24, 25, 26, 27]) rfl rfl (by decide +kernel) rfl (by decide +kernel) [g 0, g 1, g 2, g 3, g 4, g 5, g 6, g 7, g 8, g 9, g 10, g 11, g 12, g 13, g 14, g 15, g 16, g 17, g 18, g 19, g 20, g 21, g 22, g 23, g 24, g 25, g 26, g 27] rfl rfl (fun _ _ _ _ h => h) (fun _ _ _ => trivial) (fun H locs hP hD hS => ?_)
  have hP : va_P D vwCl (wM g cA t s y d q k r c o m) H := hP
  have hD : va_D A (wM g cA t s y d q k r c o m) := hD
  refine lv_istore_n (lv' := [(1, .int u1), (0, .ref (g 0))]) hx hb dX3_pick_8 rfl hl (by decide) rfl (fun ls hl => ?_)
  refine lv_iload_n hx hb dX3_pick_9 rfl (lv_at hl 0 rfl) ?_
  refine lv_if_lt (tgt := 26) hx hb dX3_pick_10 (by decide) (fun c3 => ?_) (fun c3 => ?_)
  · have hE := if_t c3 hE
    refine lv_bipush (v := (-4)) hx hb dX3_pick_26 (by decide +kernel) ?_
    obtain rfl := Option.some.inj hE
    exact rt_i hx hb hr hP hS rfl hlocks dX3_pick_28
  · have hE := if_f c3 hE
    refine lv_iload_n hx hb dX3_pick_13 rfl (lv_at hl 0 rfl) ?_
    refine lv_aload_n hx hb dX3_pick_14 rfl (lv_at hl 1 rfl) ?_
    refine va_get (D := D) (ci := 2) (v := .ref (g 4)) (C := RX3) (T := TX3) (N := 14) hx hb hts inX3 hown hK hP 0 rfl rfl 1 (by decide) k0 (fun _ h9 => h9) rfl dX3_pick_15 ?_
    refine va_getN (D := D) (ci := 7) (v := .int s.1) (C := RX8) (T := TX8) (N := 3) hx hb hts inX8 hown hK hP 4 rfl rfl 2 (by decide) (k2 _) (fun _ h9 => h9) rfl dX3_pick_18 ?_
    refine lv_iconst (v := 1) hx hb dX3_pick_21 (by decide +kernel) ?_
    refine lv_isub hx hb dX3_pick_22 ?_
    refine lv_icmp_lt (tgt := 29) hx hb dX3_pick_23 (by decide) (fun c4 => ?_) (fun c4 => ?_)
    · have hE := if_t c4 hE
      refine lv_aload_n hx hb dX3_pick_29 rfl (lv_at hl 1 rfl) ?_
      refine va_get (D := D) (ci := 2) (v := .ref (g 4)) (C := RX3) (T := TX3) (N := 14) hx hb hts inX3 hown hK hP 0 rfl rfl 1 (by decide) k0 (fun _ h9 => h9) rfl dX3_pick_30 ?_
      refine lv_aload_n hx hb dX3_pick_33 rfl (lv_at hl 1 rfl) ?_
      refine va_get (D := D) (ci := 2) (v := .ref (g 4)) (C := RX3) (T := TX3) (N := 14) hx hb hts inX3 hown hK hP 0 rfl rfl 1 (by decide) k0 (fun _ h9 => h9) rfl dX3_pick_34 ?_
      refine lv_iload_n hx hb dX3_pick_37 rfl (lv_at hl 0 rfl) ?_
      refine lv_iconst (v := 1) hx hb dX3_pick_38 (by decide +kernel) ?_
      refine lv_iadd hx hb dX3_pick_39 ?_
      obtain ⟨u5, h6, hE⟩ := bd_some hE
      refine cn_i (As := [.int (u1 + 1)]) (rest := [.ref (g 4)]) (r := u5) (w0 := (wM g cA t s y d q k r c o m)) (N := 28) ⟨hx, hb, hml, hown, hts⟩ (c_X8_fromTop l D cA (g 4) (g 5) H.size (u1 + 1) (-3) s u5 h6) (cwV 1 hts hX3_pick_X8_fromTop_212 rfl rfl rfl (by decide +kernel) ⟨Nat.le_of_ble_eq_true rfl, Nat.le_of_ble_eq_true rfl⟩) rfl hl.1 rfl (Nat.le_of_ble_eq_true rfl) dX3_pick_40 ⟨Nat.zero_le _, Nat.zero_le _⟩ hK hP hD hS hA (va_recv hK hP (ci := 7) (q0 := 4) rfl rfl) [4, 5] [0, 1, 2, 3, 6, 7, 8, 9, 10, 11, 12, 13, 14, 15, 16, 17, 18, 19, 20, 21, 22, 23, 24, 25, 26, 27] (wM g cA t s y d q k r c o m) rfl (by decide +kernel) rfl (wr := List.filterMap (fun i => (wM g cA t s y d q k r c o m)[i]?) [0, 1, 2, 3, 6, 7, 8, 9, 10, 11, 12, 13, 14, 15, 16, 17, 18, 19, 20, 21, 22, 23, 24, 25, 26, 27]) rfl rfl (by decide +kernel) rfl (by decide +kernel) [g 0, g 1, g 2, g 3, g 4, g 5, g 6, g 7, g 8, g 9, g 10, g 11, g 12, g 13, g 14, g 15, g 16, g 17, g 18, g 19, g 20, g 21, g 22, g 23, g 24, g 25, g 26, g 27] rfl rfl (fun _ _ _ _ h => h) (fun _ _ _ => trivial) (fun H locs hP hD hS => ?_)
      have hP : va_P D vwCl (wM g cA t s y d q k r c o m) H := hP
      have hD : va_D A (wM g cA t s y d q k r c o m) := hD
      obtain ⟨u7, h8, hE⟩ := bd_some hE
      refine cn_v (As := [.int u5]) (rest := []) (w0 := (wM g cA t s y d q k r c o m)) (N := 28) ⟨hx, hb, hml, hown, hts⟩ (c_X8_replaceTop l D cA (g 4) (g 5) H.size u5 (-3) s u7 h8) (cwV 1 hts hX3_pick_X8_replaceTop_219 rfl rfl rfl (by decide +kernel) ⟨Nat.le_of_ble_eq_true rfl, Nat.le_of_ble_eq_true rfl⟩) rfl hl.1 rfl (Nat.le_of_ble_eq_true rfl) dX3_pick_43 ⟨Nat.zero_le _, Nat.zero_le _⟩ hK hP hD hS hA (va_recv hK hP (ci := 7) (q0 := 4) rfl rfl) [4, 5] [0, 1, 2, 3, 6, 7, 8, 9, 10, 11, 12, 13, 14, 15, 16, 17, 18, 19, 20, 21, 22, 23, 24, 25, 26, 27] (wM g cA t u7 y d q k r c o m) rfl (by decide +kernel) rfl (wr := List.filterMap (fun i => (wM g cA t s y d q k r c o m)[i]?) [0, 1, 2, 3, 6, 7, 8, 9, 10, 11, 12, 13, 14, 15, 16, 17, 18, 19, 20, 21, 22, 23, 24, 25, 26, 27]) rfl rfl (by decide +kernel) rfl (by decide +kernel) [g 0, g 1, g 2, g 3, g 4, g 5, g 6, g 7, g 8, g 9, g 10, g 11, g 12, g 13, g 14, g 15, g 16, g 17, g 18, g 19, g 20, g 21, g 22, g 23, g 24, g 25, g 26, g 27] rfl rfl (fun _ _ _ _ h => h) (fun _ _ _ => trivial) (fun H locs hP hD hS => ?_)
      have hP : va_P D vwCl (wM g cA t u7 y d q k r c o m) H := hP
      have hD : va_D A (wM g cA t u7 y d q k r c o m) := hD
      refine lv_iconst (v := 0) hx hb dX3_pick_46 (by decide +kernel) ?_
      obtain rfl := Option.some.inj hE
      exact rt_i hx hb hr hP hS rfl hlocks dX3_pick_47
    · have hE := if_f c4 hE
      refine lv_bipush (v := (-4)) hx hb dX3_pick_26 (by decide +kernel) ?_
      obtain rfl := Option.some.inj hE
      exact rt_i hx hb hr hP hS rfl hlocks dX3_pick_28
set_option maxRecDepth 20000 in
theorem hX3_useStore_X8_hasRoom_261 : GoodIn wsX3_useStore (wsV RX3 261 RX8 yX8_hasRoom wsX8_hasRoom) := goodIn_r _ [11, 12, 13, 14, 15, 16, 51, 52, 53] rfl (by decide +kernel)
set_option maxRecDepth 20000 in
theorem hX3_useStore_X8_take_305 : GoodIn wsX3_useStore (wsV RX3 305 RX8 yX8_take wsX8_take) := goodIn_r _ [17, 18, 19, 14, 20, 21, 22, 23, 14, 24, 16, 25, 26, 27, 28, 29, 51, 52, 53] rfl (by decide +kernel)
set_option maxRecDepth 20000 in
theorem hX3_useStore_X8_put_120 : GoodIn wsX3_useStore (wsV RX3 120 RX8 yX8_put wsX8_put) := goodIn_r _ [30, 31, 32, 14, 33, 16, 34, 25, 51, 52, 53] rfl (by decide +kernel)
set_option maxRecDepth 20000 in
theorem hX3_useStore_X8_fromTop_212 : GoodIn wsX3_useStore (wsV RX3 212 RX8 yX8_fromTop wsX8_fromTop) := goodIn_r _ [35, 22, 23, 14, 24, 16, 25, 51, 52, 53] rfl (by decide +kernel)
set_option maxRecDepth 20000 in
theorem hX3_useStore_X8_drop_296 : GoodIn wsX3_useStore (wsV RX3 296 RX8 yX8_drop wsX8_drop) := goodIn_r _ [36, 27, 28, 14, 29, 16, 51, 52, 53] rfl (by decide +kernel)
set_option maxHeartbeats 4000000 in
set_option maxRecDepth 100000 in
theorem c_X3_useStore (l : Launch) (D : va_G) (cA : Nat → ClassId) (ad adK adV : Nat → Nat) (tA tS : Nat) (g : Nat → Nat) (sz : Nat) (w1 : Nat) (t : tT) (s : tR) (y : tY) (d : tD) (q : tP) (k : tK) (r : tR) (c : tC) (o : tO) (m : tM) (u : Int32 × tR × tR) (hE : f_X3_useStore w1 s r = some u) : Met l yX3_useStore wsX3_useStore ({ frames := 2, cells := 0, slots := 0, locals := 42 }) (va_Pc [.ref (g 0), .ref (ad w1)] (PRE D cA (wM g cA t s y d q k r c o m) sz (fun U => SX ad adK adV tA tS (va_A (wM g cA t s y d q k r c o m) sz) U U.heap))) (cQi D (wM g cA t u.2.1 y d q k u.2.2 c o m) (va_A (wM g cA t s y d q k r c o m) sz) u.1) 0 0 (va_A (wM g cA t s y d q k r c o m) sz) := by
  refine Met.ofW (cc := cX3_useStore) (maxL := 2) (ret := (some .int)) (by decide) rfl ?_
  intro PP EE S0 MM args below meth CC S1 B hml hv
  obtain ⟨rfl, hsz, hP, hK, hD0, hX⟩ := hv
  have hx := B.exec
  have hb := B.bytes
  have hr := B.returns
  have hts := atoms_spec (ws := wsX3_useStore) B.pre
  have hown : S0.vm.findClass RX3 = some MM.cls := findClass_of_methodNamed B.named
  have hlocks := B.notSynchronized
  subst hsz
  have hD := hD0.self (sz := S0.heap.size)
  have hX : SX ad adK adV tA tS (va_A (wM g cA t s y d q k r c o m) S0.heap.size) S0 S0.heap := hX
  generalize hAe : va_A (wM g cA t s y d q k r c o m) S0.heap.size = A at hD hX ⊢
  have hA : ∀ q : Nat, S0.heap.size ≤ q → A q := fun q h => by rw [← hAe]; exact Or.inr h
  have hS : va_S A S0.heap S0.heap [] := va_S.rf
  have k0 := hts (.fieldLink RX3 279 "WordForge$1" "$SwitchMap$WordForge$Word" "[I") (List.mem_of_getElem? (i := 1) rfl)
  have k1 := hts (.fieldLink RX3 27 "WordForge$Machine" "store" "LWordForge$Row;") (List.mem_of_getElem? (i := 2) rfl)
  have inX3 : ∀ w ∈ wsX30, w ∈ wsX3_useStore := fun _ h => List.mem_cons_of_mem _ (List.mem_append_left _ (List.mem_append_right _ h))
  have k3 := hts (.fieldLink RX3 23 "WordForge$Machine" "stack" "LWordForge$Row;") (List.mem_of_getElem? (i := 3) rfl)
  have hl := lv_entry ([.ref (g 0), .ref (ad w1)]) (n := 2) (Nat.le_of_ble_eq_true rfl)
  rw [lg_entry_eq]
  generalize (lg_sl ([.ref (g 0), .ref (ad w1)]) ++ List.replicate (2 - (lg_sl ([.ref (g 0), .ref (ad w1)])).length) Slot.unset).toArray = ls at hl ⊢
  have hl : lv_has ls 2 [(0, .ref (g 0)), (1, .ref (ad w1))] := hl
  unfold f_X3_useStore at hE
  have ⟨hw1, hE⟩ := ck_some hE
  suffices main : ∀ (H : Heap) (locs : List Loc) (ls : Array Slot), va_P D vwCl (wM g cA t s y d q k r c o m) H → va_D A (wM g cA t s y d q k r c o m) → va_S A S0.heap H locs → lv_has ls 2 [(0, .ref (g 0)), (1, .ref (ad w1))] → W PP l EE (headSpec wsX3_useStore ({ frames := 2, cells := 0, slots := 0, locals := 42 })).room S0 MM (#[.ref (g 0), .ref (ad w1)] : Array Value) below meth CC H locs 0 0 (MQ below (cQi D (wM g cA t u.2.1 y d q k u.2.2 c o m) A u.1) (#[.ref (g 0), .ref (ad w1)] : Array Value) S0 0 0 A) (F0 MM 0 ls []) from main _ _ _ hP hD hS hl
  intro H locs ls hP hD hS hl
  refine va_gets hx hb hX.2.2.2.1 hS hown k0 (fun _ h9 => h9) dX3_useStore_0 ?_
  refine lv_aload_n hx hb dX3_useStore_3 rfl (lv_at hl 1 rfl) ?_
  refine cu_i (As := []) (rest := [.ref tS]) (r := wV_ordinal.getD w1 0) ⟨hx, hb, hml, hown, hts⟩ (c_ordinal l w1 (ad w1) H.size) (va_cwU 0 hts gX3_useStore_Jx29ce0_ordinal_8abf5_u284X10 rfl rfl rfl rfl (by decide +kernel) ⟨Nat.le_of_ble_eq_true rfl, Nat.le_of_ble_eq_true rfl⟩) rfl hl.1 rfl (Nat.le_of_ble_eq_true rfl) dX3_useStore_4 ⟨Nat.zero_le _, Nat.zero_le _⟩ hP hD hS hA (recvO (hX.2.2.2.2.2.2.1 w1 hw1).2.1 hS) PO_blind (PO_call ((hX.2.2.2.2.2.2.1 w1 hw1).2.2.1 ("java/lang/Enum", "ordinal", "I", wV_ordinal) (List.mem_of_getElem? (i := 0) rfl)) hS hA) (fun H locs hP hD hS => ?_)
  have ⟨c1, hE⟩ := ck_some hE
  refine va_ti hx hb hX.2.2.2.2.1 hS c1 rfl dX3_useStore_7 ?_
  by_cases c2 : (swm ((wV_ordinal.getD w1 0).toNatClampNeg)) = 37
  · have hE := if_t c2 hE
    refine lv_tableIn (tgt := 40) (off := 32) hx hb dX3_useStore_8 (by rw [c2]; decide +kernel) (by rw [c2]; decide +kernel) (by rw [c2]; decide +kernel) (by decide) ?_
    refine lv_aload_n hx hb dX3_useStore_40 rfl (lv_at hl 0 rfl) ?_
    refine va_get (D := D) (ci := 2) (v := .ref (g 19)) (C := RX3) (T := TX3) (N := 14) hx hb hts inX3 hown hK hP 0 rfl rfl 2 (by decide) k1 (fun _ h9 => h9) rfl dX3_useStore_41 ?_
    refine lv_iconst (v := 1) hx hb dX3_useStore_44 (by decide +kernel) ?_
    obtain ⟨u3, h4, hE⟩ := bd_some hE
    refine cn_i (As := [.int 1]) (rest := []) (r := u3) (w0 := (wM g cA t s y d q k r c o m)) (N := 28) ⟨hx, hb, hml, hown, hts⟩ (c_X8_hasRoom l D cA (g 19) (g 20) H.size 1 (-5) r u3 h4) (cwV 1 hts hX3_useStore_X8_hasRoom_261 rfl rfl rfl (by decide +kernel) ⟨Nat.le_of_ble_eq_true rfl, Nat.le_of_ble_eq_true rfl⟩) rfl hl.1 rfl (Nat.le_of_ble_eq_true rfl) dX3_useStore_45 ⟨Nat.zero_le _, Nat.zero_le _⟩ hK hP hD hS hA (va_recv hK hP (ci := 7) (q0 := 19) rfl rfl) [19, 20] [0, 1, 2, 3, 4, 5, 6, 7, 8, 9, 10, 11, 12, 13, 14, 15, 16, 17, 18, 21, 22, 23, 24, 25, 26, 27] (wM g cA t s y d q k r c o m) rfl (by decide +kernel) rfl (wr := List.filterMap (fun i => (wM g cA t s y d q k r c o m)[i]?) [0, 1, 2, 3, 4, 5, 6, 7, 8, 9, 10, 11, 12, 13, 14, 15, 16, 17, 18, 21, 22, 23, 24, 25, 26, 27]) rfl rfl (by decide +kernel) rfl (by decide +kernel) [g 0, g 1, g 2, g 3, g 4, g 5, g 6, g 7, g 8, g 9, g 10, g 11, g 12, g 13, g 14, g 15, g 16, g 17, g 18, g 19, g 20, g 21, g 22, g 23, g 24, g 25, g 26, g 27] rfl rfl (fun _ _ _ _ h => h) (fun _ _ _ => trivial) (fun H locs hP hD hS => ?_)
    have hP : va_P D vwCl (wM g cA t s y d q k r c o m) H := hP
    have hD : va_D A (wM g cA t s y d q k r c o m) := hD
    refine lv_if_eq (tgt := 68) hx hb dX3_useStore_48 (by decide) (fun c5 => ?_) (fun c5 => ?_)
    · have hE := if_t c5 hE
      refine lv_bipush (v := (-5)) hx hb dX3_useStore_68 (by decide +kernel) ?_
      obtain rfl := Option.some.inj hE
      exact rt_i hx hb hr hP hS rfl hlocks dX3_useStore_70
    · have hE := if_f c5 hE
      refine lv_aload_n hx hb dX3_useStore_51 rfl (lv_at hl 0 rfl) ?_
      refine va_get (D := D) (ci := 2) (v := .ref (g 19)) (C := RX3) (T := TX3) (N := 14) hx hb hts inX3 hown hK hP 0 rfl rfl 2 (by decide) k1 (fun _ h9 => h9) rfl dX3_useStore_52 ?_
      refine lv_aload_n hx hb dX3_useStore_55 rfl (lv_at hl 0 rfl) ?_
      refine va_get (D := D) (ci := 2) (v := .ref (g 4)) (C := RX3) (T := TX3) (N := 14) hx hb hts inX3 hown hK hP 0 rfl rfl 1 (by decide) k3 (fun _ h9 => h9) rfl dX3_useStore_56 ?_
      obtain ⟨u6, h7, hE⟩ := bd_some hE
      refine cn_i (As := []) (rest := [.ref (g 19)]) (r := u6.1) (w0 := (wM g cA t s y d q k r c o m)) (N := 28) ⟨hx, hb, hml, hown, hts⟩ (c_X8_take l D cA (g 4) (g 5) H.size (-3) s u6 h7) (cwV 0 hts hX3_useStore_X8_take_305 rfl rfl rfl (by decide +kernel) ⟨Nat.le_of_ble_eq_true rfl, Nat.le_of_ble_eq_true rfl⟩) rfl hl.1 rfl (Nat.le_of_ble_eq_true rfl) dX3_useStore_59 ⟨Nat.zero_le _, Nat.zero_le _⟩ hK hP hD hS hA (va_recv hK hP (ci := 7) (q0 := 4) rfl rfl) [4, 5] [0, 1, 2, 3, 6, 7, 8, 9, 10, 11, 12, 13, 14, 15, 16, 17, 18, 19, 20, 21, 22, 23, 24, 25, 26, 27] (wM g cA t u6.2 y d q k r c o m) rfl (by decide +kernel) rfl (wr := List.filterMap (fun i => (wM g cA t s y d q k r c o m)[i]?) [0, 1, 2, 3, 6, 7, 8, 9, 10, 11, 12, 13, 14, 15, 16, 17, 18, 19, 20, 21, 22, 23, 24, 25, 26, 27]) rfl rfl (by decide +kernel) rfl (by decide +kernel) [g 0, g 1, g 2, g 3, g 4, g 5, g 6, g 7, g 8, g 9, g 10, g 11, g 12, g 13, g 14, g 15, g 16, g 17, g 18, g 19, g 20, g 21, g 22, g 23, g 24, g 25, g 26, g 27] rfl rfl (fun _ _ _ _ h => h) (fun _ _ _ => trivial) (fun H locs hP hD hS => ?_)
      have hP : va_P D vwCl (wM g cA t u6.2 y d q k r c o m) H := hP
      have hD : va_D A (wM g cA t u6.2 y d q k r c o m) := hD
      obtain ⟨u8, h9, hE⟩ := bd_some hE
      refine cn_i (As := [.int u6.1]) (rest := []) (r := u8.1) (w0 := (wM g cA t u6.2 y d q k r c o m)) (N := 28) ⟨hx, hb, hml, hown, hts⟩ (c_X8_put l D cA (g 19) (g 20) H.size u6.1 (-5) r u8 h9) (cwV 1 hts hX3_useStore_X8_put_120 rfl rfl rfl (by decide +kernel) ⟨Nat.le_of_ble_eq_true rfl, Nat.le_of_ble_eq_true rfl⟩) rfl hl.1 rfl (Nat.le_of_ble_eq_true rfl) dX3_useStore_62 ⟨Nat.zero_le _, Nat.zero_le _⟩ hK hP hD hS hA (va_recv hK hP (ci := 7) (q0 := 19) rfl rfl) [19, 20] [0, 1, 2, 3, 4, 5, 6, 7, 8, 9, 10, 11, 12, 13, 14, 15, 16, 17, 18, 21, 22, 23, 24, 25, 26, 27] (wM g cA t u6.2 y d q k u8.2 c o m) rfl (by decide +kernel) rfl (wr := List.filterMap (fun i => (wM g cA t u6.2 y d q k r c o m)[i]?) [0, 1, 2, 3, 4, 5, 6, 7, 8, 9, 10, 11, 12, 13, 14, 15, 16, 17, 18, 21, 22, 23, 24, 25, 26, 27]) rfl rfl (by decide +kernel) rfl (by decide +kernel) [g 0, g 1, g 2, g 3, g 4, g 5, g 6, g 7, g 8, g 9, g 10, g 11, g 12, g 13, g 14, g 15, g 16, g 17, g 18, g 19, g 20, g 21, g 22, g 23, g 24, g 25, g 26, g 27] rfl rfl (fun _ _ _ _ h => h) (fun _ _ _ => trivial) (fun H locs hP hD hS => ?_)
      have hP : va_P D vwCl (wM g cA t u6.2 y d q k u8.2 c o m) H := hP
      have hD : va_D A (wM g cA t u6.2 y d q k u8.2 c o m) := hD
      refine lv_goto (tgt := 70) hx hb dX3_useStore_65 (by decide) ?_
      obtain rfl := Option.some.inj hE
      exact rt_i hx hb hr hP hS rfl hlocks dX3_useStore_70
  have hE := if_f c2 hE
  by_cases c10 : (swm ((wV_ordinal.getD w1 0).toNatClampNeg)) = 38
  · have hE := if_t c10 hE
    refine lv_tableIn (tgt := 71) (off := 63) hx hb dX3_useStore_8 (by rw [c10]; decide +kernel) (by rw [c10]; decide +kernel) (by rw [c10]; decide +kernel) (by decide) ?_
    refine lv_aload_n hx hb dX3_useStore_71 rfl (lv_at hl 0 rfl) ?_
    refine va_get (D := D) (ci := 2) (v := .ref (g 4)) (C := RX3) (T := TX3) (N := 14) hx hb hts inX3 hown hK hP 0 rfl rfl 1 (by decide) k3 (fun _ h9 => h9) rfl dX3_useStore_72 ?_
    refine lv_iconst (v := 1) hx hb dX3_useStore_75 (by decide +kernel) ?_
    obtain ⟨u11, h12, hE⟩ := bd_some hE
    refine cn_i (As := [.int 1]) (rest := []) (r := u11) (w0 := (wM g cA t s y d q k r c o m)) (N := 28) ⟨hx, hb, hml, hown, hts⟩ (c_X8_hasRoom l D cA (g 4) (g 5) H.size 1 (-3) s u11 h12) (cwV 1 hts hX3_useStore_X8_hasRoom_261 rfl rfl rfl (by decide +kernel) ⟨Nat.le_of_ble_eq_true rfl, Nat.le_of_ble_eq_true rfl⟩) rfl hl.1 rfl (Nat.le_of_ble_eq_true rfl) dX3_useStore_76 ⟨Nat.zero_le _, Nat.zero_le _⟩ hK hP hD hS hA (va_recv hK hP (ci := 7) (q0 := 4) rfl rfl) [4, 5] [0, 1, 2, 3, 6, 7, 8, 9, 10, 11, 12, 13, 14, 15, 16, 17, 18, 19, 20, 21, 22, 23, 24, 25, 26, 27] (wM g cA t s y d q k r c o m) rfl (by decide +kernel) rfl (wr := List.filterMap (fun i => (wM g cA t s y d q k r c o m)[i]?) [0, 1, 2, 3, 6, 7, 8, 9, 10, 11, 12, 13, 14, 15, 16, 17, 18, 19, 20, 21, 22, 23, 24, 25, 26, 27]) rfl rfl (by decide +kernel) rfl (by decide +kernel) [g 0, g 1, g 2, g 3, g 4, g 5, g 6, g 7, g 8, g 9, g 10, g 11, g 12, g 13, g 14, g 15, g 16, g 17, g 18, g 19, g 20, g 21, g 22, g 23, g 24, g 25, g 26, g 27] rfl rfl (fun _ _ _ _ h => h) (fun _ _ _ => trivial) (fun H locs hP hD hS => ?_)
    have hP : va_P D vwCl (wM g cA t s y d q k r c o m) H := hP
    have hD : va_D A (wM g cA t s y d q k r c o m) := hD
    refine lv_if_eq (tgt := 99) hx hb dX3_useStore_79 (by decide) (fun c13 => ?_) (fun c13 => ?_)
    · have hE := if_t c13 hE
      refine lv_bipush (v := (-3)) hx hb dX3_useStore_99 (by decide +kernel) ?_
      obtain rfl := Option.some.inj hE
      exact rt_i hx hb hr hP hS rfl hlocks dX3_useStore_101
    · have hE := if_f c13 hE
      refine lv_aload_n hx hb dX3_useStore_82 rfl (lv_at hl 0 rfl) ?_
      refine va_get (D := D) (ci := 2) (v := .ref (g 4)) (C := RX3) (T := TX3) (N := 14) hx hb hts inX3 hown hK hP 0 rfl rfl 1 (by decide) k3 (fun _ h9 => h9) rfl dX3_useStore_83 ?_
      refine lv_aload_n hx hb dX3_useStore_86 rfl (lv_at hl 0 rfl) ?_
      refine va_get (D := D) (ci := 2) (v := .ref (g 19)) (C := RX3) (T := TX3) (N := 14) hx hb hts inX3 hown hK hP 0 rfl rfl 2 (by decide) k1 (fun _ h9 => h9) rfl dX3_useStore_87 ?_
      obtain ⟨u14, h15, hE⟩ := bd_some hE
      refine cn_i (As := []) (rest := [.ref (g 4)]) (r := u14.1) (w0 := (wM g cA t s y d q k r c o m)) (N := 28) ⟨hx, hb, hml, hown, hts⟩ (c_X8_take l D cA (g 19) (g 20) H.size (-5) r u14 h15) (cwV 0 hts hX3_useStore_X8_take_305 rfl rfl rfl (by decide +kernel) ⟨Nat.le_of_ble_eq_true rfl, Nat.le_of_ble_eq_true rfl⟩) rfl hl.1 rfl (Nat.le_of_ble_eq_true rfl) dX3_useStore_90 ⟨Nat.zero_le _, Nat.zero_le _⟩ hK hP hD hS hA (va_recv hK hP (ci := 7) (q0 := 19) rfl rfl) [19, 20] [0, 1, 2, 3, 4, 5, 6, 7, 8, 9, 10, 11, 12, 13, 14, 15, 16, 17, 18, 21, 22, 23, 24, 25, 26, 27] (wM g cA t s y d q k u14.2 c o m) rfl (by decide +kernel) rfl (wr := List.filterMap (fun i => (wM g cA t s y d q k r c o m)[i]?) [0, 1, 2, 3, 4, 5, 6, 7, 8, 9, 10, 11, 12, 13, 14, 15, 16, 17, 18, 21, 22, 23, 24, 25, 26, 27]) rfl rfl (by decide +kernel) rfl (by decide +kernel) [g 0, g 1, g 2, g 3, g 4, g 5, g 6, g 7, g 8, g 9, g 10, g 11, g 12, g 13, g 14, g 15, g 16, g 17, g 18, g 19, g 20, g 21, g 22, g 23, g 24, g 25, g 26, g 27] rfl rfl (fun _ _ _ _ h => h) (fun _ _ _ => trivial) (fun H locs hP hD hS => ?_)
      have hP : va_P D vwCl (wM g cA t s y d q k u14.2 c o m) H := hP
      have hD : va_D A (wM g cA t s y d q k u14.2 c o m) := hD
      obtain ⟨u16, h17, hE⟩ := bd_some hE
      refine cn_i (As := [.int u14.1]) (rest := []) (r := u16.1) (w0 := (wM g cA t s y d q k u14.2 c o m)) (N := 28) ⟨hx, hb, hml, hown, hts⟩ (c_X8_put l D cA (g 4) (g 5) H.size u14.1 (-3) s u16 h17) (cwV 1 hts hX3_useStore_X8_put_120 rfl rfl rfl (by decide +kernel) ⟨Nat.le_of_ble_eq_true rfl, Nat.le_of_ble_eq_true rfl⟩) rfl hl.1 rfl (Nat.le_of_ble_eq_true rfl) dX3_useStore_93 ⟨Nat.zero_le _, Nat.zero_le _⟩ hK hP hD hS hA (va_recv hK hP (ci := 7) (q0 := 4) rfl rfl) [4, 5] [0, 1, 2, 3, 6, 7, 8, 9, 10, 11, 12, 13, 14, 15, 16, 17, 18, 19, 20, 21, 22, 23, 24, 25, 26, 27] (wM g cA t u16.2 y d q k u14.2 c o m) rfl (by decide +kernel) rfl (wr := List.filterMap (fun i => (wM g cA t s y d q k u14.2 c o m)[i]?) [0, 1, 2, 3, 6, 7, 8, 9, 10, 11, 12, 13, 14, 15, 16, 17, 18, 19, 20, 21, 22, 23, 24, 25, 26, 27]) rfl rfl (by decide +kernel) rfl (by decide +kernel) [g 0, g 1, g 2, g 3, g 4, g 5, g 6, g 7, g 8, g 9, g 10, g 11, g 12, g 13, g 14, g 15, g 16, g 17, g 18, g 19, g 20, g 21, g 22, g 23, g 24, g 25, g 26, g 27] rfl rfl (fun _ _ _ _ h => h) (fun _ _ _ => trivial) (fun H locs hP hD hS => ?_)
      have hP : va_P D vwCl (wM g cA t u16.2 y d q k u14.2 c o m) H := hP
      have hD : va_D A (wM g cA t u16.2 y d q k u14.2 c o m) := hD
      refine lv_goto (tgt := 101) hx hb dX3_useStore_96 (by decide) ?_
      obtain rfl := Option.some.inj hE
      exact rt_i hx hb hr hP hS rfl hlocks dX3_useStore_101
  have hE := if_f c10 hE
  by_cases c18 : (swm ((wV_ordinal.getD w1 0).toNatClampNeg)) = 39
  · have hE := if_t c18 hE
    refine lv_tableIn (tgt := 102) (off := 94) hx hb dX3_useStore_8 (by rw [c18]; decide +kernel) (by rw [c18]; decide +kernel) (by rw [c18]; decide +kernel) (by decide) ?_
    refine lv_aload_n hx hb dX3_useStore_102 rfl (lv_at hl 0 rfl) ?_
    refine va_get (D := D) (ci := 2) (v := .ref (g 4)) (C := RX3) (T := TX3) (N := 14) hx hb hts inX3 hown hK hP 0 rfl rfl 1 (by decide) k3 (fun _ h9 => h9) rfl dX3_useStore_103 ?_
    refine lv_aload_n hx hb dX3_useStore_106 rfl (lv_at hl 0 rfl) ?_
    refine va_get (D := D) (ci := 2) (v := .ref (g 19)) (C := RX3) (T := TX3) (N := 14) hx hb hts inX3 hown hK hP 0 rfl rfl 2 (by decide) k1 (fun _ h9 => h9) rfl dX3_useStore_107 ?_
    refine lv_iconst (v := 2) hx hb dX3_useStore_110 (by decide +kernel) ?_
    obtain ⟨u19, h20, hE⟩ := bd_some hE
    refine cn_i (As := [.int 2]) (rest := [.ref (g 4)]) (r := u19) (w0 := (wM g cA t s y d q k r c o m)) (N := 28) ⟨hx, hb, hml, hown, hts⟩ (c_X8_fromTop l D cA (g 19) (g 20) H.size 2 (-5) r u19 h20) (cwV 1 hts hX3_useStore_X8_fromTop_212 rfl rfl rfl (by decide +kernel) ⟨Nat.le_of_ble_eq_true rfl, Nat.le_of_ble_eq_true rfl⟩) rfl hl.1 rfl (Nat.le_of_ble_eq_true rfl) dX3_useStore_111 ⟨Nat.zero_le _, Nat.zero_le _⟩ hK hP hD hS hA (va_recv hK hP (ci := 7) (q0 := 19) rfl rfl) [19, 20] [0, 1, 2, 3, 4, 5, 6, 7, 8, 9, 10, 11, 12, 13, 14, 15, 16, 17, 18, 21, 22, 23, 24, 25, 26, 27] (wM g cA t s y d q k r c o m) rfl (by decide +kernel) rfl (wr := List.filterMap (fun i => (wM g cA t s y d q k r c o m)[i]?) [0, 1, 2, 3, 4, 5, 6, 7, 8, 9, 10, 11, 12, 13, 14, 15, 16, 17, 18, 21, 22, 23, 24, 25, 26, 27]) rfl rfl (by decide +kernel) rfl (by decide +kernel) [g 0, g 1, g 2, g 3, g 4, g 5, g 6, g 7, g 8, g 9, g 10, g 11, g 12, g 13, g 14, g 15, g 16, g 17, g 18, g 19, g 20, g 21, g 22, g 23, g 24, g 25, g 26, g 27] rfl rfl (fun _ _ _ _ h => h) (fun _ _ _ => trivial) (fun H locs hP hD hS => ?_)
    have hP : va_P D vwCl (wM g cA t s y d q k r c o m) H := hP
    have hD : va_D A (wM g cA t s y d q k r c o m) := hD
    obtain ⟨u21, h22, hE⟩ := bd_some hE
    refine cn_i (As := [.int u19]) (rest := []) (r := u21.1) (w0 := (wM g cA t s y d q k r c o m)) (N := 28) ⟨hx, hb, hml, hown, hts⟩ (c_X8_put l D cA (g 4) (g 5) H.size u19 (-3) s u21 h22) (cwV 1 hts hX3_useStore_X8_put_120 rfl rfl rfl (by decide +kernel) ⟨Nat.le_of_ble_eq_true rfl, Nat.le_of_ble_eq_true rfl⟩) rfl hl.1 rfl (Nat.le_of_ble_eq_true rfl) dX3_useStore_114 ⟨Nat.zero_le _, Nat.zero_le _⟩ hK hP hD hS hA (va_recv hK hP (ci := 7) (q0 := 4) rfl rfl) [4, 5] [0, 1, 2, 3, 6, 7, 8, 9, 10, 11, 12, 13, 14, 15, 16, 17, 18, 19, 20, 21, 22, 23, 24, 25, 26, 27] (wM g cA t u21.2 y d q k r c o m) rfl (by decide +kernel) rfl (wr := List.filterMap (fun i => (wM g cA t s y d q k r c o m)[i]?) [0, 1, 2, 3, 6, 7, 8, 9, 10, 11, 12, 13, 14, 15, 16, 17, 18, 19, 20, 21, 22, 23, 24, 25, 26, 27]) rfl rfl (by decide +kernel) rfl (by decide +kernel) [g 0, g 1, g 2, g 3, g 4, g 5, g 6, g 7, g 8, g 9, g 10, g 11, g 12, g 13, g 14, g 15, g 16, g 17, g 18, g 19, g 20, g 21, g 22, g 23, g 24, g 25, g 26, g 27] rfl rfl (fun _ _ _ _ h => h) (fun _ _ _ => trivial) (fun H locs hP hD hS => ?_)
    have hP : va_P D vwCl (wM g cA t u21.2 y d q k r c o m) H := hP
    have hD : va_D A (wM g cA t u21.2 y d q k r c o m) := hD
    obtain rfl := Option.some.inj hE
    exact rt_i hx hb hr hP hS rfl hlocks dX3_useStore_117
  have hE := if_f c18 hE
  by_cases c23 : (swm ((wV_ordinal.getD w1 0).toNatClampNeg)) = 40
  · have hE := if_t c23 hE
    refine lv_tableIn (tgt := 118) (off := 110) hx hb dX3_useStore_8 (by rw [c23]; decide +kernel) (by rw [c23]; decide +kernel) (by rw [c23]; decide +kernel) (by decide) ?_
    refine lv_aload_n hx hb dX3_useStore_118 rfl (lv_at hl 0 rfl) ?_
    refine va_get (D := D) (ci := 2) (v := .ref (g 19)) (C := RX3) (T := TX3) (N := 14) hx hb hts inX3 hown hK hP 0 rfl rfl 2 (by decide) k1 (fun _ h9 => h9) rfl dX3_useStore_119 ?_
    refine lv_iconst (v := 2) hx hb dX3_useStore_122 (by decide +kernel) ?_
    obtain ⟨u24, h25, hE⟩ := bd_some hE
    refine cn_v (As := [.int 2]) (rest := []) (w0 := (wM g cA t s y d q k r c o m)) (N := 28) ⟨hx, hb, hml, hown, hts⟩ (c_X8_drop l D cA (g 19) (g 20) H.size 2 (-5) r u24 h25) (cwV 1 hts hX3_useStore_X8_drop_296 rfl rfl rfl (by decide +kernel) ⟨Nat.le_of_ble_eq_true rfl, Nat.le_of_ble_eq_true rfl⟩) rfl hl.1 rfl (Nat.le_of_ble_eq_true rfl) dX3_useStore_123 ⟨Nat.zero_le _, Nat.zero_le _⟩ hK hP hD hS hA (va_recv hK hP (ci := 7) (q0 := 19) rfl rfl) [19, 20] [0, 1, 2, 3, 4, 5, 6, 7, 8, 9, 10, 11, 12, 13, 14, 15, 16, 17, 18, 21, 22, 23, 24, 25, 26, 27] (wM g cA t s y d q k u24 c o m) rfl (by decide +kernel) rfl (wr := List.filterMap (fun i => (wM g cA t s y d q k r c o m)[i]?) [0, 1, 2, 3, 4, 5, 6, 7, 8, 9, 10, 11, 12, 13, 14, 15, 16, 17, 18, 21, 22, 23, 24, 25, 26, 27]) rfl rfl (by decide +kernel) rfl (by decide +kernel) [g 0, g 1, g 2, g 3, g 4, g 5, g 6, g 7, g 8, g 9, g 10, g 11, g 12, g 13, g 14, g 15, g 16, g 17, g 18, g 19, g 20, g 21, g 22, g 23, g 24, g 25, g 26, g 27] rfl rfl (fun _ _ _ _ h => h) (fun _ _ _ => trivial) (fun H locs hP hD hS => ?_)
    have hP : va_P D vwCl (wM g cA t s y d q k u24 c o m) H := hP
    have hD : va_D A (wM g cA t s y d q k u24 c o m) := hD
    refine lv_iconst (v := 0) hx hb dX3_useStore_126 (by decide +kernel) ?_
    obtain rfl := Option.some.inj hE
    exact rt_i hx hb hr hP hS rfl hlocks dX3_useStore_127
  have hE := if_f c23 hE
  have tc2 := lv_neT c2 (show (37 : Int32).toInt = 37 by decide +kernel)
  have tc10 := lv_neT c10 (show (38 : Int32).toInt = 38 by decide +kernel)
  have tc18 := lv_neT c18 (show (39 : Int32).toInt = 39 by decide +kernel)
  have tc23 := lv_neT c23 (show (40 : Int32).toInt = 40 by decide +kernel)
  refine lv_tableOut (tgt := 128) hx hb dX3_useStore_8 (by omega) (by decide) ?_
  refine lv_aload_n hx hb dX3_useStore_128 rfl (lv_at hl 0 rfl) ?_
  refine va_get (D := D) (ci := 2) (v := .ref (g 4)) (C := RX3) (T := TX3) (N := 14) hx hb hts inX3 hown hK hP 0 rfl rfl 1 (by decide) k3 (fun _ h9 => h9) rfl dX3_useStore_129 ?_
  refine lv_aload_n hx hb dX3_useStore_132 rfl (lv_at hl 0 rfl) ?_
  refine va_get (D := D) (ci := 2) (v := .ref (g 19)) (C := RX3) (T := TX3) (N := 14) hx hb hts inX3 hown hK hP 0 rfl rfl 2 (by decide) k1 (fun _ h9 => h9) rfl dX3_useStore_133 ?_
  refine lv_iconst (v := 0) hx hb dX3_useStore_136 (by decide +kernel) ?_
  obtain ⟨u26, h27, hE⟩ := bd_some hE
  refine cn_i (As := [.int 0]) (rest := [.ref (g 4)]) (r := u26) (w0 := (wM g cA t s y d q k r c o m)) (N := 28) ⟨hx, hb, hml, hown, hts⟩ (c_X8_fromTop l D cA (g 19) (g 20) H.size 0 (-5) r u26 h27) (cwV 1 hts hX3_useStore_X8_fromTop_212 rfl rfl rfl (by decide +kernel) ⟨Nat.le_of_ble_eq_true rfl, Nat.le_of_ble_eq_true rfl⟩) rfl hl.1 rfl (Nat.le_of_ble_eq_true rfl) dX3_useStore_137 ⟨Nat.zero_le _, Nat.zero_le _⟩ hK hP hD hS hA (va_recv hK hP (ci := 7) (q0 := 19) rfl rfl) [19, 20] [0, 1, 2, 3, 4, 5, 6, 7, 8, 9, 10, 11, 12, 13, 14, 15, 16, 17, 18, 21, 22, 23, 24, 25, 26, 27] (wM g cA t s y d q k r c o m) rfl (by decide +kernel) rfl (wr := List.filterMap (fun i => (wM g cA t s y d q k r c o m)[i]?) [0, 1, 2, 3, 4, 5, 6, 7, 8, 9, 10, 11, 12, 13, 14, 15, 16, 17, 18, 21, 22, 23, 24, 25, 26, 27]) rfl rfl (by decide +kernel) rfl (by decide +kernel) [g 0, g 1, g 2, g 3, g 4, g 5, g 6, g 7, g 8, g 9, g 10, g 11, g 12, g 13, g 14, g 15, g 16, g 17, g 18, g 19, g 20, g 21, g 22, g 23, g 24, g 25, g 26, g 27] rfl rfl (fun _ _ _ _ h => h) (fun _ _ _ => trivial) (fun H locs hP hD hS => ?_)
  have hP : va_P D vwCl (wM g cA t s y d q k r c o m) H := hP
  have hD : va_D A (wM g cA t s y d q k r c o m) := hD
  obtain ⟨u28, h29, hE⟩ := bd_some hE
  refine cn_i (As := [.int u26]) (rest := []) (r := u28.1) (w0 := (wM g cA t s y d q k r c o m)) (N := 28) ⟨hx, hb, hml, hown, hts⟩ (c_X8_put l D cA (g 4) (g 5) H.size u26 (-3) s u28 h29) (cwV 1 hts hX3_useStore_X8_put_120 rfl rfl rfl (by decide +kernel) ⟨Nat.le_of_ble_eq_true rfl, Nat.le_of_ble_eq_true rfl⟩) rfl hl.1 rfl (Nat.le_of_ble_eq_true rfl) dX3_useStore_140 ⟨Nat.zero_le _, Nat.zero_le _⟩ hK hP hD hS hA (va_recv hK hP (ci := 7) (q0 := 4) rfl rfl) [4, 5] [0, 1, 2, 3, 6, 7, 8, 9, 10, 11, 12, 13, 14, 15, 16, 17, 18, 19, 20, 21, 22, 23, 24, 25, 26, 27] (wM g cA t u28.2 y d q k r c o m) rfl (by decide +kernel) rfl (wr := List.filterMap (fun i => (wM g cA t s y d q k r c o m)[i]?) [0, 1, 2, 3, 6, 7, 8, 9, 10, 11, 12, 13, 14, 15, 16, 17, 18, 19, 20, 21, 22, 23, 24, 25, 26, 27]) rfl rfl (by decide +kernel) rfl (by decide +kernel) [g 0, g 1, g 2, g 3, g 4, g 5, g 6, g 7, g 8, g 9, g 10, g 11, g 12, g 13, g 14, g 15, g 16, g 17, g 18, g 19, g 20, g 21, g 22, g 23, g 24, g 25, g 26, g 27] rfl rfl (fun _ _ _ _ h => h) (fun _ _ _ => trivial) (fun H locs hP hD hS => ?_)
  have hP : va_P D vwCl (wM g cA t u28.2 y d q k r c o m) H := hP
  have hD : va_D A (wM g cA t u28.2 y d q k r c o m) := hD
  obtain rfl := Option.some.inj hE
  exact rt_i hx hb hr hP hS rfl hlocks dX3_useStore_143
set_option maxRecDepth 20000 in
theorem hX3_moveNumbers_X8_fromTop_212 : GoodIn wsX3_moveNumbers (wsV RX3 212 RX8 yX8_fromTop wsX8_fromTop) := goodIn_r _ [10, 11, 12, 13, 14, 15, 16, 69, 70, 71] rfl (by decide +kernel)
set_option maxRecDepth 20000 in
theorem hX3_moveNumbers_X8_put_120 : GoodIn wsX3_moveNumbers (wsV RX3 120 RX8 yX8_put wsX8_put) := goodIn_r _ [17, 18, 19, 13, 20, 15, 21, 16, 69, 70, 71] rfl (by decide +kernel)
set_option maxRecDepth 20000 in
theorem hX3_moveNumbers_X8_drop_296 : GoodIn wsX3_moveNumbers (wsV RX3 296 RX8 yX8_drop wsX8_drop) := goodIn_r _ [22, 23, 24, 13, 25, 15, 69, 70, 71] rfl (by decide +kernel)
set_option maxRecDepth 20000 in
theorem hX3_moveNumbers_X8_raise_311 : GoodIn wsX3_moveNumbers (wsV RX3 311 RX8 yX8_raise wsX8_raise) := goodIn_r _ [26, 27, 28, 13, 29, 15, 16, 30, 11, 12, 13, 14, 31, 32, 33, 34, 69, 70, 71] rfl (by decide +kernel)
set_option maxRecDepth 20000 in
theorem hX3_moveNumbers_X3_pick_314 : GoodIn wsX3_moveNumbers (wsV RX3 314 RX3 yX3_pick wsX3_pick) := goodIn_r _ [35, 36, 37, 38, 39, 2, 10, 11, 12, 13, 14, 15, 16, 40, 32, 33, 34, 55, 56, 57, 58, 59, 60, 61, 62, 63, 64, 65, 66, 67, 68, 69, 70, 71] rfl (by decide +kernel)
set_option maxRecDepth 20000 in
theorem hX3_moveNumbers_X3_useStore_317 : GoodIn wsX3_moveNumbers (wsV RX3 317 RX3 yX3_useStore wsX3_useStore) := goodIn_r _ [41, 42, 43, 38, 44, 1, 45, 2, 3, 4, 5, 6, 7, 8, 9, 46, 47, 48, 13, 49, 15, 50, 51, 52, 53, 30, 11, 12, 14, 16, 54, 23, 24, 25, 17, 18, 19, 20, 21, 10, 22, 55, 56, 57, 58, 59, 60, 61, 62, 63, 64, 65, 66, 67, 68, 69, 70, 71] rfl (by decide +kernel)
set_option maxHeartbeats 4000000 in
set_option maxRecDepth 100000 in
theorem c_X3_moveNumbers (l : Launch) (D : va_G) (cA : Nat → ClassId) (ad adK adV : Nat → Nat) (tA tS : Nat) (g : Nat → Nat) (sz : Nat) (w1 : Nat) (t : tT) (s : tR) (y : tY) (d : tD) (q : tP) (k : tK) (r : tR) (c : tC) (o : tO) (m : tM) (u : Int32 × tR × tR) (hE : f_X3_moveNumbers w1 s r = some u) : Met l yX3_moveNumbers wsX3_moveNumbers ({ frames := 3, cells := 0, slots := 0, locals := 63 }) (va_Pc [.ref (g 0), .ref (ad w1)] (PRE D cA (wM g cA t s y d q k r c o m) sz (fun U => SX ad adK adV tA tS (va_A (wM g cA t s y d q k r c o m) sz) U U.heap))) (cQi D (wM g cA t u.2.1 y d q k u.2.2 c o m) (va_A (wM g cA t s y d q k r c o m) sz) u.1) 0 0 (va_A (wM g cA t s y d q k r c o m) sz) := by
  refine Met.ofW (cc := cX3_moveNumbers) (maxL := 2) (ret := (some .int)) (by decide) rfl ?_
  intro PP EE S0 MM args below meth CC S1 B hml hv
  obtain ⟨rfl, hsz, hP, hK, hD0, hX⟩ := hv
  have hx := B.exec
  have hb := B.bytes
  have hr := B.returns
  have hts := atoms_spec (ws := wsX3_moveNumbers) B.pre
  have hown : S0.vm.findClass RX3 = some MM.cls := findClass_of_methodNamed B.named
  have hlocks := B.notSynchronized
  subst hsz
  have hD := hD0.self (sz := S0.heap.size)
  have hX : SX ad adK adV tA tS (va_A (wM g cA t s y d q k r c o m) S0.heap.size) S0 S0.heap := hX
  generalize hAe : va_A (wM g cA t s y d q k r c o m) S0.heap.size = A at hD hX ⊢
  have hA : ∀ q : Nat, S0.heap.size ≤ q → A q := fun q h => by rw [← hAe]; exact Or.inr h
  have hS : va_S A S0.heap S0.heap [] := va_S.rf
  have k0 := hts (.fieldLink RX3 279 "WordForge$1" "$SwitchMap$WordForge$Word" "[I") (List.mem_of_getElem? (i := 1) rfl)
  have k1 := hts (.fieldLink RX3 23 "WordForge$Machine" "stack" "LWordForge$Row;") (List.mem_of_getElem? (i := 2) rfl)
  have inX3 : ∀ w ∈ wsX30, w ∈ wsX3_moveNumbers := fun _ h => List.mem_cons_of_mem _ (List.mem_append_left _ (List.mem_append_right _ h))
  have k3 := hX.nest (.fieldLinkNest RX3 144 "WordForge$Row" "size" "I" "WordForge") (List.mem_of_getElem? (i := 2) rfl)
  have inX8 : ∀ w ∈ wsX80, w ∈ wsX3_moveNumbers := fun _ h => List.mem_cons_of_mem _ (List.mem_append_right _ h)
  have hl := lv_entry ([.ref (g 0), .ref (ad w1)]) (n := 2) (Nat.le_of_ble_eq_true rfl)
  rw [lg_entry_eq]
  generalize (lg_sl ([.ref (g 0), .ref (ad w1)]) ++ List.replicate (2 - (lg_sl ([.ref (g 0), .ref (ad w1)])).length) Slot.unset).toArray = ls at hl ⊢
  have hl : lv_has ls 2 [(0, .ref (g 0)), (1, .ref (ad w1))] := hl
  unfold f_X3_moveNumbers at hE
  have ⟨hw1, hE⟩ := ck_some hE
  suffices main : ∀ (H : Heap) (locs : List Loc) (ls : Array Slot), va_P D vwCl (wM g cA t s y d q k r c o m) H → va_D A (wM g cA t s y d q k r c o m) → va_S A S0.heap H locs → lv_has ls 2 [(0, .ref (g 0)), (1, .ref (ad w1))] → W PP l EE (headSpec wsX3_moveNumbers ({ frames := 3, cells := 0, slots := 0, locals := 63 })).room S0 MM (#[.ref (g 0), .ref (ad w1)] : Array Value) below meth CC H locs 0 0 (MQ below (cQi D (wM g cA t u.2.1 y d q k u.2.2 c o m) A u.1) (#[.ref (g 0), .ref (ad w1)] : Array Value) S0 0 0 A) (F0 MM 0 ls []) from main _ _ _ hP hD hS hl
  intro H locs ls hP hD hS hl
  refine va_gets hx hb hX.2.2.2.1 hS hown k0 (fun _ h9 => h9) dX3_moveNumbers_0 ?_
  refine lv_aload_n hx hb dX3_moveNumbers_3 rfl (lv_at hl 1 rfl) ?_
  refine cu_i (As := []) (rest := [.ref tS]) (r := wV_ordinal.getD w1 0) ⟨hx, hb, hml, hown, hts⟩ (c_ordinal l w1 (ad w1) H.size) (va_cwU 0 hts gX3_moveNumbers_Jx29ce0_ordinal_8abf5_u284X10 rfl rfl rfl rfl (by decide +kernel) ⟨Nat.le_of_ble_eq_true rfl, Nat.le_of_ble_eq_true rfl⟩) rfl hl.1 rfl (Nat.le_of_ble_eq_true rfl) dX3_moveNumbers_4 ⟨Nat.zero_le _, Nat.zero_le _⟩ hP hD hS hA (recvO (hX.2.2.2.2.2.2.1 w1 hw1).2.1 hS) PO_blind (PO_call ((hX.2.2.2.2.2.2.1 w1 hw1).2.2.1 ("java/lang/Enum", "ordinal", "I", wV_ordinal) (List.mem_of_getElem? (i := 0) rfl)) hS hA) (fun H locs hP hD hS => ?_)
  have ⟨c1, hE⟩ := ck_some hE
  refine va_ti hx hb hX.2.2.2.2.1 hS c1 rfl dX3_moveNumbers_7 ?_
  by_cases c2 : (swm ((wV_ordinal.getD w1 0).toNatClampNeg)) = 28
  · have hE := if_t c2 hE
    refine lv_tableIn (tgt := 60) (off := 52) hx hb dX3_moveNumbers_8 (by rw [c2]; decide +kernel) (by rw [c2]; decide +kernel) (by rw [c2]; decide +kernel) (by decide) ?_
    refine lv_aload_n hx hb dX3_moveNumbers_60 rfl (lv_at hl 0 rfl) ?_
    refine va_get (D := D) (ci := 2) (v := .ref (g 4)) (C := RX3) (T := TX3) (N := 14) hx hb hts inX3 hown hK hP 0 rfl rfl 1 (by decide) k1 (fun _ h9 => h9) rfl dX3_moveNumbers_61 ?_
    refine lv_aload_n hx hb dX3_moveNumbers_64 rfl (lv_at hl 0 rfl) ?_
    refine va_get (D := D) (ci := 2) (v := .ref (g 4)) (C := RX3) (T := TX3) (N := 14) hx hb hts inX3 hown hK hP 0 rfl rfl 1 (by decide) k1 (fun _ h9 => h9) rfl dX3_moveNumbers_65 ?_
    refine lv_iconst (v := 0) hx hb dX3_moveNumbers_68 (by decide +kernel) ?_
    obtain ⟨u3, h4, hE⟩ := bd_some hE
    refine cn_i (As := [.int 0]) (rest := [.ref (g 4)]) (r := u3) (w0 := (wM g cA t s y d q k r c o m)) (N := 28) ⟨hx, hb, hml, hown, hts⟩ (c_X8_fromTop l D cA (g 4) (g 5) H.size 0 (-3) s u3 h4) (cwV 1 hts hX3_moveNumbers_X8_fromTop_212 rfl rfl rfl (by decide +kernel) ⟨Nat.le_of_ble_eq_true rfl, Nat.le_of_ble_eq_true rfl⟩) rfl hl.1 rfl (Nat.le_of_ble_eq_true rfl) dX3_moveNumbers_69 ⟨Nat.zero_le _, Nat.zero_le _⟩ hK hP hD hS hA (va_recv hK hP (ci := 7) (q0 := 4) rfl rfl) [4, 5] [0, 1, 2, 3, 6, 7, 8, 9, 10, 11, 12, 13, 14, 15, 16, 17, 18, 19, 20, 21, 22, 23, 24, 25, 26, 27] (wM g cA t s y d q k r c o m) rfl (by decide +kernel) rfl (wr := List.filterMap (fun i => (wM g cA t s y d q k r c o m)[i]?) [0, 1, 2, 3, 6, 7, 8, 9, 10, 11, 12, 13, 14, 15, 16, 17, 18, 19, 20, 21, 22, 23, 24, 25, 26, 27]) rfl rfl (by decide +kernel) rfl (by decide +kernel) [g 0, g 1, g 2, g 3, g 4, g 5, g 6, g 7, g 8, g 9, g 10, g 11, g 12, g 13, g 14, g 15, g 16, g 17, g 18, g 19, g 20, g 21, g 22, g 23, g 24, g 25, g 26, g 27] rfl rfl (fun _ _ _ _ h => h) (fun _ _ _ => trivial) (fun H locs hP hD hS => ?_)
    have hP : va_P D vwCl (wM g cA t s y d q k r c o m) H := hP
    have hD : va_D A (wM g cA t s y d q k r c o m) := hD
    obtain ⟨u5, h6, hE⟩ := bd_some hE
    refine cn_i (As := [.int u3]) (rest := []) (r := u5.1) (w0 := (wM g cA t s y d q k r c o m)) (N := 28) ⟨hx, hb, hml, hown, hts⟩ (c_X8_put l D cA (g 4) (g 5) H.size u3 (-3) s u5 h6) (cwV 1 hts hX3_moveNumbers_X8_put_120 rfl rfl rfl (by decide +kernel) ⟨Nat.le_of_ble_eq_true rfl, Nat.le_of_ble_eq_true rfl⟩) rfl hl.1 rfl (Nat.le_of_ble_eq_true rfl) dX3_moveNumbers_72 ⟨Nat.zero_le _, Nat.zero_le _⟩ hK hP hD hS hA (va_recv hK hP (ci := 7) (q0 := 4) rfl rfl) [4, 5] [0, 1, 2, 3, 6, 7, 8, 9, 10, 11, 12, 13, 14, 15, 16, 17, 18, 19, 20, 21, 22, 23, 24, 25, 26, 27] (wM g cA t u5.2 y d q k r c o m) rfl (by decide +kernel) rfl (wr := List.filterMap (fun i => (wM g cA t s y d q k r c o m)[i]?) [0, 1, 2, 3, 6, 7, 8, 9, 10, 11, 12, 13, 14, 15, 16, 17, 18, 19, 20, 21, 22, 23, 24, 25, 26, 27]) rfl rfl (by decide +kernel) rfl (by decide +kernel) [g 0, g 1, g 2, g 3, g 4, g 5, g 6, g 7, g 8, g 9, g 10, g 11, g 12, g 13, g 14, g 15, g 16, g 17, g 18, g 19, g 20, g 21, g 22, g 23, g 24, g 25, g 26, g 27] rfl rfl (fun _ _ _ _ h => h) (fun _ _ _ => trivial) (fun H locs hP hD hS => ?_)
    have hP : va_P D vwCl (wM g cA t u5.2 y d q k r c o m) H := hP
    have hD : va_D A (wM g cA t u5.2 y d q k r c o m) := hD
    obtain rfl := Option.some.inj hE
    exact rt_i hx hb hr hP hS rfl hlocks dX3_moveNumbers_75
  have hE := if_f c2 hE
  by_cases c7 : (swm ((wV_ordinal.getD w1 0).toNatClampNeg)) = 29
  · have hE := if_t c7 hE
    refine lv_tableIn (tgt := 76) (off := 68) hx hb dX3_moveNumbers_8 (by rw [c7]; decide +kernel) (by rw [c7]; decide +kernel) (by rw [c7]; decide +kernel) (by decide) ?_
    refine lv_aload_n hx hb dX3_moveNumbers_76 rfl (lv_at hl 0 rfl) ?_
    refine va_get (D := D) (ci := 2) (v := .ref (g 4)) (C := RX3) (T := TX3) (N := 14) hx hb hts inX3 hown hK hP 0 rfl rfl 1 (by decide) k1 (fun _ h9 => h9) rfl dX3_moveNumbers_77 ?_
    refine lv_iconst (v := 1) hx hb dX3_moveNumbers_80 (by decide +kernel) ?_
    obtain ⟨u8, h9, hE⟩ := bd_some hE
    refine cn_v (As := [.int 1]) (rest := []) (w0 := (wM g cA t s y d q k r c o m)) (N := 28) ⟨hx, hb, hml, hown, hts⟩ (c_X8_drop l D cA (g 4) (g 5) H.size 1 (-3) s u8 h9) (cwV 1 hts hX3_moveNumbers_X8_drop_296 rfl rfl rfl (by decide +kernel) ⟨Nat.le_of_ble_eq_true rfl, Nat.le_of_ble_eq_true rfl⟩) rfl hl.1 rfl (Nat.le_of_ble_eq_true rfl) dX3_moveNumbers_81 ⟨Nat.zero_le _, Nat.zero_le _⟩ hK hP hD hS hA (va_recv hK hP (ci := 7) (q0 := 4) rfl rfl) [4, 5] [0, 1, 2, 3, 6, 7, 8, 9, 10, 11, 12, 13, 14, 15, 16, 17, 18, 19, 20, 21, 22, 23, 24, 25, 26, 27] (wM g cA t u8 y d q k r c o m) rfl (by decide +kernel) rfl (wr := List.filterMap (fun i => (wM g cA t s y d q k r c o m)[i]?) [0, 1, 2, 3, 6, 7, 8, 9, 10, 11, 12, 13, 14, 15, 16, 17, 18, 19, 20, 21, 22, 23, 24, 25, 26, 27]) rfl rfl (by decide +kernel) rfl (by decide +kernel) [g 0, g 1, g 2, g 3, g 4, g 5, g 6, g 7, g 8, g 9, g 10, g 11, g 12, g 13, g 14, g 15, g 16, g 17, g 18, g 19, g 20, g 21, g 22, g 23, g 24, g 25, g 26, g 27] rfl rfl (fun _ _ _ _ h => h) (fun _ _ _ => trivial) (fun H locs hP hD hS => ?_)
    have hP : va_P D vwCl (wM g cA t u8 y d q k r c o m) H := hP
    have hD : va_D A (wM g cA t u8 y d q k r c o m) := hD
    refine lv_iconst (v := 0) hx hb dX3_moveNumbers_84 (by decide +kernel) ?_
    obtain rfl := Option.some.inj hE
    exact rt_i hx hb hr hP hS rfl hlocks dX3_moveNumbers_85
  have hE := if_f c7 hE
  by_cases c10 : (swm ((wV_ordinal.getD w1 0).toNatClampNeg)) = 30
  · have hE := if_t c10 hE
    refine lv_tableIn (tgt := 86) (off := 78) hx hb dX3_moveNumbers_8 (by rw [c10]; decide +kernel) (by rw [c10]; decide +kernel) (by rw [c10]; decide +kernel) (by decide) ?_
    refine lv_aload_n hx hb dX3_moveNumbers_86 rfl (lv_at hl 0 rfl) ?_
    refine va_get (D := D) (ci := 2) (v := .ref (g 4)) (C := RX3) (T := TX3) (N := 14) hx hb hts inX3 hown hK hP 0 rfl rfl 1 (by decide) k1 (fun _ h9 => h9) rfl dX3_moveNumbers_87 ?_
    refine lv_iconst (v := 1) hx hb dX3_moveNumbers_90 (by decide +kernel) ?_
    obtain ⟨u11, h12, hE⟩ := bd_some hE
    refine cn_v (As := [.int 1]) (rest := []) (w0 := (wM g cA t s y d q k r c o m)) (N := 28) ⟨hx, hb, hml, hown, hts⟩ (c_X8_raise l D cA (g 4) (g 5) H.size 1 (-3) s u11 h12) (cwV 1 hts hX3_moveNumbers_X8_raise_311 rfl rfl rfl (by decide +kernel) ⟨Nat.le_of_ble_eq_true rfl, Nat.le_of_ble_eq_true rfl⟩) rfl hl.1 rfl (Nat.le_of_ble_eq_true rfl) dX3_moveNumbers_91 ⟨Nat.zero_le _, Nat.zero_le _⟩ hK hP hD hS hA (va_recv hK hP (ci := 7) (q0 := 4) rfl rfl) [4, 5] [0, 1, 2, 3, 6, 7, 8, 9, 10, 11, 12, 13, 14, 15, 16, 17, 18, 19, 20, 21, 22, 23, 24, 25, 26, 27] (wM g cA t u11 y d q k r c o m) rfl (by decide +kernel) rfl (wr := List.filterMap (fun i => (wM g cA t s y d q k r c o m)[i]?) [0, 1, 2, 3, 6, 7, 8, 9, 10, 11, 12, 13, 14, 15, 16, 17, 18, 19, 20, 21, 22, 23, 24, 25, 26, 27]) rfl rfl (by decide +kernel) rfl (by decide +kernel) [g 0, g 1, g 2, g 3, g 4, g 5, g 6, g 7, g 8, g 9, g 10, g 11, g 12, g 13, g 14, g 15, g 16, g 17, g 18, g 19, g 20, g 21, g 22, g 23, g 24, g 25, g 26, g 27] rfl rfl (fun _ _ _ _ h => h) (fun _ _ _ => trivial) (fun H locs hP hD hS => ?_)
    have hP : va_P D vwCl (wM g cA t u11 y d q k r c o m) H := hP
    have hD : va_D A (wM g cA t u11 y d q k r c o m) := hD
    refine lv_iconst (v := 0) hx hb dX3_moveNumbers_94 (by decide +kernel) ?_
    obtain rfl := Option.some.inj hE
    exact rt_i hx hb hr hP hS rfl hlocks dX3_moveNumbers_95
  have hE := if_f c10 hE
  by_cases c13 : (swm ((wV_ordinal.getD w1 0).toNatClampNeg)) = 31
  · have hE := if_t c13 hE
    refine lv_tableIn (tgt := 96) (off := 88) hx hb dX3_moveNumbers_8 (by rw [c13]; decide +kernel) (by rw [c13]; decide +kernel) (by rw [c13]; decide +kernel) (by decide) ?_
    refine lv_aload_n hx hb dX3_moveNumbers_96 rfl (lv_at hl 0 rfl) ?_
    refine va_get (D := D) (ci := 2) (v := .ref (g 4)) (C := RX3) (T := TX3) (N := 14) hx hb hts inX3 hown hK hP 0 rfl rfl 1 (by decide) k1 (fun _ h9 => h9) rfl dX3_moveNumbers_97 ?_
    refine lv_aload_n hx hb dX3_moveNumbers_100 rfl (lv_at hl 0 rfl) ?_
    refine va_get (D := D) (ci := 2) (v := .ref (g 4)) (C := RX3) (T := TX3) (N := 14) hx hb hts inX3 hown hK hP 0 rfl rfl 1 (by decide) k1 (fun _ h9 => h9) rfl dX3_moveNumbers_101 ?_
    refine lv_iconst (v := 1) hx hb dX3_moveNumbers_104 (by decide +kernel) ?_
    obtain ⟨u14, h15, hE⟩ := bd_some hE
    refine cn_i (As := [.int 1]) (rest := [.ref (g 4)]) (r := u14) (w0 := (wM g cA t s y d q k r c o m)) (N := 28) ⟨hx, hb, hml, hown, hts⟩ (c_X8_fromTop l D cA (g 4) (g 5) H.size 1 (-3) s u14 h15) (cwV 1 hts hX3_moveNumbers_X8_fromTop_212 rfl rfl rfl (by decide +kernel) ⟨Nat.le_of_ble_eq_true rfl, Nat.le_of_ble_eq_true rfl⟩) rfl hl.1 rfl (Nat.le_of_ble_eq_true rfl) dX3_moveNumbers_105 ⟨Nat.zero_le _, Nat.zero_le _⟩ hK hP hD hS hA (va_recv hK hP (ci := 7) (q0 := 4) rfl rfl) [4, 5] [0, 1, 2, 3, 6, 7, 8, 9, 10, 11, 12, 13, 14, 15, 16, 17, 18, 19, 20, 21, 22, 23, 24, 25, 26, 27] (wM g cA t s y d q k r c o m) rfl (by decide +kernel) rfl (wr := List.filterMap (fun i => (wM g cA t s y d q k r c o m)[i]?) [0, 1, 2, 3, 6, 7, 8, 9, 10, 11, 12, 13, 14, 15, 16, 17, 18, 19, 20, 21, 22, 23, 24, 25, 26, 27]) rfl rfl (by decide +kernel) rfl (by decide +kernel) [g 0, g 1, g 2, g 3, g 4, g 5, g 6, g 7, g 8, g 9, g 10, g 11, g 12, g 13, g 14, g 15, g 16, g 17, g 18, g 19, g 20, g 21, g 22, g 23, g 24, g 25, g 26, g 27] rfl rfl (fun _ _ _ _ h => h) (fun _ _ _ => trivial) (fun H locs hP hD hS => ?_)
    have hP : va_P D vwCl (wM g cA t s y d q k r c o m) H := hP
    have hD : va_D A (wM g cA t s y d q k r c o m) := hD
    obtain ⟨u16, h17, hE⟩ := bd_some hE
    refine cn_i (As := [.int u14]) (rest := []) (r := u16.1) (w0 := (wM g cA t s y d q k r c o m)) (N := 28) ⟨hx, hb, hml, hown, hts⟩ (c_X8_put l D cA (g 4) (g 5) H.size u14 (-3) s u16 h17) (cwV 1 hts hX3_moveNumbers_X8_put_120 rfl rfl rfl (by decide +kernel) ⟨Nat.le_of_ble_eq_true rfl, Nat.le_of_ble_eq_true rfl⟩) rfl hl.1 rfl (Nat.le_of_ble_eq_true rfl) dX3_moveNumbers_108 ⟨Nat.zero_le _, Nat.zero_le _⟩ hK hP hD hS hA (va_recv hK hP (ci := 7) (q0 := 4) rfl rfl) [4, 5] [0, 1, 2, 3, 6, 7, 8, 9, 10, 11, 12, 13, 14, 15, 16, 17, 18, 19, 20, 21, 22, 23, 24, 25, 26, 27] (wM g cA t u16.2 y d q k r c o m) rfl (by decide +kernel) rfl (wr := List.filterMap (fun i => (wM g cA t s y d q k r c o m)[i]?) [0, 1, 2, 3, 6, 7, 8, 9, 10, 11, 12, 13, 14, 15, 16, 17, 18, 19, 20, 21, 22, 23, 24, 25, 26, 27]) rfl rfl (by decide +kernel) rfl (by decide +kernel) [g 0, g 1, g 2, g 3, g 4, g 5, g 6, g 7, g 8, g 9, g 10, g 11, g 12, g 13, g 14, g 15, g 16, g 17, g 18, g 19, g 20, g 21, g 22, g 23, g 24, g 25, g 26, g 27] rfl rfl (fun _ _ _ _ h => h) (fun _ _ _ => trivial) (fun H locs hP hD hS => ?_)
    have hP : va_P D vwCl (wM g cA t u16.2 y d q k r c o m) H := hP
    have hD : va_D A (wM g cA t u16.2 y d q k r c o m) := hD
    obtain rfl := Option.some.inj hE
    exact rt_i hx hb hr hP hS rfl hlocks dX3_moveNumbers_111
  have hE := if_f c13 hE
  by_cases c18 : (swm ((wV_ordinal.getD w1 0).toNatClampNeg)) = 32
  · have hE := if_t c18 hE
    refine lv_tableIn (tgt := 112) (off := 104) hx hb dX3_moveNumbers_8 (by rw [c18]; decide +kernel) (by rw [c18]; decide +kernel) (by rw [c18]; decide +kernel) (by decide) ?_
    refine lv_aload_n hx hb dX3_moveNumbers_112 rfl (lv_at hl 0 rfl) ?_
    refine va_get (D := D) (ci := 2) (v := .ref (g 4)) (C := RX3) (T := TX3) (N := 14) hx hb hts inX3 hown hK hP 0 rfl rfl 1 (by decide) k1 (fun _ h9 => h9) rfl dX3_moveNumbers_113 ?_
    refine lv_iconst (v := 2) hx hb dX3_moveNumbers_116 (by decide +kernel) ?_
    obtain ⟨u19, h20, hE⟩ := bd_some hE
    refine cn_v (As := [.int 2]) (rest := []) (w0 := (wM g cA t s y d q k r c o m)) (N := 28) ⟨hx, hb, hml, hown, hts⟩ (c_X8_raise l D cA (g 4) (g 5) H.size 2 (-3) s u19 h20) (cwV 1 hts hX3_moveNumbers_X8_raise_311 rfl rfl rfl (by decide +kernel) ⟨Nat.le_of_ble_eq_true rfl, Nat.le_of_ble_eq_true rfl⟩) rfl hl.1 rfl (Nat.le_of_ble_eq_true rfl) dX3_moveNumbers_117 ⟨Nat.zero_le _, Nat.zero_le _⟩ hK hP hD hS hA (va_recv hK hP (ci := 7) (q0 := 4) rfl rfl) [4, 5] [0, 1, 2, 3, 6, 7, 8, 9, 10, 11, 12, 13, 14, 15, 16, 17, 18, 19, 20, 21, 22, 23, 24, 25, 26, 27] (wM g cA t u19 y d q k r c o m) rfl (by decide +kernel) rfl (wr := List.filterMap (fun i => (wM g cA t s y d q k r c o m)[i]?) [0, 1, 2, 3, 6, 7, 8, 9, 10, 11, 12, 13, 14, 15, 16, 17, 18, 19, 20, 21, 22, 23, 24, 25, 26, 27]) rfl rfl (by decide +kernel) rfl (by decide +kernel) [g 0, g 1, g 2, g 3, g 4, g 5, g 6, g 7, g 8, g 9, g 10, g 11, g 12, g 13, g 14, g 15, g 16, g 17, g 18, g 19, g 20, g 21, g 22, g 23, g 24, g 25, g 26, g 27] rfl rfl (fun _ _ _ _ h => h) (fun _ _ _ => trivial) (fun H locs hP hD hS => ?_)
    have hP : va_P D vwCl (wM g cA t u19 y d q k r c o m) H := hP
    have hD : va_D A (wM g cA t u19 y d q k r c o m) := hD
    refine lv_iconst (v := 0) hx hb dX3_moveNumbers_120 (by decide +kernel) ?_
    obtain rfl := Option.some.inj hE
    exact rt_i hx hb hr hP hS rfl hlocks dX3_moveNumbers_121
  have hE := if_f c18 hE
  by_cases c21 : (swm ((wV_ordinal.getD w1 0).toNatClampNeg)) = 33
  · have hE := if_t c21 hE
    refine lv_tableIn (tgt := 122) (off := 114) hx hb dX3_moveNumbers_8 (by rw [c21]; decide +kernel) (by rw [c21]; decide +kernel) (by rw [c21]; decide +kernel) (by decide) ?_
    refine lv_aload_n hx hb dX3_moveNumbers_122 rfl (lv_at hl 0 rfl) ?_
    refine va_get (D := D) (ci := 2) (v := .ref (g 4)) (C := RX3) (T := TX3) (N := 14) hx hb hts inX3 hown hK hP 0 rfl rfl 1 (by decide) k1 (fun _ h9 => h9) rfl dX3_moveNumbers_123 ?_
    refine lv_iconst (v := 1) hx hb dX3_moveNumbers_126 (by decide +kernel) ?_
    obtain ⟨u22, h23, hE⟩ := bd_some hE
    refine cn_v (As := [.int 1]) (rest := []) (w0 := (wM g cA t s y d q k r c o m)) (N := 28) ⟨hx, hb, hml, hown, hts⟩ (c_X8_raise l D cA (g 4) (g 5) H.size 1 (-3) s u22 h23) (cwV 1 hts hX3_moveNumbers_X8_raise_311 rfl rfl rfl (by decide +kernel) ⟨Nat.le_of_ble_eq_true rfl, Nat.le_of_ble_eq_true rfl⟩) rfl hl.1 rfl (Nat.le_of_ble_eq_true rfl) dX3_moveNumbers_127 ⟨Nat.zero_le _, Nat.zero_le _⟩ hK hP hD hS hA (va_recv hK hP (ci := 7) (q0 := 4) rfl rfl) [4, 5] [0, 1, 2, 3, 6, 7, 8, 9, 10, 11, 12, 13, 14, 15, 16, 17, 18, 19, 20, 21, 22, 23, 24, 25, 26, 27] (wM g cA t u22 y d q k r c o m) rfl (by decide +kernel) rfl (wr := List.filterMap (fun i => (wM g cA t s y d q k r c o m)[i]?) [0, 1, 2, 3, 6, 7, 8, 9, 10, 11, 12, 13, 14, 15, 16, 17, 18, 19, 20, 21, 22, 23, 24, 25, 26, 27]) rfl rfl (by decide +kernel) rfl (by decide +kernel) [g 0, g 1, g 2, g 3, g 4, g 5, g 6, g 7, g 8, g 9, g 10, g 11, g 12, g 13, g 14, g 15, g 16, g 17, g 18, g 19, g 20, g 21, g 22, g 23, g 24, g 25, g 26, g 27] rfl rfl (fun _ _ _ _ h => h) (fun _ _ _ => trivial) (fun H locs hP hD hS => ?_)
    have hP : va_P D vwCl (wM g cA t u22 y d q k r c o m) H := hP
    have hD : va_D A (wM g cA t u22 y d q k r c o m) := hD
    refine lv_aload_n hx hb dX3_moveNumbers_130 rfl (lv_at hl 0 rfl) ?_
    refine va_get (D := D) (ci := 2) (v := .ref (g 4)) (C := RX3) (T := TX3) (N := 14) hx hb hts inX3 hown hK hP 0 rfl rfl 1 (by decide) k1 (fun _ h9 => h9) rfl dX3_moveNumbers_131 ?_
    refine lv_iconst (v := 1) hx hb dX3_moveNumbers_134 (by decide +kernel) ?_
    obtain ⟨u24, h25, hE⟩ := bd_some hE
    refine cn_v (As := [.int 1]) (rest := []) (w0 := (wM g cA t u22 y d q k r c o m)) (N := 28) ⟨hx, hb, hml, hown, hts⟩ (c_X8_drop l D cA (g 4) (g 5) H.size 1 (-3) u22 u24 h25) (cwV 1 hts hX3_moveNumbers_X8_drop_296 rfl rfl rfl (by decide +kernel) ⟨Nat.le_of_ble_eq_true rfl, Nat.le_of_ble_eq_true rfl⟩) rfl hl.1 rfl (Nat.le_of_ble_eq_true rfl) dX3_moveNumbers_135 ⟨Nat.zero_le _, Nat.zero_le _⟩ hK hP hD hS hA (va_recv hK hP (ci := 7) (q0 := 4) rfl rfl) [4, 5] [0, 1, 2, 3, 6, 7, 8, 9, 10, 11, 12, 13, 14, 15, 16, 17, 18, 19, 20, 21, 22, 23, 24, 25, 26, 27] (wM g cA t u24 y d q k r c o m) rfl (by decide +kernel) rfl (wr := List.filterMap (fun i => (wM g cA t u22 y d q k r c o m)[i]?) [0, 1, 2, 3, 6, 7, 8, 9, 10, 11, 12, 13, 14, 15, 16, 17, 18, 19, 20, 21, 22, 23, 24, 25, 26, 27]) rfl rfl (by decide +kernel) rfl (by decide +kernel) [g 0, g 1, g 2, g 3, g 4, g 5, g 6, g 7, g 8, g 9, g 10, g 11, g 12, g 13, g 14, g 15, g 16, g 17, g 18, g 19, g 20, g 21, g 22, g 23, g 24, g 25, g 26, g 27] rfl rfl (fun _ _ _ _ h => h) (fun _ _ _ => trivial) (fun H locs hP hD hS => ?_)
    have hP : va_P D vwCl (wM g cA t u24 y d q k r c o m) H := hP
    have hD : va_D A (wM g cA t u24 y d q k r c o m) := hD
    refine lv_iconst (v := 0) hx hb dX3_moveNumbers_138 (by decide +kernel) ?_
    obtain rfl := Option.some.inj hE
    exact rt_i hx hb hr hP hS rfl hlocks dX3_moveNumbers_139
  have hE := if_f c21 hE
  by_cases c26 : (swm ((wV_ordinal.getD w1 0).toNatClampNeg)) = 34
  · have hE := if_t c26 hE
    refine lv_tableIn (tgt := 140) (off := 132) hx hb dX3_moveNumbers_8 (by rw [c26]; decide +kernel) (by rw [c26]; decide +kernel) (by rw [c26]; decide +kernel) (by decide) ?_
    refine lv_aload_n hx hb dX3_moveNumbers_140 rfl (lv_at hl 0 rfl) ?_
    refine va_get (D := D) (ci := 2) (v := .ref (g 4)) (C := RX3) (T := TX3) (N := 14) hx hb hts inX3 hown hK hP 0 rfl rfl 1 (by decide) k1 (fun _ h9 => h9) rfl dX3_moveNumbers_141 ?_
    refine lv_iconst (v := 0) hx hb dX3_moveNumbers_144 (by decide +kernel) ?_
    obtain ⟨u27, h28, hE⟩ := bd_some hE
    refine cn_i (As := [.int 0]) (rest := []) (r := u27) (w0 := (wM g cA t s y d q k r c o m)) (N := 28) ⟨hx, hb, hml, hown, hts⟩ (c_X8_fromTop l D cA (g 4) (g 5) H.size 0 (-3) s u27 h28) (cwV 1 hts hX3_moveNumbers_X8_fromTop_212 rfl rfl rfl (by decide +kernel) ⟨Nat.le_of_ble_eq_true rfl, Nat.le_of_ble_eq_true rfl⟩) rfl hl.1 rfl (Nat.le_of_ble_eq_true rfl) dX3_moveNumbers_145 ⟨Nat.zero_le _, Nat.zero_le _⟩ hK hP hD hS hA (va_recv hK hP (ci := 7) (q0 := 4) rfl rfl) [4, 5] [0, 1, 2, 3, 6, 7, 8, 9, 10, 11, 12, 13, 14, 15, 16, 17, 18, 19, 20, 21, 22, 23, 24, 25, 26, 27] (wM g cA t s y d q k r c o m) rfl (by decide +kernel) rfl (wr := List.filterMap (fun i => (wM g cA t s y d q k r c o m)[i]?) [0, 1, 2, 3, 6, 7, 8, 9, 10, 11, 12, 13, 14, 15, 16, 17, 18, 19, 20, 21, 22, 23, 24, 25, 26, 27]) rfl rfl (by decide +kernel) rfl (by decide +kernel) [g 0, g 1, g 2, g 3, g 4, g 5, g 6, g 7, g 8, g 9, g 10, g 11, g 12, g 13, g 14, g 15, g 16, g 17, g 18, g 19, g 20, g 21, g 22, g 23, g 24, g 25, g 26, g 27] rfl rfl (fun _ _ _ _ h => h) (fun _ _ _ => trivial) (fun H locs hP hD hS => ?_)
    have hP : va_P D vwCl (wM g cA t s y d q k r c o m) H := hP
    have hD : va_D A (wM g cA t s y d q k r c o m) := hD
    refine lv_if_ne (tgt := 155) hx hb dX3_moveNumbers_148 (by decide) (fun c29 => ?_) (fun c29 => ?_)
    · have hE := if_f c29 hE
      refine lv_aload_n hx hb dX3_moveNumbers_155 rfl (lv_at hl 0 rfl) ?_
      refine va_get (D := D) (ci := 2) (v := .ref (g 4)) (C := RX3) (T := TX3) (N := 14) hx hb hts inX3 hown hK hP 0 rfl rfl 1 (by decide) k1 (fun _ h9 => h9) rfl dX3_moveNumbers_156 ?_
      refine lv_aload_n hx hb dX3_moveNumbers_159 rfl (lv_at hl 0 rfl) ?_
      refine va_get (D := D) (ci := 2) (v := .ref (g 4)) (C := RX3) (T := TX3) (N := 14) hx hb hts inX3 hown hK hP 0 rfl rfl 1 (by decide) k1 (fun _ h9 => h9) rfl dX3_moveNumbers_160 ?_
      refine lv_iconst (v := 0) hx hb dX3_moveNumbers_163 (by decide +kernel) ?_
      obtain ⟨u30, h31, hE⟩ := bd_some hE
      refine cn_i (As := [.int 0]) (rest := [.ref (g 4)]) (r := u30) (w0 := (wM g cA t s y d q k r c o m)) (N := 28) ⟨hx, hb, hml, hown, hts⟩ (c_X8_fromTop l D cA (g 4) (g 5) H.size 0 (-3) s u30 h31) (cwV 1 hts hX3_moveNumbers_X8_fromTop_212 rfl rfl rfl (by decide +kernel) ⟨Nat.le_of_ble_eq_true rfl, Nat.le_of_ble_eq_true rfl⟩) rfl hl.1 rfl (Nat.le_of_ble_eq_true rfl) dX3_moveNumbers_164 ⟨Nat.zero_le _, Nat.zero_le _⟩ hK hP hD hS hA (va_recv hK hP (ci := 7) (q0 := 4) rfl rfl) [4, 5] [0, 1, 2, 3, 6, 7, 8, 9, 10, 11, 12, 13, 14, 15, 16, 17, 18, 19, 20, 21, 22, 23, 24, 25, 26, 27] (wM g cA t s y d q k r c o m) rfl (by decide +kernel) rfl (wr := List.filterMap (fun i => (wM g cA t s y d q k r c o m)[i]?) [0, 1, 2, 3, 6, 7, 8, 9, 10, 11, 12, 13, 14, 15, 16, 17, 18, 19, 20, 21, 22, 23, 24, 25, 26, 27]) rfl rfl (by decide +kernel) rfl (by decide +kernel) [g 0, g 1, g 2, g 3, g 4, g 5, g 6, g 7, g 8, g 9, g 10, g 11, g 12, g 13, g 14, g 15, g 16, g 17, g 18, g 19, g 20, g 21, g 22, g 23, g 24, g 25, g 26, g 27] rfl rfl (fun _ _ _ _ h => h) (fun _ _ _ => trivial) (fun H locs hP hD hS => ?_)
      have hP : va_P D vwCl (wM g cA t s y d q k r c o m) H := hP
      have hD : va_D A (wM g cA t s y d q k r c o m) := hD
      obtain ⟨u32, h33, hE⟩ := bd_some hE
      refine cn_i (As := [.int u30]) (rest := []) (r := u32.1) (w0 := (wM g cA t s y d q k r c o m)) (N := 28) ⟨hx, hb, hml, hown, hts⟩ (c_X8_put l D cA (g 4) (g 5) H.size u30 (-3) s u32 h33) (cwV 1 hts hX3_moveNumbers_X8_put_120 rfl rfl rfl (by decide +kernel) ⟨Nat.le_of_ble_eq_true rfl, Nat.le_of_ble_eq_true rfl⟩) rfl hl.1 rfl (Nat.le_of_ble_eq_true rfl) dX3_moveNumbers_167 ⟨Nat.zero_le _, Nat.zero_le _⟩ hK hP hD hS hA (va_recv hK hP (ci := 7) (q0 := 4) rfl rfl) [4, 5] [0, 1, 2, 3, 6, 7, 8, 9, 10, 11, 12, 13, 14, 15, 16, 17, 18, 19, 20, 21, 22, 23, 24, 25, 26, 27] (wM g cA t u32.2 y d q k r c o m) rfl (by decide +kernel) rfl (wr := List.filterMap (fun i => (wM g cA t s y d q k r c o m)[i]?) [0, 1, 2, 3, 6, 7, 8, 9, 10, 11, 12, 13, 14, 15, 16, 17, 18, 19, 20, 21, 22, 23, 24, 25, 26, 27]) rfl rfl (by decide +kernel) rfl (by decide +kernel) [g 0, g 1, g 2, g 3, g 4, g 5, g 6, g 7, g 8, g 9, g 10, g 11, g 12, g 13, g 14, g 15, g 16, g 17, g 18, g 19, g 20, g 21, g 22, g 23, g 24, g 25, g 26, g 27] rfl rfl (fun _ _ _ _ h => h) (fun _ _ _ => trivial) (fun H locs hP hD hS => ?_)
      have hP : va_P D vwCl (wM g cA t u32.2 y d q k r c o m) H := hP
      have hD : va_D A (wM g cA t u32.2 y d q k r c o m) := hD
      obtain rfl := Option.some.inj hE
      exact rt_i hx hb hr hP hS rfl hlocks dX3_moveNumbers_170
    · have hE := if_t c29 hE
      refine lv_iconst (v := 0) hx hb dX3_moveNumbers_151 (by decide +kernel) ?_
      refine lv_goto (tgt := 170) hx hb dX3_moveNumbers_152 (by decide) ?_
      obtain rfl := Option.some.inj hE
      exact rt_i hx hb hr hP hS rfl hlocks dX3_moveNumbers_170
  have hE := if_f c26 hE
  by_cases c34 : (swm ((wV_ordinal.getD w1 0).toNatClampNeg)) = 35
  · have hE := if_t c34 hE
    refine lv_tableIn (tgt := 171) (off := 163) hx hb dX3_moveNumbers_8 (by rw [c34]; decide +kernel) (by rw [c34]; decide +kernel) (by rw [c34]; decide +kernel) (by decide) ?_
    refine lv_aload_n hx hb dX3_moveNumbers_171 rfl (lv_at hl 0 rfl) ?_
    refine va_get (D := D) (ci := 2) (v := .ref (g 4)) (C := RX3) (T := TX3) (N := 14) hx hb hts inX3 hown hK hP 0 rfl rfl 1 (by decide) k1 (fun _ h9 => h9) rfl dX3_moveNumbers_172 ?_
    refine lv_aload_n hx hb dX3_moveNumbers_175 rfl (lv_at hl 0 rfl) ?_
    refine va_get (D := D) (ci := 2) (v := .ref (g 4)) (C := RX3) (T := TX3) (N := 14) hx hb hts inX3 hown hK hP 0 rfl rfl 1 (by decide) k1 (fun _ h9 => h9) rfl dX3_moveNumbers_176 ?_
    refine va_getN (D := D) (ci := 7) (v := .int s.1) (C := RX8) (T := TX8) (N := 3) hx hb hts inX8 hown hK hP 4 rfl rfl 2 (by decide) (k3 _) (fun _ h9 => h9) rfl dX3_moveNumbers_179 ?_
    obtain ⟨u35, h36, hE⟩ := bd_some hE
    refine cn_i (As := [.int s.1]) (rest := []) (r := u35.1) (w0 := (wM g cA t s y d q k r c o m)) (N := 28) ⟨hx, hb, hml, hown, hts⟩ (c_X8_put l D cA (g 4) (g 5) H.size s.1 (-3) s u35 h36) (cwV 1 hts hX3_moveNumbers_X8_put_120 rfl rfl rfl (by decide +kernel) ⟨Nat.le_of_ble_eq_true rfl, Nat.le_of_ble_eq_true rfl⟩) rfl hl.1 rfl (Nat.le_of_ble_eq_true rfl) dX3_moveNumbers_182 ⟨Nat.zero_le _, Nat.zero_le _⟩ hK hP hD hS hA (va_recv hK hP (ci := 7) (q0 := 4) rfl rfl) [4, 5] [0, 1, 2, 3, 6, 7, 8, 9, 10, 11, 12, 13, 14, 15, 16, 17, 18, 19, 20, 21, 22, 23, 24, 25, 26, 27] (wM g cA t u35.2 y d q k r c o m) rfl (by decide +kernel) rfl (wr := List.filterMap (fun i => (wM g cA t s y d q k r c o m)[i]?) [0, 1, 2, 3, 6, 7, 8, 9, 10, 11, 12, 13, 14, 15, 16, 17, 18, 19, 20, 21, 22, 23, 24, 25, 26, 27]) rfl rfl (by decide +kernel) rfl (by decide +kernel) [g 0, g 1, g 2, g 3, g 4, g 5, g 6, g 7, g 8, g 9, g 10, g 11, g 12, g 13, g 14, g 15, g 16, g 17, g 18, g 19, g 20, g 21, g 22, g 23, g 24, g 25, g 26, g 27] rfl rfl (fun _ _ _ _ h => h) (fun _ _ _ => trivial) (fun H locs hP hD hS => ?_)
    have hP : va_P D vwCl (wM g cA t u35.2 y d q k r c o m) H := hP
    have hD : va_D A (wM g cA t u35.2 y d q k r c o m) := hD
    obtain rfl := Option.some.inj hE
    exact rt_i hx hb hr hP hS rfl hlocks dX3_moveNumbers_185
  have hE := if_f c34 hE
  by_cases c37 : (swm ((wV_ordinal.getD w1 0).toNatClampNeg)) = 36
  · have hE := if_t c37 hE
    refine lv_tableIn (tgt := 186) (off := 178) hx hb dX3_moveNumbers_8 (by rw [c37]; decide +kernel) (by rw [c37]; decide +kernel) (by rw [c37]; decide +kernel) (by decide) ?_
    refine lv_aload_n hx hb dX3_moveNumbers_186 rfl (lv_at hl 0 rfl) ?_
    obtain ⟨u38, h39, hE⟩ := bd_some hE
    refine cw_i (As := []) (rest := []) (r := u38.1) (wc := (wM g cA t s y d q k r c o m)) ⟨hx, hb, hml, hown, hts⟩ (c_X3_pick l D cA ad adK adV tA tS g H.size t s y d q k r c o m u38 h39) (cwV 0 hts hX3_moveNumbers_X3_pick_314 rfl rfl rfl (by decide +kernel) ⟨Nat.le_of_ble_eq_true rfl, Nat.le_of_ble_eq_true rfl⟩) rfl hl.1 rfl (Nat.le_of_ble_eq_true rfl) dX3_moveNumbers_187 ⟨Nat.zero_le _, Nat.zero_le _⟩ hK hP hD hS hA (va_recv hK hP (ci := 2) (q0 := 0) rfl rfl) [g 0, g 1, g 2, g 3, g 4, g 5, g 6, g 7, g 8, g 9, g 10, g 11, g 12, g 13, g 14, g 15, g 16, g 17, g 18, g 19, g 20, g 21, g 22, g 23, g 24, g 25, g 26, g 27] rfl rfl (fun a U g mk h => SX.blind a U g mk h) (fun U hU hW => SX.call hX hS (fun q h => h.elim (fun ⟨k, e, h⟩ => hD.2 k (q, e) h) (fun h => hA q (Nat.le_trans hS.1 h))) U hU hW) (fun H locs hP hD hS => ?_)
    have hP : va_P D vwCl (wM g cA t u38.2 y d q k r c o m) H := hP
    have hD : va_D A (wM g cA t u38.2 y d q k r c o m) := hD
    obtain rfl := Option.some.inj hE
    exact rt_i hx hb hr hP hS rfl hlocks dX3_moveNumbers_190
  have hE := if_f c37 hE
  have tc2 := lv_neT c2 (show (28 : Int32).toInt = 28 by decide +kernel)
  have tc7 := lv_neT c7 (show (29 : Int32).toInt = 29 by decide +kernel)
  have tc10 := lv_neT c10 (show (30 : Int32).toInt = 30 by decide +kernel)
  have tc13 := lv_neT c13 (show (31 : Int32).toInt = 31 by decide +kernel)
  have tc18 := lv_neT c18 (show (32 : Int32).toInt = 32 by decide +kernel)
  have tc21 := lv_neT c21 (show (33 : Int32).toInt = 33 by decide +kernel)
  have tc26 := lv_neT c26 (show (34 : Int32).toInt = 34 by decide +kernel)
  have tc34 := lv_neT c34 (show (35 : Int32).toInt = 35 by decide +kernel)
  have tc37 := lv_neT c37 (show (36 : Int32).toInt = 36 by decide +kernel)
  refine lv_tableOut (tgt := 191) hx hb dX3_moveNumbers_8 (by omega) (by decide) ?_
  refine lv_aload_n hx hb dX3_moveNumbers_191 rfl (lv_at hl 0 rfl) ?_
  refine lv_aload_n hx hb dX3_moveNumbers_192 rfl (lv_at hl 1 rfl) ?_
  obtain ⟨u40, h41, hE⟩ := bd_some hE
  refine cw_i (As := [.ref (ad w1)]) (rest := []) (r := u40.1) (wc := (wM g cA t s y d q k r c o m)) ⟨hx, hb, hml, hown, hts⟩ (c_X3_useStore l D cA ad adK adV tA tS g H.size w1 t s y d q k r c o m u40 h41) (cwV 1 hts hX3_moveNumbers_X3_useStore_317 rfl rfl rfl (by decide +kernel) ⟨Nat.le_of_ble_eq_true rfl, Nat.le_of_ble_eq_true rfl⟩) rfl hl.1 rfl (Nat.le_of_ble_eq_true rfl) dX3_moveNumbers_193 ⟨Nat.zero_le _, Nat.zero_le _⟩ hK hP hD hS hA (va_recv hK hP (ci := 2) (q0 := 0) rfl rfl) [g 0, g 1, g 2, g 3, g 4, g 5, g 6, g 7, g 8, g 9, g 10, g 11, g 12, g 13, g 14, g 15, g 16, g 17, g 18, g 19, g 20, g 21, g 22, g 23, g 24, g 25, g 26, g 27] rfl rfl (fun a U g mk h => SX.blind a U g mk h) (fun U hU hW => SX.call hX hS (fun q h => h.elim (fun ⟨k, e, h⟩ => hD.2 k (q, e) h) (fun h => hA q (Nat.le_trans hS.1 h))) U hU hW) (fun H locs hP hD hS => ?_)
  have hP : va_P D vwCl (wM g cA t u40.2.1 y d q k u40.2.2 c o m) H := hP
  have hD : va_D A (wM g cA t u40.2.1 y d q k u40.2.2 c o m) := hD
  obtain rfl := Option.some.inj hE
  exact rt_i hx hb hr hP hS rfl hlocks dX3_moveNumbers_196
set_option maxHeartbeats 4000000 in
set_option maxRecDepth 100000 in
theorem c_X3_truth (l : Launch) (D : va_G) (cA : Nat → ClassId) (ad adK adV : Nat → Nat) (tA tS : Nat) (g : Nat → Nat) (sz : Nat) (x1 : Int32) (t : tT) (s : tR) (y : tY) (d : tD) (q : tP) (k : tK) (r : tR) (c : tC) (o : tO) (m : tM) (u : Int32) (hE : f_X3_truth x1 = some u) : Met l yX3_truth wsX3_truth ({ frames := 0, cells := 0, slots := 0, locals := 0 }) (va_Pc [.ref (g 0), .int x1] (PRE D cA (wM g cA t s y d q k r c o m) sz (fun U => SX ad adK adV tA tS (va_A (wM g cA t s y d q k r c o m) sz) U U.heap))) (cQi D (wM g cA t s y d q k r c o m) (va_A (wM g cA t s y d q k r c o m) sz) u) 0 0 (va_A (wM g cA t s y d q k r c o m) sz) := by
  refine Met.ofW (cc := cX3_truth) (maxL := 2) (ret := (some .int)) (by decide) rfl ?_
  intro PP EE S0 MM args below meth CC S1 B hml hv
  obtain ⟨rfl, hsz, hP, hK, hD0, hX⟩ := hv
  have hx := B.exec
  have hb := B.bytes
  have hr := B.returns
  have hts := atoms_spec (ws := wsX3_truth) B.pre
  have hown : S0.vm.findClass RX3 = some MM.cls := findClass_of_methodNamed B.named
  have hlocks := B.notSynchronized
  subst hsz
  have hD := hD0.self (sz := S0.heap.size)
  have hX : SX ad adK adV tA tS (va_A (wM g cA t s y d q k r c o m) S0.heap.size) S0 S0.heap := hX
  generalize hAe : va_A (wM g cA t s y d q k r c o m) S0.heap.size = A at hD hX ⊢
  have hA : ∀ q : Nat, S0.heap.size ≤ q → A q := fun q h => by rw [← hAe]; exact Or.inr h
  have hS : va_S A S0.heap S0.heap [] := va_S.rf
  have hl := lv_entry ([.ref (g 0), .int x1]) (n := 2) (Nat.le_of_ble_eq_true rfl)
  rw [lg_entry_eq]
  generalize (lg_sl ([.ref (g 0), .int x1]) ++ List.replicate (2 - (lg_sl ([.ref (g 0), .int x1])).length) Slot.unset).toArray = ls at hl ⊢
  have hl : lv_has ls 2 [(0, .ref (g 0)), (1, .int x1)] := hl
  unfold f_X3_truth at hE
  suffices main : ∀ (H : Heap) (locs : List Loc) (ls : Array Slot), va_P D vwCl (wM g cA t s y d q k r c o m) H → va_D A (wM g cA t s y d q k r c o m) → va_S A S0.heap H locs → lv_has ls 2 [(0, .ref (g 0)), (1, .int x1)] → W PP l EE (headSpec wsX3_truth ({ frames := 0, cells := 0, slots := 0, locals := 0 })).room S0 MM (#[.ref (g 0), .int x1] : Array Value) below meth CC H locs 0 0 (MQ below (cQi D (wM g cA t s y d q k r c o m) A u) (#[.ref (g 0), .int x1] : Array Value) S0 0 0 A) (F0 MM 0 ls []) from main _ _ _ hP hD hS hl
  intro H locs ls hP hD hS hl
  refine lv_iload_n hx hb dX3_truth_0 rfl (lv_at hl 1 rfl) ?_
  refine lv_if_eq (tgt := 8) hx hb dX3_truth_1 (by decide) (fun c1 => ?_) (fun c1 => ?_)
  · have hE := if_t c1 hE
    refine lv_iconst (v := 0) hx hb dX3_truth_8 (by decide +kernel) ?_
    obtain rfl := Option.some.inj hE
    exact rt_i hx hb hr hP hS rfl hlocks dX3_truth_9
  · have hE := if_f c1 hE
    refine lv_iconst (v := (-1)) hx hb dX3_truth_4 (by decide +kernel) ?_
    refine lv_goto (tgt := 9) hx hb dX3_truth_5 (by decide) ?_
    obtain rfl := Option.some.inj hE
    exact rt_i hx hb hr hP hS rfl hlocks dX3_truth_9
set_option maxRecDepth 20000 in
theorem hX3_ofOne_X3_truth_320 : GoodIn wsX3_ofOne (wsV RX3 320 RX3 yX3_truth wsX3_truth) := goodIn_r _ [9, 10, 11, 12, 13] rfl (by decide +kernel)
set_option maxHeartbeats 4000000 in
set_option maxRecDepth 100000 in
theorem c_X3_ofOne (l : Launch) (D : va_G) (cA : Nat → ClassId) (ad adK adV : Nat → Nat) (tA tS : Nat) (g : Nat → Nat) (sz : Nat) (w1 : Nat) (x2 : Int32) (t : tT) (s : tR) (y : tY) (d : tD) (q : tP) (k : tK) (r : tR) (c : tC) (o : tO) (m : tM) (u : Int32) (hE : f_X3_ofOne w1 x2 = some u) : Met l yX3_ofOne wsX3_ofOne ({ frames := 1, cells := 0, slots := 0, locals := 21 }) (va_Pc [.ref (g 0), .ref (ad w1), .int x2] (PRE D cA (wM g cA t s y d q k r c o m) sz (fun U => SX ad adK adV tA tS (va_A (wM g cA t s y d q k r c o m) sz) U U.heap))) (cQi D (wM g cA t s y d q k r c o m) (va_A (wM g cA t s y d q k r c o m) sz) u) 0 0 (va_A (wM g cA t s y d q k r c o m) sz) := by
  refine Met.ofW (cc := cX3_ofOne) (maxL := 3) (ret := (some .int)) (by decide) rfl ?_
  intro PP EE S0 MM args below meth CC S1 B hml hv
  obtain ⟨rfl, hsz, hP, hK, hD0, hX⟩ := hv
  have hx := B.exec
  have hb := B.bytes
  have hr := B.returns
  have hts := atoms_spec (ws := wsX3_ofOne) B.pre
  have hown : S0.vm.findClass RX3 = some MM.cls := findClass_of_methodNamed B.named
  have hlocks := B.notSynchronized
  subst hsz
  have hD := hD0.self (sz := S0.heap.size)
  have hX : SX ad adK adV tA tS (va_A (wM g cA t s y d q k r c o m) S0.heap.size) S0 S0.heap := hX
  generalize hAe : va_A (wM g cA t s y d q k r c o m) S0.heap.size = A at hD hX ⊢
  have hA : ∀ q : Nat, S0.heap.size ≤ q → A q := fun q h => by rw [← hAe]; exact Or.inr h
  have hS : va_S A S0.heap S0.heap [] := va_S.rf
  have k0 := hts (.fieldLink RX3 279 "WordForge$1" "$SwitchMap$WordForge$Word" "[I") (List.mem_of_getElem? (i := 1) rfl)
  have hl := lv_entry ([.ref (g 0), .ref (ad w1), .int x2]) (n := 3) (Nat.le_of_ble_eq_true rfl)
  rw [lg_entry_eq]
  generalize (lg_sl ([.ref (g 0), .ref (ad w1), .int x2]) ++ List.replicate (3 - (lg_sl ([.ref (g 0), .ref (ad w1), .int x2])).length) Slot.unset).toArray = ls at hl ⊢
  have hl : lv_has ls 3 [(0, .ref (g 0)), (1, .ref (ad w1)), (2, .int x2)] := hl
  unfold f_X3_ofOne at hE
  have ⟨hw1, hE⟩ := ck_some hE
  have w80 : ∀ (z0 : Int32) (H : Heap) (locs : List Loc) (ls : Array Slot), va_P D vwCl (wM g cA t s y d q k r c o m) H → va_D A (wM g cA t s y d q k r c o m) → va_S A S0.heap H locs → lv_has ls 3 [] → b_X3_ofOne_80 w1 z0 = some u → W PP l EE (headSpec wsX3_ofOne ({ frames := 1, cells := 0, slots := 0, locals := 21 })).room S0 MM (#[.ref (g 0), .ref (ad w1), .int x2] : Array Value) below meth CC H locs 0 0 (MQ below (cQi D (wM g cA t s y d q k r c o m) A u) (#[.ref (g 0), .ref (ad w1), .int x2] : Array Value) S0 0 0 A) (F0 MM 80 ls [.int z0, .ref (g 0)]) := by
    intro z0
    intro H locs ls hP hD hS hl hE
    unfold b_X3_ofOne_80 at hE
    obtain ⟨u12, h13, hE⟩ := bd_some hE
    refine cw_i (As := [.int z0]) (rest := []) (r := u12) (wc := (wM g cA t s y d q k r c o m)) ⟨hx, hb, hml, hown, hts⟩ (c_X3_truth l D cA ad adK adV tA tS g H.size z0 t s y d q k r c o m u12 h13) (cwV 1 hts hX3_ofOne_X3_truth_320 rfl rfl rfl (by decide +kernel) ⟨Nat.le_of_ble_eq_true rfl, Nat.le_of_ble_eq_true rfl⟩) rfl hl.1 rfl (Nat.le_of_ble_eq_true rfl) dX3_ofOne_80 ⟨Nat.zero_le _, Nat.zero_le _⟩ hK hP hD hS hA (va_recv hK hP (ci := 2) (q0 := 0) rfl rfl) [g 0, g 1, g 2, g 3, g 4, g 5, g 6, g 7, g 8, g 9, g 10, g 11, g 12, g 13, g 14, g 15, g 16, g 17, g 18, g 19, g 20, g 21, g 22, g 23, g 24, g 25, g 26, g 27] rfl rfl (fun a U g mk h => SX.blind a U g mk h) (fun U hU hW => SX.call hX hS (fun q h => h.elim (fun ⟨k, e, h⟩ => hD.2 k (q, e) h) (fun h => hA q (Nat.le_trans hS.1 h))) U hU hW) (fun H locs hP hD hS => ?_)
    have hP : va_P D vwCl (wM g cA t s y d q k r c o m) H := hP
    have hD : va_D A (wM g cA t s y d q k r c o m) := hD
    obtain rfl := Option.some.inj hE
    exact rt_i hx hb hr hP hS rfl hlocks dX3_ofOne_83
  have w94 : ∀ (z0 : Int32) (H : Heap) (locs : List Loc) (ls : Array Slot), va_P D vwCl (wM g cA t s y d q k r c o m) H → va_D A (wM g cA t s y d q k r c o m) → va_S A S0.heap H locs → lv_has ls 3 [] → b_X3_ofOne_94 w1 z0 = some u → W PP l EE (headSpec wsX3_ofOne ({ frames := 1, cells := 0, slots := 0, locals := 21 })).room S0 MM (#[.ref (g 0), .ref (ad w1), .int x2] : Array Value) below meth CC H locs 0 0 (MQ below (cQi D (wM g cA t s y d q k r c o m) A u) (#[.ref (g 0), .ref (ad w1), .int x2] : Array Value) S0 0 0 A) (F0 MM 94 ls [.int z0, .ref (g 0)]) := by
    intro z0
    intro H locs ls hP hD hS hl hE
    unfold b_X3_ofOne_94 at hE
    obtain ⟨u14, h15, hE⟩ := bd_some hE
    refine cw_i (As := [.int z0]) (rest := []) (r := u14) (wc := (wM g cA t s y d q k r c o m)) ⟨hx, hb, hml, hown, hts⟩ (c_X3_truth l D cA ad adK adV tA tS g H.size z0 t s y d q k r c o m u14 h15) (cwV 1 hts hX3_ofOne_X3_truth_320 rfl rfl rfl (by decide +kernel) ⟨Nat.le_of_ble_eq_true rfl, Nat.le_of_ble_eq_true rfl⟩) rfl hl.1 rfl (Nat.le_of_ble_eq_true rfl) dX3_ofOne_94 ⟨Nat.zero_le _, Nat.zero_le _⟩ hK hP hD hS hA (va_recv hK hP (ci := 2) (q0 := 0) rfl rfl) [g 0, g 1, g 2, g 3, g 4, g 5, g 6, g 7, g 8, g 9, g 10, g 11, g 12, g 13, g 14, g 15, g 16, g 17, g 18, g 19, g 20, g 21, g 22, g 23, g 24, g 25, g 26, g 27] rfl rfl (fun a U g mk h => SX.blind a U g mk h) (fun U hU hW => SX.call hX hS (fun q h => h.elim (fun ⟨k, e, h⟩ => hD.2 k (q, e) h) (fun h => hA q (Nat.le_trans hS.1 h))) U hU hW) (fun H locs hP hD hS => ?_)
    have hP : va_P D vwCl (wM g cA t s y d q k r c o m) H := hP
    have hD : va_D A (wM g cA t s y d q k r c o m) := hD
    obtain rfl := Option.some.inj hE
    exact rt_i hx hb hr hP hS rfl hlocks dX3_ofOne_97
  suffices main : ∀ (H : Heap) (locs : List Loc) (ls : Array Slot), va_P D vwCl (wM g cA t s y d q k r c o m) H → va_D A (wM g cA t s y d q k r c o m) → va_S A S0.heap H locs → lv_has ls 3 [(0, .ref (g 0)), (1, .ref (ad w1)), (2, .int x2)] → W PP l EE (headSpec wsX3_ofOne ({ frames := 1, cells := 0, slots := 0, locals := 21 })).room S0 MM (#[.ref (g 0), .ref (ad w1), .int x2] : Array Value) below meth CC H locs 0 0 (MQ below (cQi D (wM g cA t s y d q k r c o m) A u) (#[.ref (g 0), .ref (ad w1), .int x2] : Array Value) S0 0 0 A) (F0 MM 0 ls []) from main _ _ _ hP hD hS hl
  intro H locs ls hP hD hS hl
  refine va_gets hx hb hX.2.2.2.1 hS hown k0 (fun _ h9 => h9) dX3_ofOne_0 ?_
  refine lv_aload_n hx hb dX3_ofOne_3 rfl (lv_at hl 1 rfl) ?_
  refine cu_i (As := []) (rest := [.ref tS]) (r := wV_ordinal.getD w1 0) ⟨hx, hb, hml, hown, hts⟩ (c_ordinal l w1 (ad w1) H.size) (va_cwU 0 hts gX3_ofOne_Jx29ce0_ordinal_8abf5_u284X10 rfl rfl rfl rfl (by decide +kernel) ⟨Nat.le_of_ble_eq_true rfl, Nat.le_of_ble_eq_true rfl⟩) rfl hl.1 rfl (Nat.le_of_ble_eq_true rfl) dX3_ofOne_4 ⟨Nat.zero_le _, Nat.zero_le _⟩ hP hD hS hA (recvO (hX.2.2.2.2.2.2.1 w1 hw1).2.1 hS) PO_blind (PO_call ((hX.2.2.2.2.2.2.1 w1 hw1).2.2.1 ("java/lang/Enum", "ordinal", "I", wV_ordinal) (List.mem_of_getElem? (i := 0) rfl)) hS hA) (fun H locs hP hD hS => ?_)
  have ⟨c1, hE⟩ := ck_some hE
  refine va_ti hx hb hX.2.2.2.2.1 hS c1 rfl dX3_ofOne_7 ?_
  by_cases c2 : (swm ((wV_ordinal.getD w1 0).toNatClampNeg)) = 41
  · have hE := if_t c2 hE
    refine lv_tableIn (tgt := 52) (off := 44) hx hb dX3_ofOne_8 (by rw [c2]; decide +kernel) (by rw [c2]; decide +kernel) (by rw [c2]; decide +kernel) (by decide) ?_
    refine lv_iload_n hx hb dX3_ofOne_52 rfl (lv_at hl 2 rfl) ?_
    refine lv_ineg hx hb dX3_ofOne_53 ?_
    obtain rfl := Option.some.inj hE
    exact rt_i hx hb hr hP hS rfl hlocks dX3_ofOne_54
  have hE := if_f c2 hE
  by_cases c3 : (swm ((wV_ordinal.getD w1 0).toNatClampNeg)) = 42
  · have hE := if_t c3 hE
    refine lv_tableIn (tgt := 55) (off := 47) hx hb dX3_ofOne_8 (by rw [c3]; decide +kernel) (by rw [c3]; decide +kernel) (by rw [c3]; decide +kernel) (by decide) ?_
    refine lv_iload_n hx hb dX3_ofOne_55 rfl (lv_at hl 2 rfl) ?_
    refine lv_if_ge (tgt := 64) hx hb dX3_ofOne_56 (by decide) (fun c4 => ?_) (fun c4 => ?_)
    · have hE := if_t c4 hE
      refine lv_iload_n hx hb dX3_ofOne_64 rfl (lv_at hl 2 rfl) ?_
      obtain rfl := Option.some.inj hE
      exact rt_i hx hb hr hP hS rfl hlocks dX3_ofOne_65
    · have hE := if_f c4 hE
      refine lv_iload_n hx hb dX3_ofOne_59 rfl (lv_at hl 2 rfl) ?_
      refine lv_ineg hx hb dX3_ofOne_60 ?_
      refine lv_goto (tgt := 65) hx hb dX3_ofOne_61 (by decide) ?_
      obtain rfl := Option.some.inj hE
      exact rt_i hx hb hr hP hS rfl hlocks dX3_ofOne_65
  have hE := if_f c3 hE
  by_cases c5 : (swm ((wV_ordinal.getD w1 0).toNatClampNeg)) = 43
  · have hE := if_t c5 hE
    refine lv_tableIn (tgt := 66) (off := 58) hx hb dX3_ofOne_8 (by rw [c5]; decide +kernel) (by rw [c5]; decide +kernel) (by rw [c5]; decide +kernel) (by decide) ?_
    refine lv_iload_n hx hb dX3_ofOne_66 rfl (lv_at hl 2 rfl) ?_
    refine lv_iconst (v := (-1)) hx hb dX3_ofOne_67 (by decide +kernel) ?_
    refine lv_ixor hx hb dX3_ofOne_68 ?_
    obtain rfl := Option.some.inj hE
    exact rt_i hx hb hr hP hS rfl hlocks dX3_ofOne_69
  have hE := if_f c5 hE
  by_cases c6 : (swm ((wV_ordinal.getD w1 0).toNatClampNeg)) = 44
  · have hE := if_t c6 hE
    refine lv_tableIn (tgt := 70) (off := 62) hx hb dX3_ofOne_8 (by rw [c6]; decide +kernel) (by rw [c6]; decide +kernel) (by rw [c6]; decide +kernel) (by decide) ?_
    refine lv_aload_n hx hb dX3_ofOne_70 rfl (lv_at hl 0 rfl) ?_
    refine lv_iload_n hx hb dX3_ofOne_71 rfl (lv_at hl 2 rfl) ?_
    refine lv_if_ne (tgt := 79) hx hb dX3_ofOne_72 (by decide) (fun c7 => ?_) (fun c7 => ?_)
    · have hE := if_f c7 hE
      refine lv_iconst (v := 0) hx hb dX3_ofOne_79 (by decide +kernel) ?_
      exact w80  0 H locs ls hP hD hS (lv_sub hl [] rfl) hE
    · have hE := if_t c7 hE
      refine lv_iconst (v := 1) hx hb dX3_ofOne_75 (by decide +kernel) ?_
      refine lv_goto (tgt := 80) hx hb dX3_ofOne_76 (by decide) ?_
      exact w80  1 H locs ls hP hD hS (lv_sub hl [] rfl) hE
  have hE := if_f c6 hE
  by_cases c8 : (swm ((wV_ordinal.getD w1 0).toNatClampNeg)) = 45
  · have hE := if_t c8 hE
    refine lv_tableIn (tgt := 84) (off := 76) hx hb dX3_ofOne_8 (by rw [c8]; decide +kernel) (by rw [c8]; decide +kernel) (by rw [c8]; decide +kernel) (by decide) ?_
    refine lv_aload_n hx hb dX3_ofOne_84 rfl (lv_at hl 0 rfl) ?_
    refine lv_iload_n hx hb dX3_ofOne_85 rfl (lv_at hl 2 rfl) ?_
    refine lv_if_ge (tgt := 93) hx hb dX3_ofOne_86 (by decide) (fun c9 => ?_) (fun c9 => ?_)
    · have hE := if_t c9 hE
      refine lv_iconst (v := 0) hx hb dX3_ofOne_93 (by decide +kernel) ?_
      exact w94  0 H locs ls hP hD hS (lv_sub hl [] rfl) hE
    · have hE := if_f c9 hE
      refine lv_iconst (v := 1) hx hb dX3_ofOne_89 (by decide +kernel) ?_
      refine lv_goto (tgt := 94) hx hb dX3_ofOne_90 (by decide) ?_
      exact w94  1 H locs ls hP hD hS (lv_sub hl [] rfl) hE
  have hE := if_f c8 hE
  by_cases c10 : (swm ((wV_ordinal.getD w1 0).toNatClampNeg)) = 46
  · have hE := if_t c10 hE
    refine lv_tableIn (tgt := 98) (off := 90) hx hb dX3_ofOne_8 (by rw [c10]; decide +kernel) (by rw [c10]; decide +kernel) (by rw [c10]; decide +kernel) (by decide) ?_
    refine lv_iload_n hx hb dX3_ofOne_98 rfl (lv_at hl 2 rfl) ?_
    refine lv_iconst (v := 1) hx hb dX3_ofOne_99 (by decide +kernel) ?_
    refine lv_iadd hx hb dX3_ofOne_100 ?_
    obtain rfl := Option.some.inj hE
    exact rt_i hx hb hr hP hS rfl hlocks dX3_ofOne_101
  have hE := if_f c10 hE
  by_cases c11 : (swm ((wV_ordinal.getD w1 0).toNatClampNeg)) = 47
  · have hE := if_t c11 hE
    refine lv_tableIn (tgt := 102) (off := 94) hx hb dX3_ofOne_8 (by rw [c11]; decide +kernel) (by rw [c11]; decide +kernel) (by rw [c11]; decide +kernel) (by decide) ?_
    refine lv_iload_n hx hb dX3_ofOne_102 rfl (lv_at hl 2 rfl) ?_
    refine lv_iconst (v := 1) hx hb dX3_ofOne_103 (by decide +kernel) ?_
    refine lv_isub hx hb dX3_ofOne_104 ?_
    obtain rfl := Option.some.inj hE
    exact rt_i hx hb hr hP hS rfl hlocks dX3_ofOne_105
  have hE := if_f c11 hE
  have tc2 := lv_neT c2 (show (41 : Int32).toInt = 41 by decide +kernel)
  have tc3 := lv_neT c3 (show (42 : Int32).toInt = 42 by decide +kernel)
  have tc5 := lv_neT c5 (show (43 : Int32).toInt = 43 by decide +kernel)
  have tc6 := lv_neT c6 (show (44 : Int32).toInt = 44 by decide +kernel)
  have tc8 := lv_neT c8 (show (45 : Int32).toInt = 45 by decide +kernel)
  have tc10 := lv_neT c10 (show (46 : Int32).toInt = 46 by decide +kernel)
  have tc11 := lv_neT c11 (show (47 : Int32).toInt = 47 by decide +kernel)
  refine lv_tableOut (tgt := 106) hx hb dX3_ofOne_8 (by omega) (by decide) ?_
  refine lv_iload_n hx hb dX3_ofOne_106 rfl (lv_at hl 2 rfl) ?_
  refine lv_iconst (v := 1) hx hb dX3_ofOne_107 (by decide +kernel) ?_
  refine lv_ishl hx hb dX3_ofOne_108 ?_
  obtain rfl := Option.some.inj hE
  exact rt_i hx hb hr hP hS rfl hlocks dX3_ofOne_109
set_option maxHeartbeats 4000000 in
set_option maxRecDepth 100000 in
theorem c_X3_quotientOrRest (l : Launch) (D : va_G) (cA : Nat → ClassId) (ad adK adV : Nat → Nat) (tA tS : Nat) (g : Nat → Nat) (sz : Nat) (w1 : Nat) (x2 : Int32) (x3 : Int32) (t : tT) (s : tR) (y : tY) (d : tD) (q : tP) (k : tK) (r : tR) (c : tC) (o : tO) (m : tM) (u : Int32) (hE : f_X3_quotientOrRest w1 x2 x3 = some u) : Met l yX3_quotientOrRest wsX3_quotientOrRest ({ frames := 0, cells := 0, slots := 0, locals := 0 }) (va_Pc [.ref (g 0), .ref (ad w1), .int x2, .int x3] (PRE D cA (wM g cA t s y d q k r c o m) sz (fun U => SX ad adK adV tA tS (va_A (wM g cA t s y d q k r c o m) sz) U U.heap))) (cQi D (wM g cA t s y d q k r c o m) (va_A (wM g cA t s y d q k r c o m) sz) u) 0 0 (va_A (wM g cA t s y d q k r c o m) sz) := by
  refine Met.ofW (cc := cX3_quotientOrRest) (maxL := 4) (ret := (some .int)) (by decide) rfl ?_
  intro PP EE S0 MM args below meth CC S1 B hml hv
  obtain ⟨rfl, hsz, hP, hK, hD0, hX⟩ := hv
  have hx := B.exec
  have hb := B.bytes
  have hr := B.returns
  have hts := atoms_spec (ws := wsX3_quotientOrRest) B.pre
  have hown : S0.vm.findClass RX3 = some MM.cls := findClass_of_methodNamed B.named
  have hlocks := B.notSynchronized
  subst hsz
  have hD := hD0.self (sz := S0.heap.size)
  have hX : SX ad adK adV tA tS (va_A (wM g cA t s y d q k r c o m) S0.heap.size) S0 S0.heap := hX
  generalize hAe : va_A (wM g cA t s y d q k r c o m) S0.heap.size = A at hD hX ⊢
  have hA : ∀ q : Nat, S0.heap.size ≤ q → A q := fun q h => by rw [← hAe]; exact Or.inr h
  have hS : va_S A S0.heap S0.heap [] := va_S.rf
  have k0 := hts (.fieldLink RX3 324 "WordForge$Word" "DIVIDE" "LWordForge$Word;") (List.mem_of_getElem? (i := 1) rfl)
  have k1 : va_Z "WordForge$Word" "DIVIDE" "LWordForge$Word;" (.ref (ad 26)) A S0 S0.heap := (hX.2.2.2.2.2.2.1 26 (by decide)).1
  have hl := lv_entry ([.ref (g 0), .ref (ad w1), .int x2, .int x3]) (n := 4) (Nat.le_of_ble_eq_true rfl)
  rw [lg_entry_eq]
  generalize (lg_sl ([.ref (g 0), .ref (ad w1), .int x2, .int x3]) ++ List.replicate (4 - (lg_sl ([.ref (g 0), .ref (ad w1), .int x2, .int x3])).length) Slot.unset).toArray = ls at hl ⊢
  have hl : lv_has ls 4 [(0, .ref (g 0)), (1, .ref (ad w1)), (2, .int x2), (3, .int x3)] := hl
  unfold f_X3_quotientOrRest at hE
  have ⟨hw1, hE⟩ := ck_some hE
  suffices main : ∀ (H : Heap) (locs : List Loc) (ls : Array Slot), va_P D vwCl (wM g cA t s y d q k r c o m) H → va_D A (wM g cA t s y d q k r c o m) → va_S A S0.heap H locs → lv_has ls 4 [(0, .ref (g 0)), (1, .ref (ad w1)), (2, .int x2), (3, .int x3)] → W PP l EE (headSpec wsX3_quotientOrRest ({ frames := 0, cells := 0, slots := 0, locals := 0 })).room S0 MM (#[.ref (g 0), .ref (ad w1), .int x2, .int x3] : Array Value) below meth CC H locs 0 0 (MQ below (cQi D (wM g cA t s y d q k r c o m) A u) (#[.ref (g 0), .ref (ad w1), .int x2, .int x3] : Array Value) S0 0 0 A) (F0 MM 0 ls []) from main _ _ _ hP hD hS hl
  intro H locs ls hP hD hS hl
  refine lv_iload_n hx hb dX3_quotientOrRest_0 rfl (lv_at hl 3 rfl) ?_
  refine lv_if_ne (tgt := 6) hx hb dX3_quotientOrRest_1 (by decide) (fun c1 => ?_) (fun c1 => ?_)
  · have hE := if_f c1 hE
    refine lv_aload_n hx hb dX3_quotientOrRest_6 rfl (lv_at hl 1 rfl) ?_
    refine va_gets hx hb k1 hS hown k0 (fun _ h9 => h9) dX3_quotientOrRest_7 ?_
    refine lv_acmp_ne (rx := some (ad w1)) (ry := some (ad 26)) (tgt := 19) hx hb dX3_quotientOrRest_10 (by decide) (fun c2 => ?_) (fun c2 => ?_)
    · have c2 : ¬ w1 = 26 := fun h => c2 (by rw [h])
      have hE := if_f c2 hE
      refine lv_iload_n hx hb dX3_quotientOrRest_19 rfl (lv_at hl 2 rfl) ?_
      refine lv_iload_n hx hb dX3_quotientOrRest_20 rfl (lv_at hl 3 rfl) ?_
      have ⟨c3, hE⟩ := ck_some hE
      refine lv_irem hx hb dX3_quotientOrRest_21 c3 ?_
      obtain rfl := Option.some.inj hE
      exact rt_i hx hb hr hP hS rfl hlocks dX3_quotientOrRest_22
    · have c2 := hX.2.2.2.2.2.2.2.1 w1 26 hw1 (show 26 < 82 by decide) (Option.some.inj c2)
      have hE := if_t c2 hE
      refine lv_iload_n hx hb dX3_quotientOrRest_13 rfl (lv_at hl 2 rfl) ?_
      refine lv_iload_n hx hb dX3_quotientOrRest_14 rfl (lv_at hl 3 rfl) ?_
      have ⟨c4, hE⟩ := ck_some hE
      refine lv_idiv hx hb dX3_quotientOrRest_15 c4 ?_
      refine lv_goto (tgt := 22) hx hb dX3_quotientOrRest_16 (by decide) ?_
      obtain rfl := Option.some.inj hE
      exact rt_i hx hb hr hP hS rfl hlocks dX3_quotientOrRest_22
  · have hE := if_t c1 hE
    refine lv_iconst (v := 0) hx hb dX3_quotientOrRest_4 (by decide +kernel) ?_
    obtain rfl := Option.some.inj hE
    exact rt_i hx hb hr hP hS rfl hlocks dX3_quotientOrRest_5
set_option maxRecDepth 20000 in
theorem hX3_ofTwo_X3_truth_320 : GoodIn wsX3_ofTwo (wsV RX3 320 RX3 yX3_truth wsX3_truth) := goodIn_r _ [10, 11, 12, 13, 14] rfl (by decide +kernel)
set_option maxHeartbeats 4000000 in
set_option maxRecDepth 100000 in
theorem c_X3_ofTwo (l : Launch) (D : va_G) (cA : Nat → ClassId) (ad adK adV : Nat → Nat) (tA tS : Nat) (g : Nat → Nat) (sz : Nat) (w1 : Nat) (x2 : Int32) (x3 : Int32) (t : tT) (s : tR) (y : tY) (d : tD) (q : tP) (k : tK) (r : tR) (c : tC) (o : tO) (m : tM) (u : Int32) (hE : f_X3_ofTwo w1 x2 x3 = some u) : Met l yX3_ofTwo wsX3_ofTwo ({ frames := 1, cells := 0, slots := 0, locals := 21 }) (va_Pc [.ref (g 0), .ref (ad w1), .int x2, .int x3] (PRE D cA (wM g cA t s y d q k r c o m) sz (fun U => SX ad adK adV tA tS (va_A (wM g cA t s y d q k r c o m) sz) U U.heap))) (cQi D (wM g cA t s y d q k r c o m) (va_A (wM g cA t s y d q k r c o m) sz) u) 0 0 (va_A (wM g cA t s y d q k r c o m) sz) := by
  refine Met.ofW (cc := cX3_ofTwo) (maxL := 4) (ret := (some .int)) (by decide) rfl ?_
  intro PP EE S0 MM args below meth CC S1 B hml hv
  obtain ⟨rfl, hsz, hP, hK, hD0, hX⟩ := hv
  have hx := B.exec
  have hb := B.bytes
  have hr := B.returns
  have hts := atoms_spec (ws := wsX3_ofTwo) B.pre
  have hown : S0.vm.findClass RX3 = some MM.cls := findClass_of_methodNamed B.named
  have hlocks := B.notSynchronized
  subst hsz
  have hD := hD0.self (sz := S0.heap.size)
  have hX : SX ad adK adV tA tS (va_A (wM g cA t s y d q k r c o m) S0.heap.size) S0 S0.heap := hX
  generalize hAe : va_A (wM g cA t s y d q k r c o m) S0.heap.size = A at hD hX ⊢
  have hA : ∀ q : Nat, S0.heap.size ≤ q → A q := fun q h => by rw [← hAe]; exact Or.inr h
  have hS : va_S A S0.heap S0.heap [] := va_S.rf
  have k0 := hts (.fieldLink RX3 279 "WordForge$1" "$SwitchMap$WordForge$Word" "[I") (List.mem_of_getElem? (i := 1) rfl)
  have k1 := hts (.constant RX3 338 (-2147483648)) (List.mem_of_getElem? (i := 2) rfl)
  have hl := lv_entry ([.ref (g 0), .ref (ad w1), .int x2, .int x3]) (n := 4) (Nat.le_of_ble_eq_true rfl)
  rw [lg_entry_eq]
  generalize (lg_sl ([.ref (g 0), .ref (ad w1), .int x2, .int x3]) ++ List.replicate (4 - (lg_sl ([.ref (g 0), .ref (ad w1), .int x2, .int x3])).length) Slot.unset).toArray = ls at hl ⊢
  have hl : lv_has ls 4 [(0, .ref (g 0)), (1, .ref (ad w1)), (2, .int x2), (3, .int x3)] := hl
  unfold f_X3_ofTwo at hE
  have ⟨hw1, hE⟩ := ck_some hE
  have w121 : ∀ (z0 : Int32) (H : Heap) (locs : List Loc) (ls : Array Slot), va_P D vwCl (wM g cA t s y d q k r c o m) H → va_D A (wM g cA t s y d q k r c o m) → va_S A S0.heap H locs → lv_has ls 4 [] → b_X3_ofTwo_121 w1 z0 = some u → W PP l EE (headSpec wsX3_ofTwo ({ frames := 1, cells := 0, slots := 0, locals := 21 })).room S0 MM (#[.ref (g 0), .ref (ad w1), .int x2, .int x3] : Array Value) below meth CC H locs 0 0 (MQ below (cQi D (wM g cA t s y d q k r c o m) A u) (#[.ref (g 0), .ref (ad w1), .int x2, .int x3] : Array Value) S0 0 0 A) (F0 MM 121 ls [.int z0, .ref (g 0)]) := by
    intro z0
    intro H locs ls hP hD hS hl hE
    unfold b_X3_ofTwo_121 at hE
    obtain ⟨u17, h18, hE⟩ := bd_some hE
    refine cw_i (As := [.int z0]) (rest := []) (r := u17) (wc := (wM g cA t s y d q k r c o m)) ⟨hx, hb, hml, hown, hts⟩ (c_X3_truth l D cA ad adK adV tA tS g H.size z0 t s y d q k r c o m u17 h18) (cwV 1 hts hX3_ofTwo_X3_truth_320 rfl rfl rfl (by decide +kernel) ⟨Nat.le_of_ble_eq_true rfl, Nat.le_of_ble_eq_true rfl⟩) rfl hl.1 rfl (Nat.le_of_ble_eq_true rfl) dX3_ofTwo_121 ⟨Nat.zero_le _, Nat.zero_le _⟩ hK hP hD hS hA (va_recv hK hP (ci := 2) (q0 := 0) rfl rfl) [g 0, g 1, g 2, g 3, g 4, g 5, g 6, g 7, g 8, g 9, g 10, g 11, g 12, g 13, g 14, g 15, g 16, g 17, g 18, g 19, g 20, g 21, g 22, g 23, g 24, g 25, g 26, g 27] rfl rfl (fun a U g mk h => SX.blind a U g mk h) (fun U hU hW => SX.call hX hS (fun q h => h.elim (fun ⟨k, e, h⟩ => hD.2 k (q, e) h) (fun h => hA q (Nat.le_trans hS.1 h))) U hU hW) (fun H locs hP hD hS => ?_)
    have hP : va_P D vwCl (wM g cA t s y d q k r c o m) H := hP
    have hD : va_D A (wM g cA t s y d q k r c o m) := hD
    obtain rfl := Option.some.inj hE
    exact rt_i hx hb hr hP hS rfl hlocks dX3_ofTwo_124
  have w136 : ∀ (z0 : Int32) (H : Heap) (locs : List Loc) (ls : Array Slot), va_P D vwCl (wM g cA t s y d q k r c o m) H → va_D A (wM g cA t s y d q k r c o m) → va_S A S0.heap H locs → lv_has ls 4 [] → b_X3_ofTwo_136 w1 z0 = some u → W PP l EE (headSpec wsX3_ofTwo ({ frames := 1, cells := 0, slots := 0, locals := 21 })).room S0 MM (#[.ref (g 0), .ref (ad w1), .int x2, .int x3] : Array Value) below meth CC H locs 0 0 (MQ below (cQi D (wM g cA t s y d q k r c o m) A u) (#[.ref (g 0), .ref (ad w1), .int x2, .int x3] : Array Value) S0 0 0 A) (F0 MM 136 ls [.int z0, .ref (g 0)]) := by
    intro z0
    intro H locs ls hP hD hS hl hE
    unfold b_X3_ofTwo_136 at hE
    obtain ⟨u19, h20, hE⟩ := bd_some hE
    refine cw_i (As := [.int z0]) (rest := []) (r := u19) (wc := (wM g cA t s y d q k r c o m)) ⟨hx, hb, hml, hown, hts⟩ (c_X3_truth l D cA ad adK adV tA tS g H.size z0 t s y d q k r c o m u19 h20) (cwV 1 hts hX3_ofTwo_X3_truth_320 rfl rfl rfl (by decide +kernel) ⟨Nat.le_of_ble_eq_true rfl, Nat.le_of_ble_eq_true rfl⟩) rfl hl.1 rfl (Nat.le_of_ble_eq_true rfl) dX3_ofTwo_136 ⟨Nat.zero_le _, Nat.zero_le _⟩ hK hP hD hS hA (va_recv hK hP (ci := 2) (q0 := 0) rfl rfl) [g 0, g 1, g 2, g 3, g 4, g 5, g 6, g 7, g 8, g 9, g 10, g 11, g 12, g 13, g 14, g 15, g 16, g 17, g 18, g 19, g 20, g 21, g 22, g 23, g 24, g 25, g 26, g 27] rfl rfl (fun a U g mk h => SX.blind a U g mk h) (fun U hU hW => SX.call hX hS (fun q h => h.elim (fun ⟨k, e, h⟩ => hD.2 k (q, e) h) (fun h => hA q (Nat.le_trans hS.1 h))) U hU hW) (fun H locs hP hD hS => ?_)
    have hP : va_P D vwCl (wM g cA t s y d q k r c o m) H := hP
    have hD : va_D A (wM g cA t s y d q k r c o m) := hD
    obtain rfl := Option.some.inj hE
    exact rt_i hx hb hr hP hS rfl hlocks dX3_ofTwo_139
  have w159 : ∀ (z0 : Int32) (H : Heap) (locs : List Loc) (ls : Array Slot), va_P D vwCl (wM g cA t s y d q k r c o m) H → va_D A (wM g cA t s y d q k r c o m) → va_S A S0.heap H locs → lv_has ls 4 [] → b_X3_ofTwo_159 w1 z0 = some u → W PP l EE (headSpec wsX3_ofTwo ({ frames := 1, cells := 0, slots := 0, locals := 21 })).room S0 MM (#[.ref (g 0), .ref (ad w1), .int x2, .int x3] : Array Value) below meth CC H locs 0 0 (MQ below (cQi D (wM g cA t s y d q k r c o m) A u) (#[.ref (g 0), .ref (ad w1), .int x2, .int x3] : Array Value) S0 0 0 A) (F0 MM 159 ls [.int z0, .ref (g 0)]) := by
    intro z0
    intro H locs ls hP hD hS hl hE
    unfold b_X3_ofTwo_159 at hE
    obtain ⟨u21, h22, hE⟩ := bd_some hE
    refine cw_i (As := [.int z0]) (rest := []) (r := u21) (wc := (wM g cA t s y d q k r c o m)) ⟨hx, hb, hml, hown, hts⟩ (c_X3_truth l D cA ad adK adV tA tS g H.size z0 t s y d q k r c o m u21 h22) (cwV 1 hts hX3_ofTwo_X3_truth_320 rfl rfl rfl (by decide +kernel) ⟨Nat.le_of_ble_eq_true rfl, Nat.le_of_ble_eq_true rfl⟩) rfl hl.1 rfl (Nat.le_of_ble_eq_true rfl) dX3_ofTwo_159 ⟨Nat.zero_le _, Nat.zero_le _⟩ hK hP hD hS hA (va_recv hK hP (ci := 2) (q0 := 0) rfl rfl) [g 0, g 1, g 2, g 3, g 4, g 5, g 6, g 7, g 8, g 9, g 10, g 11, g 12, g 13, g 14, g 15, g 16, g 17, g 18, g 19, g 20, g 21, g 22, g 23, g 24, g 25, g 26, g 27] rfl rfl (fun a U g mk h => SX.blind a U g mk h) (fun U hU hW => SX.call hX hS (fun q h => h.elim (fun ⟨k, e, h⟩ => hD.2 k (q, e) h) (fun h => hA q (Nat.le_trans hS.1 h))) U hU hW) (fun H locs hP hD hS => ?_)
    have hP : va_P D vwCl (wM g cA t s y d q k r c o m) H := hP
    have hD : va_D A (wM g cA t s y d q k r c o m) := hD
    obtain rfl := Option.some.inj hE
    exact rt_i hx hb hr hP hS rfl hlocks dX3_ofTwo_162
  suffices main : ∀ (H : Heap) (locs : List Loc) (ls : Array Slot), va_P D vwCl (wM g cA t s y d q k r c o m) H → va_D A (wM g cA t s y d q k r c o m) → va_S A S0.heap H locs → lv_has ls 4 [(0, .ref (g 0)), (1, .ref (ad w1)), (2, .int x2), (3, .int x3)] → W PP l EE (headSpec wsX3_ofTwo ({ frames := 1, cells := 0, slots := 0, locals := 21 })).room S0 MM (#[.ref (g 0), .ref (ad w1), .int x2, .int x3] : Array Value) below meth CC H locs 0 0 (MQ below (cQi D (wM g cA t s y d q k r c o m) A u) (#[.ref (g 0), .ref (ad w1), .int x2, .int x3] : Array Value) S0 0 0 A) (F0 MM 0 ls []) from main _ _ _ hP hD hS hl
  intro H locs ls hP hD hS hl
  refine va_gets hx hb hX.2.2.2.1 hS hown k0 (fun _ h9 => h9) dX3_ofTwo_0 ?_
  refine lv_aload_n hx hb dX3_ofTwo_3 rfl (lv_at hl 1 rfl) ?_
  refine cu_i (As := []) (rest := [.ref tS]) (r := wV_ordinal.getD w1 0) ⟨hx, hb, hml, hown, hts⟩ (c_ordinal l w1 (ad w1) H.size) (va_cwU 0 hts gX3_ofTwo_Jx29ce0_ordinal_8abf5_u284X10 rfl rfl rfl rfl (by decide +kernel) ⟨Nat.le_of_ble_eq_true rfl, Nat.le_of_ble_eq_true rfl⟩) rfl hl.1 rfl (Nat.le_of_ble_eq_true rfl) dX3_ofTwo_4 ⟨Nat.zero_le _, Nat.zero_le _⟩ hP hD hS hA (recvO (hX.2.2.2.2.2.2.1 w1 hw1).2.1 hS) PO_blind (PO_call ((hX.2.2.2.2.2.2.1 w1 hw1).2.2.1 ("java/lang/Enum", "ordinal", "I", wV_ordinal) (List.mem_of_getElem? (i := 0) rfl)) hS hA) (fun H locs hP hD hS => ?_)
  have ⟨c1, hE⟩ := ck_some hE
  refine va_ti hx hb hX.2.2.2.2.1 hS c1 rfl dX3_ofTwo_7 ?_
  by_cases c2 : (swm ((wV_ordinal.getD w1 0).toNatClampNeg)) = 48
  · have hE := if_t c2 hE
    refine lv_tableIn (tgt := 64) (off := 56) hx hb dX3_ofTwo_8 (by rw [c2]; decide +kernel) (by rw [c2]; decide +kernel) (by rw [c2]; decide +kernel) (by decide) ?_
    refine lv_iload_n hx hb dX3_ofTwo_64 rfl (lv_at hl 2 rfl) ?_
    refine lv_iload_n hx hb dX3_ofTwo_65 rfl (lv_at hl 3 rfl) ?_
    refine lv_iadd hx hb dX3_ofTwo_66 ?_
    obtain rfl := Option.some.inj hE
    exact rt_i hx hb hr hP hS rfl hlocks dX3_ofTwo_67
  have hE := if_f c2 hE
  by_cases c3 : (swm ((wV_ordinal.getD w1 0).toNatClampNeg)) = 49
  · have hE := if_t c3 hE
    refine lv_tableIn (tgt := 68) (off := 60) hx hb dX3_ofTwo_8 (by rw [c3]; decide +kernel) (by rw [c3]; decide +kernel) (by rw [c3]; decide +kernel) (by decide) ?_
    refine lv_iload_n hx hb dX3_ofTwo_68 rfl (lv_at hl 2 rfl) ?_
    refine lv_iload_n hx hb dX3_ofTwo_69 rfl (lv_at hl 3 rfl) ?_
    refine lv_isub hx hb dX3_ofTwo_70 ?_
    obtain rfl := Option.some.inj hE
    exact rt_i hx hb hr hP hS rfl hlocks dX3_ofTwo_71
  have hE := if_f c3 hE
  by_cases c4 : (swm ((wV_ordinal.getD w1 0).toNatClampNeg)) = 50
  · have hE := if_t c4 hE
    refine lv_tableIn (tgt := 72) (off := 64) hx hb dX3_ofTwo_8 (by rw [c4]; decide +kernel) (by rw [c4]; decide +kernel) (by rw [c4]; decide +kernel) (by decide) ?_
    refine lv_iload_n hx hb dX3_ofTwo_72 rfl (lv_at hl 2 rfl) ?_
    refine lv_iload_n hx hb dX3_ofTwo_73 rfl (lv_at hl 3 rfl) ?_
    refine lv_imul hx hb dX3_ofTwo_74 ?_
    obtain rfl := Option.some.inj hE
    exact rt_i hx hb hr hP hS rfl hlocks dX3_ofTwo_75
  have hE := if_f c4 hE
  by_cases c5 : (swm ((wV_ordinal.getD w1 0).toNatClampNeg)) = 51
  · have hE := if_t c5 hE
    refine lv_tableIn (tgt := 76) (off := 68) hx hb dX3_ofTwo_8 (by rw [c5]; decide +kernel) (by rw [c5]; decide +kernel) (by rw [c5]; decide +kernel) (by decide) ?_
    refine lv_iload_n hx hb dX3_ofTwo_76 rfl (lv_at hl 2 rfl) ?_
    refine lv_iload_n hx hb dX3_ofTwo_77 rfl (lv_at hl 3 rfl) ?_
    refine lv_icmp_ge (tgt := 85) hx hb dX3_ofTwo_78 (by decide) (fun c6 => ?_) (fun c6 => ?_)
    · have hE := if_t c6 hE
      refine lv_iload_n hx hb dX3_ofTwo_85 rfl (lv_at hl 3 rfl) ?_
      obtain rfl := Option.some.inj hE
      exact rt_i hx hb hr hP hS rfl hlocks dX3_ofTwo_86
    · have hE := if_f c6 hE
      refine lv_iload_n hx hb dX3_ofTwo_81 rfl (lv_at hl 2 rfl) ?_
      refine lv_goto (tgt := 86) hx hb dX3_ofTwo_82 (by decide) ?_
      obtain rfl := Option.some.inj hE
      exact rt_i hx hb hr hP hS rfl hlocks dX3_ofTwo_86
  have hE := if_f c5 hE
  by_cases c7 : (swm ((wV_ordinal.getD w1 0).toNatClampNeg)) = 52
  · have hE := if_t c7 hE
    refine lv_tableIn (tgt := 87) (off := 79) hx hb dX3_ofTwo_8 (by rw [c7]; decide +kernel) (by rw [c7]; decide +kernel) (by rw [c7]; decide +kernel) (by decide) ?_
    refine lv_iload_n hx hb dX3_ofTwo_87 rfl (lv_at hl 2 rfl) ?_
    refine lv_iload_n hx hb dX3_ofTwo_88 rfl (lv_at hl 3 rfl) ?_
    refine lv_icmp_le (tgt := 96) hx hb dX3_ofTwo_89 (by decide) (fun c8 => ?_) (fun c8 => ?_)
    · have hE := if_t c8 hE
      refine lv_iload_n hx hb dX3_ofTwo_96 rfl (lv_at hl 3 rfl) ?_
      obtain rfl := Option.some.inj hE
      exact rt_i hx hb hr hP hS rfl hlocks dX3_ofTwo_97
    · have hE := if_f c8 hE
      refine lv_iload_n hx hb dX3_ofTwo_92 rfl (lv_at hl 2 rfl) ?_
      refine lv_goto (tgt := 97) hx hb dX3_ofTwo_93 (by decide) ?_
      obtain rfl := Option.some.inj hE
      exact rt_i hx hb hr hP hS rfl hlocks dX3_ofTwo_97
  have hE := if_f c7 hE
  by_cases c9 : (swm ((wV_ordinal.getD w1 0).toNatClampNeg)) = 53
  · have hE := if_t c9 hE
    refine lv_tableIn (tgt := 98) (off := 90) hx hb dX3_ofTwo_8 (by rw [c9]; decide +kernel) (by rw [c9]; decide +kernel) (by rw [c9]; decide +kernel) (by decide) ?_
    refine lv_iload_n hx hb dX3_ofTwo_98 rfl (lv_at hl 2 rfl) ?_
    refine lv_iload_n hx hb dX3_ofTwo_99 rfl (lv_at hl 3 rfl) ?_
    refine lv_iand hx hb dX3_ofTwo_100 ?_
    obtain rfl := Option.some.inj hE
    exact rt_i hx hb hr hP hS rfl hlocks dX3_ofTwo_101
  have hE := if_f c9 hE
  by_cases c10 : (swm ((wV_ordinal.getD w1 0).toNatClampNeg)) = 54
  · have hE := if_t c10 hE
    refine lv_tableIn (tgt := 102) (off := 94) hx hb dX3_ofTwo_8 (by rw [c10]; decide +kernel) (by rw [c10]; decide +kernel) (by rw [c10]; decide +kernel) (by decide) ?_
    refine lv_iload_n hx hb dX3_ofTwo_102 rfl (lv_at hl 2 rfl) ?_
    refine lv_iload_n hx hb dX3_ofTwo_103 rfl (lv_at hl 3 rfl) ?_
    refine lv_ior hx hb dX3_ofTwo_104 ?_
    obtain rfl := Option.some.inj hE
    exact rt_i hx hb hr hP hS rfl hlocks dX3_ofTwo_105
  have hE := if_f c10 hE
  by_cases c11 : (swm ((wV_ordinal.getD w1 0).toNatClampNeg)) = 55
  · have hE := if_t c11 hE
    refine lv_tableIn (tgt := 106) (off := 98) hx hb dX3_ofTwo_8 (by rw [c11]; decide +kernel) (by rw [c11]; decide +kernel) (by rw [c11]; decide +kernel) (by decide) ?_
    refine lv_iload_n hx hb dX3_ofTwo_106 rfl (lv_at hl 2 rfl) ?_
    refine lv_iload_n hx hb dX3_ofTwo_107 rfl (lv_at hl 3 rfl) ?_
    refine lv_ixor hx hb dX3_ofTwo_108 ?_
    obtain rfl := Option.some.inj hE
    exact rt_i hx hb hr hP hS rfl hlocks dX3_ofTwo_109
  have hE := if_f c11 hE
  by_cases c12 : (swm ((wV_ordinal.getD w1 0).toNatClampNeg)) = 56
  · have hE := if_t c12 hE
    refine lv_tableIn (tgt := 110) (off := 102) hx hb dX3_ofTwo_8 (by rw [c12]; decide +kernel) (by rw [c12]; decide +kernel) (by rw [c12]; decide +kernel) (by decide) ?_
    refine lv_aload_n hx hb dX3_ofTwo_110 rfl (lv_at hl 0 rfl) ?_
    refine lv_iload_n hx hb dX3_ofTwo_111 rfl (lv_at hl 2 rfl) ?_
    refine lv_iload_n hx hb dX3_ofTwo_112 rfl (lv_at hl 3 rfl) ?_
    refine lv_icmp_ne (tgt := 120) hx hb dX3_ofTwo_113 (by decide) (fun c13 => ?_) (fun c13 => ?_)
    · have hE := if_f c13 hE
      refine lv_iconst (v := 0) hx hb dX3_ofTwo_120 (by decide +kernel) ?_
      exact w121  0 H locs ls hP hD hS (lv_sub hl [] rfl) hE
    · have hE := if_t c13 hE
      refine lv_iconst (v := 1) hx hb dX3_ofTwo_116 (by decide +kernel) ?_
      refine lv_goto (tgt := 121) hx hb dX3_ofTwo_117 (by decide) ?_
      exact w121  1 H locs ls hP hD hS (lv_sub hl [] rfl) hE
  have hE := if_f c12 hE
  by_cases c14 : (swm ((wV_ordinal.getD w1 0).toNatClampNeg)) = 57
  · have hE := if_t c14 hE
    refine lv_tableIn (tgt := 125) (off := 117) hx hb dX3_ofTwo_8 (by rw [c14]; decide +kernel) (by rw [c14]; decide +kernel) (by rw [c14]; decide +kernel) (by decide) ?_
    refine lv_aload_n hx hb dX3_ofTwo_125 rfl (lv_at hl 0 rfl) ?_
    refine lv_iload_n hx hb dX3_ofTwo_126 rfl (lv_at hl 2 rfl) ?_
    refine lv_iload_n hx hb dX3_ofTwo_127 rfl (lv_at hl 3 rfl) ?_
    refine lv_icmp_ge (tgt := 135) hx hb dX3_ofTwo_128 (by decide) (fun c15 => ?_) (fun c15 => ?_)
    · have hE := if_t c15 hE
      refine lv_iconst (v := 0) hx hb dX3_ofTwo_135 (by decide +kernel) ?_
      exact w136  0 H locs ls hP hD hS (lv_sub hl [] rfl) hE
    · have hE := if_f c15 hE
      refine lv_iconst (v := 1) hx hb dX3_ofTwo_131 (by decide +kernel) ?_
      refine lv_goto (tgt := 136) hx hb dX3_ofTwo_132 (by decide) ?_
      exact w136  1 H locs ls hP hD hS (lv_sub hl [] rfl) hE
  have hE := if_f c14 hE
  have tc2 := lv_neT c2 (show (48 : Int32).toInt = 48 by decide +kernel)
  have tc3 := lv_neT c3 (show (49 : Int32).toInt = 49 by decide +kernel)
  have tc4 := lv_neT c4 (show (50 : Int32).toInt = 50 by decide +kernel)
  have tc5 := lv_neT c5 (show (51 : Int32).toInt = 51 by decide +kernel)
  have tc7 := lv_neT c7 (show (52 : Int32).toInt = 52 by decide +kernel)
  have tc9 := lv_neT c9 (show (53 : Int32).toInt = 53 by decide +kernel)
  have tc10 := lv_neT c10 (show (54 : Int32).toInt = 54 by decide +kernel)
  have tc11 := lv_neT c11 (show (55 : Int32).toInt = 55 by decide +kernel)
  have tc12 := lv_neT c12 (show (56 : Int32).toInt = 56 by decide +kernel)
  have tc14 := lv_neT c14 (show (57 : Int32).toInt = 57 by decide +kernel)
  refine lv_tableOut (tgt := 140) hx hb dX3_ofTwo_8 (by omega) (by decide) ?_
  refine lv_aload_n hx hb dX3_ofTwo_140 rfl (lv_at hl 0 rfl) ?_
  refine lv_iload_n hx hb dX3_ofTwo_141 rfl (lv_at hl 2 rfl) ?_
  refine lv_ldcw (v := (-2147483648)) hx hb hown k1 dX3_ofTwo_142 ?_
  refine lv_ixor hx hb dX3_ofTwo_145 ?_
  refine lv_iload_n hx hb dX3_ofTwo_146 rfl (lv_at hl 3 rfl) ?_
  refine lv_ldcw (v := (-2147483648)) hx hb hown k1 dX3_ofTwo_147 ?_
  refine lv_ixor hx hb dX3_ofTwo_150 ?_
  refine lv_icmp_ge (tgt := 158) hx hb dX3_ofTwo_151 (by decide) (fun c16 => ?_) (fun c16 => ?_)
  · have hE := if_t c16 hE
    refine lv_iconst (v := 0) hx hb dX3_ofTwo_158 (by decide +kernel) ?_
    exact w159  0 H locs ls hP hD hS (lv_sub hl [] rfl) hE
  · have hE := if_f c16 hE
    refine lv_iconst (v := 1) hx hb dX3_ofTwo_154 (by decide +kernel) ?_
    refine lv_goto (tgt := 159) hx hb dX3_ofTwo_155 (by decide) ?_
    exact w159  1 H locs ls hP hD hS (lv_sub hl [] rfl) hE
set_option maxRecDepth 20000 in
theorem hX3_reckonWithTwo_X8_fromTop_212 : GoodIn wsX3_reckonWithTwo (wsV RX3 212 RX8 yX8_fromTop wsX8_fromTop) := goodIn_r _ [4, 5, 6, 7, 8, 9, 10, 61, 62, 63] rfl (by decide +kernel)
set_option maxRecDepth 20000 in
theorem hX3_reckonWithTwo_X8_take_305 : GoodIn wsX3_reckonWithTwo (wsV RX3 305 RX8 yX8_take wsX8_take) := goodIn_r _ [11, 12, 13, 7, 14, 15, 5, 6, 7, 8, 9, 10, 16, 17, 18, 19, 61, 62, 63] rfl (by decide +kernel)
set_option maxRecDepth 20000 in
theorem hX3_reckonWithTwo_X3_quotientOrRest_331 : GoodIn wsX3_reckonWithTwo (wsV RX3 331 RX3 yX3_quotientOrRest wsX3_quotientOrRest) := goodIn_r _ [20, 21, 22, 23, 24, 1] rfl (by decide +kernel)
set_option maxRecDepth 20000 in
theorem hX3_reckonWithTwo_X3_ofTwo_335 : GoodIn wsX3_reckonWithTwo (wsV RX3 335 RX3 yX3_ofTwo wsX3_ofTwo) := goodIn_r _ [25, 26, 27, 23, 28, 29, 30, 31, 32, 33, 34, 35, 36, 37, 38, 39, 40, 23, 41] rfl (by decide +kernel)
set_option maxRecDepth 20000 in
theorem hX3_reckonWithTwo_X8_put_120 : GoodIn wsX3_reckonWithTwo (wsV RX3 120 RX8 yX8_put wsX8_put) := goodIn_r _ [42, 43, 44, 7, 45, 9, 46, 10, 61, 62, 63] rfl (by decide +kernel)
set_option maxHeartbeats 4000000 in
set_option maxRecDepth 100000 in
theorem c_X3_reckonWithTwo (l : Launch) (D : va_G) (cA : Nat → ClassId) (ad adK adV : Nat → Nat) (tA tS : Nat) (g : Nat → Nat) (sz : Nat) (w1 : Nat) (t : tT) (s : tR) (y : tY) (d : tD) (q : tP) (k : tK) (r : tR) (c : tC) (o : tO) (m : tM) (u : Int32 × tR) (hE : f_X3_reckonWithTwo w1 s = some u) : Met l yX3_reckonWithTwo wsX3_reckonWithTwo ({ frames := 2, cells := 0, slots := 0, locals := 44 }) (va_Pc [.ref (g 0), .ref (ad w1)] (PRE D cA (wM g cA t s y d q k r c o m) sz (fun U => SX ad adK adV tA tS (va_A (wM g cA t s y d q k r c o m) sz) U U.heap))) (cQi D (wM g cA t u.2 y d q k r c o m) (va_A (wM g cA t s y d q k r c o m) sz) u.1) 0 0 (va_A (wM g cA t s y d q k r c o m) sz) := by
  refine Met.ofW (cc := cX3_reckonWithTwo) (maxL := 5) (ret := (some .int)) (by decide) rfl ?_
  intro PP EE S0 MM args below meth CC S1 B hml hv
  obtain ⟨rfl, hsz, hP, hK, hD0, hX⟩ := hv
  have hx := B.exec
  have hb := B.bytes
  have hr := B.returns
  have hts := atoms_spec (ws := wsX3_reckonWithTwo) B.pre
  have hown : S0.vm.findClass RX3 = some MM.cls := findClass_of_methodNamed B.named
  have hlocks := B.notSynchronized
  subst hsz
  have hD := hD0.self (sz := S0.heap.size)
  have hX : SX ad adK adV tA tS (va_A (wM g cA t s y d q k r c o m) S0.heap.size) S0 S0.heap := hX
  generalize hAe : va_A (wM g cA t s y d q k r c o m) S0.heap.size = A at hD hX ⊢
  have hA : ∀ q : Nat, S0.heap.size ≤ q → A q := fun q h => by rw [← hAe]; exact Or.inr h
  have hS : va_S A S0.heap S0.heap [] := va_S.rf
  have k0 := hts (.fieldLink RX3 324 "WordForge$Word" "DIVIDE" "LWordForge$Word;") (List.mem_of_getElem? (i := 1) rfl)
  have k1 : va_Z "WordForge$Word" "DIVIDE" "LWordForge$Word;" (.ref (ad 26)) A S0 S0.heap := (hX.2.2.2.2.2.2.1 26 (by decide)).1
  have k2 := hts (.fieldLink RX3 328 "WordForge$Word" "REMAINDER" "LWordForge$Word;") (List.mem_of_getElem? (i := 2) rfl)
  have k3 : va_Z "WordForge$Word" "REMAINDER" "LWordForge$Word;" (.ref (ad 27)) A S0 S0.heap := (hX.2.2.2.2.2.2.1 27 (by decide)).1
  have k4 := hts (.fieldLink RX3 23 "WordForge$Machine" "stack" "LWordForge$Row;") (List.mem_of_getElem? (i := 3) rfl)
  have inX3 : ∀ w ∈ wsX30, w ∈ wsX3_reckonWithTwo := fun _ h => List.mem_cons_of_mem _ (List.mem_append_left _ (List.mem_append_right _ h))
  have hl := lv_entry ([.ref (g 0), .ref (ad w1)]) (n := 5) (Nat.le_of_ble_eq_true rfl)
  rw [lg_entry_eq]
  generalize (lg_sl ([.ref (g 0), .ref (ad w1)]) ++ List.replicate (5 - (lg_sl ([.ref (g 0), .ref (ad w1)])).length) Slot.unset).toArray = ls at hl ⊢
  have hl : lv_has ls 5 [(0, .ref (g 0)), (1, .ref (ad w1))] := hl
  unfold f_X3_reckonWithTwo at hE
  have ⟨hw1, hE⟩ := ck_some hE
  have w82 : ∀ (z0 : Int32) (s : tR) (H : Heap) (locs : List Loc) (ls : Array Slot), va_P D vwCl (wM g cA t s y d q k r c o m) H → va_D A (wM g cA t s y d q k r c o m) → va_S A S0.heap H locs → lv_has ls 5 [] → b_X3_reckonWithTwo_82 w1 z0 s = some u → W PP l EE (headSpec wsX3_reckonWithTwo ({ frames := 2, cells := 0, slots := 0, locals := 44 })).room S0 MM (#[.ref (g 0), .ref (ad w1)] : Array Value) below meth CC H locs 0 0 (MQ below (cQi D (wM g cA t u.2 y d q k r c o m) A u.1) (#[.ref (g 0), .ref (ad w1)] : Array Value) S0 0 0 A) (F0 MM 82 ls [.int z0, .ref (g 4)]) := by
    intro z0 s
    intro H locs ls hP hD hS hl hE
    unfold b_X3_reckonWithTwo_82 at hE
    obtain ⟨u16, h17, hE⟩ := bd_some hE
    refine cn_i (As := [.int z0]) (rest := []) (r := u16.1) (w0 := (wM g cA t s y d q k r c o m)) (N := 28) ⟨hx, hb, hml, hown, hts⟩ (c_X8_put l D cA (g 4) (g 5) H.size z0 (-3) s u16 h17) (cwV 1 hts hX3_reckonWithTwo_X8_put_120 rfl rfl rfl (by decide +kernel) ⟨Nat.le_of_ble_eq_true rfl, Nat.le_of_ble_eq_true rfl⟩) rfl hl.1 rfl (Nat.le_of_ble_eq_true rfl) dX3_reckonWithTwo_82 ⟨Nat.zero_le _, Nat.zero_le _⟩ hK hP hD hS hA (va_recv hK hP (ci := 7) (q0 := 4) rfl rfl) [4, 5] [0, 1, 2, 3, 6, 7, 8, 9, 10, 11, 12, 13, 14, 15, 16, 17, 18, 19, 20, 21, 22, 23, 24, 25, 26, 27] (wM g cA t u16.2 y d q k r c o m) rfl (by decide +kernel) rfl (wr := List.filterMap (fun i => (wM g cA t s y d q k r c o m)[i]?) [0, 1, 2, 3, 6, 7, 8, 9, 10, 11, 12, 13, 14, 15, 16, 17, 18, 19, 20, 21, 22, 23, 24, 25, 26, 27]) rfl rfl (by decide +kernel) rfl (by decide +kernel) [g 0, g 1, g 2, g 3, g 4, g 5, g 6, g 7, g 8, g 9, g 10, g 11, g 12, g 13, g 14, g 15, g 16, g 17, g 18, g 19, g 20, g 21, g 22, g 23, g 24, g 25, g 26, g 27] rfl rfl (fun _ _ _ _ h => h) (fun _ _ _ => trivial) (fun H locs hP hD hS => ?_)
    have hP : va_P D vwCl (wM g cA t u16.2 y d q k r c o m) H := hP
    have hD : va_D A (wM g cA t u16.2 y d q k r c o m) := hD
    obtain rfl := Option.some.inj hE
    exact rt_i hx hb hr hP hS rfl hlocks dX3_reckonWithTwo_85
  have w38 : ∀ (y2 : Int32) (s : tR) (H : Heap) (locs : List Loc) (ls : Array Slot), va_P D vwCl (wM g cA t s y d q k r c o m) H → va_D A (wM g cA t s y d q k r c o m) → va_S A S0.heap H locs → lv_has ls 5 [(0, .ref (g 0)), (1, .ref (ad w1)), (2, .int y2)] → b_X3_reckonWithTwo_38 w1 y2 s = some u → W PP l EE (headSpec wsX3_reckonWithTwo ({ frames := 2, cells := 0, slots := 0, locals := 44 })).room S0 MM (#[.ref (g 0), .ref (ad w1)] : Array Value) below meth CC H locs 0 0 (MQ below (cQi D (wM g cA t u.2 y d q k r c o m) A u.1) (#[.ref (g 0), .ref (ad w1)] : Array Value) S0 0 0 A) (F0 MM 38 ls []) := by
    intro y2 s
    intro H locs ls hP hD hS hl hE
    unfold b_X3_reckonWithTwo_38 at hE
    refine lv_aload_n hx hb dX3_reckonWithTwo_38 rfl (lv_at hl 0 rfl) ?_
    refine va_get (D := D) (ci := 2) (v := .ref (g 4)) (C := RX3) (T := TX3) (N := 14) hx hb hts inX3 hown hK hP 0 rfl rfl 1 (by decide) k4 (fun _ h9 => h9) rfl dX3_reckonWithTwo_39 ?_
    obtain ⟨u7, h8, hE⟩ := bd_some hE
    refine cn_i (As := []) (rest := []) (r := u7.1) (w0 := (wM g cA t s y d q k r c o m)) (N := 28) ⟨hx, hb, hml, hown, hts⟩ (c_X8_take l D cA (g 4) (g 5) H.size (-3) s u7 h8) (cwV 0 hts hX3_reckonWithTwo_X8_take_305 rfl rfl rfl (by decide +kernel) ⟨Nat.le_of_ble_eq_true rfl, Nat.le_of_ble_eq_true rfl⟩) rfl hl.1 rfl (Nat.le_of_ble_eq_true rfl) dX3_reckonWithTwo_42 ⟨Nat.zero_le _, Nat.zero_le _⟩ hK hP hD hS hA (va_recv hK hP (ci := 7) (q0 := 4) rfl rfl) [4, 5] [0, 1, 2, 3, 6, 7, 8, 9, 10, 11, 12, 13, 14, 15, 16, 17, 18, 19, 20, 21, 22, 23, 24, 25, 26, 27] (wM g cA t u7.2 y d q k r c o m) rfl (by decide +kernel) rfl (wr := List.filterMap (fun i => (wM g cA t s y d q k r c o m)[i]?) [0, 1, 2, 3, 6, 7, 8, 9, 10, 11, 12, 13, 14, 15, 16, 17, 18, 19, 20, 21, 22, 23, 24, 25, 26, 27]) rfl rfl (by decide +kernel) rfl (by decide +kernel) [g 0, g 1, g 2, g 3, g 4, g 5, g 6, g 7, g 8, g 9, g 10, g 11, g 12, g 13, g 14, g 15, g 16, g 17, g 18, g 19, g 20, g 21, g 22, g 23, g 24, g 25, g 26, g 27] rfl rfl (fun _ _ _ _ h => h) (fun _ _ _ => trivial) (fun H locs hP hD hS => ?_)
    have hP : va_P D vwCl (wM g cA t u7.2 y d q k r c o m) H := hP
    have hD : va_D A (wM g cA t u7.2 y d q k r c o m) := hD
    refine lv_istore_n (lv' := [(3, .int u7.1), (0, .ref (g 0)), (1, .ref (ad w1)), (2, .int y2)]) hx hb dX3_reckonWithTwo_45 rfl hl (by decide) rfl (fun ls hl => ?_)
    refine lv_aload_n hx hb dX3_reckonWithTwo_46 rfl (lv_at hl 1 rfl) ?_
    refine va_get (D := D) (ci := 2) (v := .ref (g 4)) (C := RX3) (T := TX3) (N := 14) hx hb hts inX3 hown hK hP 0 rfl rfl 1 (by decide) k4 (fun _ h9 => h9) rfl dX3_reckonWithTwo_47 ?_
    obtain ⟨u9, h10, hE⟩ := bd_some hE
    refine cn_i (As := []) (rest := []) (r := u9.1) (w0 := (wM g cA t u7.2 y d q k r c o m)) (N := 28) ⟨hx, hb, hml, hown, hts⟩ (c_X8_take l D cA (g 4) (g 5) H.size (-3) u7.2 u9 h10) (cwV 0 hts hX3_reckonWithTwo_X8_take_305 rfl rfl rfl (by decide +kernel) ⟨Nat.le_of_ble_eq_true rfl, Nat.le_of_ble_eq_true rfl⟩) rfl hl.1 rfl (Nat.le_of_ble_eq_true rfl) dX3_reckonWithTwo_50 ⟨Nat.zero_le _, Nat.zero_le _⟩ hK hP hD hS hA (va_recv hK hP (ci := 7) (q0 := 4) rfl rfl) [4, 5] [0, 1, 2, 3, 6, 7, 8, 9, 10, 11, 12, 13, 14, 15, 16, 17, 18, 19, 20, 21, 22, 23, 24, 25, 26, 27] (wM g cA t u9.2 y d q k r c o m) rfl (by decide +kernel) rfl (wr := List.filterMap (fun i => (wM g cA t u7.2 y d q k r c o m)[i]?) [0, 1, 2, 3, 6, 7, 8, 9, 10, 11, 12, 13, 14, 15, 16, 17, 18, 19, 20, 21, 22, 23, 24, 25, 26, 27]) rfl rfl (by decide +kernel) rfl (by decide +kernel) [g 0, g 1, g 2, g 3, g 4, g 5, g 6, g 7, g 8, g 9, g 10, g 11, g 12, g 13, g 14, g 15, g 16, g 17, g 18, g 19, g 20, g 21, g 22, g 23, g 24, g 25, g 26, g 27] rfl rfl (fun _ _ _ _ h => h) (fun _ _ _ => trivial) (fun H locs hP hD hS => ?_)
    have hP : va_P D vwCl (wM g cA t u9.2 y d q k r c o m) H := hP
    have hD : va_D A (wM g cA t u9.2 y d q k r c o m) := hD
    refine lv_istore (lv' := [(4, .int u9.1), (3, .int u7.1), (0, .ref (g 0)), (1, .ref (ad w1)), (2, .int y2)]) hx hb dX3_reckonWithTwo_53 hl (by decide) rfl (fun ls hl => ?_)
    refine lv_aload_n hx hb dX3_reckonWithTwo_55 rfl (lv_at hl 2 rfl) ?_
    refine va_get (D := D) (ci := 2) (v := .ref (g 4)) (C := RX3) (T := TX3) (N := 14) hx hb hts inX3 hown hK hP 0 rfl rfl 1 (by decide) k4 (fun _ h9 => h9) rfl dX3_reckonWithTwo_56 ?_
    refine lv_iload_n hx hb dX3_reckonWithTwo_59 rfl (lv_at hl 4 rfl) ?_
    refine lv_if_eq (tgt := 74) hx hb dX3_reckonWithTwo_60 (by decide) (fun c11 => ?_) (fun c11 => ?_)
    · have hE := if_t c11 hE
      refine lv_aload_n hx hb dX3_reckonWithTwo_74 rfl (lv_at hl 2 rfl) ?_
      refine lv_aload_n hx hb dX3_reckonWithTwo_75 rfl (lv_at hl 3 rfl) ?_
      refine lv_iload hx hb dX3_reckonWithTwo_76 (lv_at hl 0 rfl) ?_
      refine lv_iload_n hx hb dX3_reckonWithTwo_78 rfl (lv_at hl 1 rfl) ?_
      obtain ⟨u12, h13, hE⟩ := bd_some hE
      refine cw_i (As := [.ref (ad w1), .int u9.1, .int u7.1]) (rest := [.ref (g 4)]) (r := u12) (wc := (wM g cA t u9.2 y d q k r c o m)) ⟨hx, hb, hml, hown, hts⟩ (c_X3_ofTwo l D cA ad adK adV tA tS g H.size w1 u9.1 u7.1 t u9.2 y d q k r c o m u12 h13) (cwV 3 hts hX3_reckonWithTwo_X3_ofTwo_335 rfl rfl rfl (by decide +kernel) ⟨Nat.le_of_ble_eq_true rfl, Nat.le_of_ble_eq_true rfl⟩) rfl hl.1 rfl (Nat.le_of_ble_eq_true rfl) dX3_reckonWithTwo_79 ⟨Nat.zero_le _, Nat.zero_le _⟩ hK hP hD hS hA (va_recv hK hP (ci := 2) (q0 := 0) rfl rfl) [g 0, g 1, g 2, g 3, g 4, g 5, g 6, g 7, g 8, g 9, g 10, g 11, g 12, g 13, g 14, g 15, g 16, g 17, g 18, g 19, g 20, g 21, g 22, g 23, g 24, g 25, g 26, g 27] rfl rfl (fun a U g mk h => SX.blind a U g mk h) (fun U hU hW => SX.call hX hS (fun q h => h.elim (fun ⟨k, e, h⟩ => hD.2 k (q, e) h) (fun h => hA q (Nat.le_trans hS.1 h))) U hU hW) (fun H locs hP hD hS => ?_)
      have hP : va_P D vwCl (wM g cA t u9.2 y d q k r c o m) H := hP
      have hD : va_D A (wM g cA t u9.2 y d q k r c o m) := hD
      exact w82  u12 u9.2 H locs ls hP hD hS (lv_sub hl [] rfl) hE
    · have hE := if_f c11 hE
      refine lv_aload_n hx hb dX3_reckonWithTwo_63 rfl (lv_at hl 2 rfl) ?_
      refine lv_aload_n hx hb dX3_reckonWithTwo_64 rfl (lv_at hl 3 rfl) ?_
      refine lv_iload hx hb dX3_reckonWithTwo_65 (lv_at hl 0 rfl) ?_
      refine lv_iload_n hx hb dX3_reckonWithTwo_67 rfl (lv_at hl 1 rfl) ?_
      obtain ⟨u14, h15, hE⟩ := bd_some hE
      refine cw_i (As := [.ref (ad w1), .int u9.1, .int u7.1]) (rest := [.ref (g 4)]) (r := u14) (wc := (wM g cA t u9.2 y d q k r c o m)) ⟨hx, hb, hml, hown, hts⟩ (c_X3_quotientOrRest l D cA ad adK adV tA tS g H.size w1 u9.1 u7.1 t u9.2 y d q k r c o m u14 h15) (cwV 3 hts hX3_reckonWithTwo_X3_quotientOrRest_331 rfl rfl rfl (by decide +kernel) ⟨Nat.le_of_ble_eq_true rfl, Nat.le_of_ble_eq_true rfl⟩) rfl hl.1 rfl (Nat.le_of_ble_eq_true rfl) dX3_reckonWithTwo_68 ⟨Nat.zero_le _, Nat.zero_le _⟩ hK hP hD hS hA (va_recv hK hP (ci := 2) (q0 := 0) rfl rfl) [g 0, g 1, g 2, g 3, g 4, g 5, g 6, g 7, g 8, g 9, g 10, g 11, g 12, g 13, g 14, g 15, g 16, g 17, g 18, g 19, g 20, g 21, g 22, g 23, g 24, g 25, g 26, g 27] rfl rfl (fun a U g mk h => SX.blind a U g mk h) (fun U hU hW => SX.call hX hS (fun q h => h.elim (fun ⟨k, e, h⟩ => hD.2 k (q, e) h) (fun h => hA q (Nat.le_trans hS.1 h))) U hU hW) (fun H locs hP hD hS => ?_)
      have hP : va_P D vwCl (wM g cA t u9.2 y d q k r c o m) H := hP
      have hD : va_D A (wM g cA t u9.2 y d q k r c o m) := hD
      refine lv_goto (tgt := 82) hx hb dX3_reckonWithTwo_71 (by decide) ?_
      exact w82  u14 u9.2 H locs ls hP hD hS (lv_sub hl [] rfl) hE
  have w19 : ∀ (z0 : Int32) (s : tR) (H : Heap) (locs : List Loc) (ls : Array Slot), va_P D vwCl (wM g cA t s y d q k r c o m) H → va_D A (wM g cA t s y d q k r c o m) → va_S A S0.heap H locs → lv_has ls 5 [(0, .ref (g 0)), (1, .ref (ad w1))] → b_X3_reckonWithTwo_19 w1 z0 s = some u → W PP l EE (headSpec wsX3_reckonWithTwo ({ frames := 2, cells := 0, slots := 0, locals := 44 })).room S0 MM (#[.ref (g 0), .ref (ad w1)] : Array Value) below meth CC H locs 0 0 (MQ below (cQi D (wM g cA t u.2 y d q k r c o m) A u.1) (#[.ref (g 0), .ref (ad w1)] : Array Value) S0 0 0 A) (F0 MM 19 ls [.int z0]) := by
    intro z0 s
    intro H locs ls hP hD hS hl hE
    unfold b_X3_reckonWithTwo_19 at hE
    refine lv_istore_n (lv' := [(2, .int z0), (0, .ref (g 0)), (1, .ref (ad w1))]) hx hb dX3_reckonWithTwo_19 rfl hl (by decide) rfl (fun ls hl => ?_)
    refine lv_iload_n hx hb dX3_reckonWithTwo_20 rfl (lv_at hl 0 rfl) ?_
    refine lv_if_eq (tgt := 38) hx hb dX3_reckonWithTwo_21 (by decide) (fun c3 => ?_) (fun c3 => ?_)
    · have hE := if_t c3 hE
      exact w38  z0 s H locs ls hP hD hS (lv_sub hl [1, 2, 0] rfl) hE
    · have hE := if_f c3 hE
      refine lv_aload_n hx hb dX3_reckonWithTwo_24 rfl (lv_at hl 1 rfl) ?_
      refine va_get (D := D) (ci := 2) (v := .ref (g 4)) (C := RX3) (T := TX3) (N := 14) hx hb hts inX3 hown hK hP 0 rfl rfl 1 (by decide) k4 (fun _ h9 => h9) rfl dX3_reckonWithTwo_25 ?_
      refine lv_iconst (v := 0) hx hb dX3_reckonWithTwo_28 (by decide +kernel) ?_
      obtain ⟨u4, h5, hE⟩ := bd_some hE
      refine cn_i (As := [.int 0]) (rest := []) (r := u4) (w0 := (wM g cA t s y d q k r c o m)) (N := 28) ⟨hx, hb, hml, hown, hts⟩ (c_X8_fromTop l D cA (g 4) (g 5) H.size 0 (-3) s u4 h5) (cwV 1 hts hX3_reckonWithTwo_X8_fromTop_212 rfl rfl rfl (by decide +kernel) ⟨Nat.le_of_ble_eq_true rfl, Nat.le_of_ble_eq_true rfl⟩) rfl hl.1 rfl (Nat.le_of_ble_eq_true rfl) dX3_reckonWithTwo_29 ⟨Nat.zero_le _, Nat.zero_le _⟩ hK hP hD hS hA (va_recv hK hP (ci := 7) (q0 := 4) rfl rfl) [4, 5] [0, 1, 2, 3, 6, 7, 8, 9, 10, 11, 12, 13, 14, 15, 16, 17, 18, 19, 20, 21, 22, 23, 24, 25, 26, 27] (wM g cA t s y d q k r c o m) rfl (by decide +kernel) rfl (wr := List.filterMap (fun i => (wM g cA t s y d q k r c o m)[i]?) [0, 1, 2, 3, 6, 7, 8, 9, 10, 11, 12, 13, 14, 15, 16, 17, 18, 19, 20, 21, 22, 23, 24, 25, 26, 27]) rfl rfl (by decide +kernel) rfl (by decide +kernel) [g 0, g 1, g 2, g 3, g 4, g 5, g 6, g 7, g 8, g 9, g 10, g 11, g 12, g 13, g 14, g 15, g 16, g 17, g 18, g 19, g 20, g 21, g 22, g 23, g 24, g 25, g 26, g 27] rfl rfl (fun _ _ _ _ h => h) (fun _ _ _ => trivial) (fun H locs hP hD hS => ?_)
      have hP : va_P D vwCl (wM g cA t s y d q k r c o m) H := hP
      have hD : va_D A (wM g cA t s y d q k r c o m) := hD
      refine lv_if_ne (tgt := 38) hx hb dX3_reckonWithTwo_32 (by decide) (fun c6 => ?_) (fun c6 => ?_)
      · have hE := if_f c6 hE
        exact w38  z0 s H locs ls hP hD hS (lv_sub hl [1, 2, 0] rfl) hE
      · have hE := if_t c6 hE
        refine lv_bipush (v := (-10)) hx hb dX3_reckonWithTwo_35 (by decide +kernel) ?_
        obtain rfl := Option.some.inj hE
        exact rt_i hx hb hr hP hS rfl hlocks dX3_reckonWithTwo_37
  have w14 : ∀ (s : tR) (H : Heap) (locs : List Loc) (ls : Array Slot), va_P D vwCl (wM g cA t s y d q k r c o m) H → va_D A (wM g cA t s y d q k r c o m) → va_S A S0.heap H locs → lv_has ls 5 [(0, .ref (g 0)), (1, .ref (ad w1))] → b_X3_reckonWithTwo_14 w1 s = some u → W PP l EE (headSpec wsX3_reckonWithTwo ({ frames := 2, cells := 0, slots := 0, locals := 44 })).room S0 MM (#[.ref (g 0), .ref (ad w1)] : Array Value) below meth CC H locs 0 0 (MQ below (cQi D (wM g cA t u.2 y d q k r c o m) A u.1) (#[.ref (g 0), .ref (ad w1)] : Array Value) S0 0 0 A) (F0 MM 14 ls []) := by
    intro s
    intro H locs ls hP hD hS hl hE
    unfold b_X3_reckonWithTwo_14 at hE
    refine lv_iconst (v := 1) hx hb dX3_reckonWithTwo_14 (by decide +kernel) ?_
    refine lv_goto (tgt := 19) hx hb dX3_reckonWithTwo_15 (by decide) ?_
    exact w19  1 s H locs ls hP hD hS (lv_sub hl [0, 1] rfl) hE
  suffices main : ∀ (H : Heap) (locs : List Loc) (ls : Array Slot), va_P D vwCl (wM g cA t s y d q k r c o m) H → va_D A (wM g cA t s y d q k r c o m) → va_S A S0.heap H locs → lv_has ls 5 [(0, .ref (g 0)), (1, .ref (ad w1))] → W PP l EE (headSpec wsX3_reckonWithTwo ({ frames := 2, cells := 0, slots := 0, locals := 44 })).room S0 MM (#[.ref (g 0), .ref (ad w1)] : Array Value) below meth CC H locs 0 0 (MQ below (cQi D (wM g cA t u.2 y d q k r c o m) A u.1) (#[.ref (g 0), .ref (ad w1)] : Array Value) S0 0 0 A) (F0 MM 0 ls []) from main _ _ _ hP hD hS hl
  intro H locs ls hP hD hS hl
  refine lv_aload_n hx hb dX3_reckonWithTwo_0 rfl (lv_at hl 1 rfl) ?_
  refine va_gets hx hb k1 hS hown k0 (fun _ h9 => h9) dX3_reckonWithTwo_1 ?_
  refine lv_acmp_eq (rx := some (ad w1)) (ry := some (ad 26)) (tgt := 14) hx hb dX3_reckonWithTwo_4 (by decide) (fun c1 => ?_) (fun c1 => ?_)
  · have c1 := hX.2.2.2.2.2.2.2.1 w1 26 hw1 (show 26 < 82 by decide) (Option.some.inj c1)
    have hE := if_t c1 hE
    exact w14  s H locs ls hP hD hS (lv_sub hl [0, 1] rfl) hE
  · have c1 : ¬ w1 = 26 := fun h => c1 (by rw [h])
    have hE := if_f c1 hE
    refine lv_aload_n hx hb dX3_reckonWithTwo_7 rfl (lv_at hl 1 rfl) ?_
    refine va_gets hx hb k3 hS hown k2 (fun _ h9 => h9) dX3_reckonWithTwo_8 ?_
    refine lv_acmp_ne (rx := some (ad w1)) (ry := some (ad 27)) (tgt := 18) hx hb dX3_reckonWithTwo_11 (by decide) (fun c2 => ?_) (fun c2 => ?_)
    · have c2 : ¬ w1 = 27 := fun h => c2 (by rw [h])
      have hE := if_f c2 hE
      refine lv_iconst (v := 0) hx hb dX3_reckonWithTwo_18 (by decide +kernel) ?_
      exact w19  0 s H locs ls hP hD hS (lv_sub hl [0, 1] rfl) hE
    · have c2 := hX.2.2.2.2.2.2.2.1 w1 27 hw1 (show 27 < 82 by decide) (Option.some.inj c2)
      have hE := if_t c2 hE
      exact w14  s H locs ls hP hD hS (lv_sub hl [0, 1] rfl) hE
set_option maxRecDepth 20000 in
theorem hX3_useCell_X5_isCell_178 : GoodIn wsX3_useCell (wsV RX3 178 RX5 yX5_isCell wsX5_isCell) := goodIn_r _ [5, 6, 7, 8, 9] rfl (by decide +kernel)
set_option maxRecDepth 20000 in
theorem hX3_useCell_X5_at_181 : GoodIn wsX3_useCell (wsV RX3 181 RX5 yX5_at wsX5_at) := goodIn_r _ [10, 11, 12, 8, 13, 14, 15, 6, 7, 8, 9, 49, 50] rfl (by decide +kernel)
set_option maxRecDepth 20000 in
theorem hX3_useCell_X8_replaceTop_219 : GoodIn wsX3_useCell (wsV RX3 219 RX8 yX8_replaceTop wsX8_replaceTop) := goodIn_r _ [16, 17, 18, 19, 20, 21, 22, 51, 52, 53] rfl (by decide +kernel)
set_option maxRecDepth 20000 in
theorem hX3_useCell_X8_fromTop_212 : GoodIn wsX3_useCell (wsV RX3 212 RX8 yX8_fromTop wsX8_fromTop) := goodIn_r _ [23, 24, 25, 19, 26, 21, 22, 51, 52, 53] rfl (by decide +kernel)
set_option maxRecDepth 20000 in
theorem hX3_useCell_X5_set_357 : GoodIn wsX3_useCell (wsV RX3 357 RX5 yX5_set wsX5_set) := goodIn_r _ [27, 28, 29, 8, 30, 14, 15, 6, 7, 8, 9, 49, 50] rfl (by decide +kernel)
set_option maxRecDepth 20000 in
theorem hX3_useCell_X8_drop_296 : GoodIn wsX3_useCell (wsV RX3 296 RX8 yX8_drop wsX8_drop) := goodIn_r _ [31, 32, 33, 19, 34, 21, 51, 52, 53] rfl (by decide +kernel)
set_option maxHeartbeats 4000000 in
set_option maxRecDepth 100000 in
theorem c_X3_useCell (l : Launch) (D : va_G) (cA : Nat → ClassId) (ad adK adV : Nat → Nat) (tA tS : Nat) (g : Nat → Nat) (sz : Nat) (w1 : Nat) (x2 : Int32) (t : tT) (s : tR) (y : tY) (d : tD) (q : tP) (k : tK) (r : tR) (c : tC) (o : tO) (m : tM) (u : Int32 × tR × tY) (hE : f_X3_useCell w1 x2 s y = some u) : Met l yX3_useCell wsX3_useCell ({ frames := 2, cells := 0, slots := 0, locals := 43 }) (va_Pc [.ref (g 0), .ref (ad w1), .int x2] (PRE D cA (wM g cA t s y d q k r c o m) sz (fun U => SX ad adK adV tA tS (va_A (wM g cA t s y d q k r c o m) sz) U U.heap))) (cQi D (wM g cA t u.2.1 u.2.2 d q k r c o m) (va_A (wM g cA t s y d q k r c o m) sz) u.1) 0 0 (va_A (wM g cA t s y d q k r c o m) sz) := by
  refine Met.ofW (cc := cX3_useCell) (maxL := 4) (ret := (some .int)) (by decide) rfl ?_
  intro PP EE S0 MM args below meth CC S1 B hml hv
  obtain ⟨rfl, hsz, hP, hK, hD0, hX⟩ := hv
  have hx := B.exec
  have hb := B.bytes
  have hr := B.returns
  have hts := atoms_spec (ws := wsX3_useCell) B.pre
  have hown : S0.vm.findClass RX3 = some MM.cls := findClass_of_methodNamed B.named
  have hlocks := B.notSynchronized
  subst hsz
  have hD := hD0.self (sz := S0.heap.size)
  have hX : SX ad adK adV tA tS (va_A (wM g cA t s y d q k r c o m) S0.heap.size) S0 S0.heap := hX
  generalize hAe : va_A (wM g cA t s y d q k r c o m) S0.heap.size = A at hD hX ⊢
  have hA : ∀ q : Nat, S0.heap.size ≤ q → A q := fun q h => by rw [← hAe]; exact Or.inr h
  have hS : va_S A S0.heap S0.heap [] := va_S.rf
  have k0 := hts (.fieldLink RX3 33 "WordForge$Machine" "memory" "LWordForge$Memory;") (List.mem_of_getElem? (i := 1) rfl)
  have inX3 : ∀ w ∈ wsX30, w ∈ wsX3_useCell := fun _ h => List.mem_cons_of_mem _ (List.mem_append_left _ (List.mem_append_left _ (List.mem_append_right _ h)))
  have k2 := hts (.fieldLink RX3 351 "WordForge$Word" "FETCH" "LWordForge$Word;") (List.mem_of_getElem? (i := 2) rfl)
  have k3 : va_Z "WordForge$Word" "FETCH" "LWordForge$Word;" (.ref (ad 44)) A S0 S0.heap := (hX.2.2.2.2.2.2.1 44 (by decide)).1
  have k4 := hts (.fieldLink RX3 354 "WordForge$Word" "ADD_TO" "LWordForge$Word;") (List.mem_of_getElem? (i := 4) rfl)
  have k5 : va_Z "WordForge$Word" "ADD_TO" "LWordForge$Word;" (.ref (ad 46)) A S0 S0.heap := (hX.2.2.2.2.2.2.1 46 (by decide)).1
  have k6 := hts (.fieldLink RX3 23 "WordForge$Machine" "stack" "LWordForge$Row;") (List.mem_of_getElem? (i := 3) rfl)
  have hl := lv_entry ([.ref (g 0), .ref (ad w1), .int x2]) (n := 4) (Nat.le_of_ble_eq_true rfl)
  rw [lg_entry_eq]
  generalize (lg_sl ([.ref (g 0), .ref (ad w1), .int x2]) ++ List.replicate (4 - (lg_sl ([.ref (g 0), .ref (ad w1), .int x2])).length) Slot.unset).toArray = ls at hl ⊢
  have hl : lv_has ls 4 [(0, .ref (g 0)), (1, .ref (ad w1)), (2, .int x2)] := hl
  unfold f_X3_useCell at hE
  have ⟨hw1, hE⟩ := ck_some hE
  have w57 : ∀ (y2 : Int32) (z0 : Int32) (s : tR) (y : tY) (H : Heap) (locs : List Loc) (ls : Array Slot), va_P D vwCl (wM g cA t s y d q k r c o m) H → va_D A (wM g cA t s y d q k r c o m) → va_S A S0.heap H locs → lv_has ls 4 [(0, .ref (g 0)), (2, .int y2)] → b_X3_useCell_57 w1 y2 z0 s y = some u → W PP l EE (headSpec wsX3_useCell ({ frames := 2, cells := 0, slots := 0, locals := 43 })).room S0 MM (#[.ref (g 0), .ref (ad w1), .int x2] : Array Value) below meth CC H locs 0 0 (MQ below (cQi D (wM g cA t u.2.1 u.2.2 d q k r c o m) A u.1) (#[.ref (g 0), .ref (ad w1), .int x2] : Array Value) S0 0 0 A) (F0 MM 57 ls [.int z0]) := by
    intro y2 z0 s y
    intro H locs ls hP hD hS hl hE
    unfold b_X3_useCell_57 at hE
    refine lv_istore_n (lv' := [(3, .int z0), (0, .ref (g 0)), (2, .int y2)]) hx hb dX3_useCell_57 rfl hl (by decide) rfl (fun ls hl => ?_)
    refine lv_aload_n hx hb dX3_useCell_58 rfl (lv_at hl 1 rfl) ?_
    refine va_get (D := D) (ci := 2) (v := .ref (g 6)) (C := RX3) (T := TX3) (N := 14) hx hb hts inX3 hown hK hP 0 rfl rfl 3 (by decide) k0 (fun _ h9 => h9) rfl dX3_useCell_59 ?_
    refine lv_iload_n hx hb dX3_useCell_62 rfl (lv_at hl 2 rfl) ?_
    refine lv_iload_n hx hb dX3_useCell_63 rfl (lv_at hl 0 rfl) ?_
    refine lv_aload_n hx hb dX3_useCell_64 rfl (lv_at hl 1 rfl) ?_
    refine va_get (D := D) (ci := 2) (v := .ref (g 4)) (C := RX3) (T := TX3) (N := 14) hx hb hts inX3 hown hK hP 0 rfl rfl 1 (by decide) k6 (fun _ h9 => h9) rfl dX3_useCell_65 ?_
    refine lv_iconst (v := 1) hx hb dX3_useCell_68 (by decide +kernel) ?_
    obtain ⟨u12, h13, hE⟩ := bd_some hE
    refine cn_i (As := [.int 1]) (rest := [.int z0, .int y2, .ref (g 6)]) (r := u12) (w0 := (wM g cA t s y d q k r c o m)) (N := 28) ⟨hx, hb, hml, hown, hts⟩ (c_X8_fromTop l D cA (g 4) (g 5) H.size 1 (-3) s u12 h13) (cwV 1 hts hX3_useCell_X8_fromTop_212 rfl rfl rfl (by decide +kernel) ⟨Nat.le_of_ble_eq_true rfl, Nat.le_of_ble_eq_true rfl⟩) rfl hl.1 rfl (Nat.le_of_ble_eq_true rfl) dX3_useCell_69 ⟨Nat.zero_le _, Nat.zero_le _⟩ hK hP hD hS hA (va_recv hK hP (ci := 7) (q0 := 4) rfl rfl) [4, 5] [0, 1, 2, 3, 6, 7, 8, 9, 10, 11, 12, 13, 14, 15, 16, 17, 18, 19, 20, 21, 22, 23, 24, 25, 26, 27] (wM g cA t s y d q k r c o m) rfl (by decide +kernel) rfl (wr := List.filterMap (fun i => (wM g cA t s y d q k r c o m)[i]?) [0, 1, 2, 3, 6, 7, 8, 9, 10, 11, 12, 13, 14, 15, 16, 17, 18, 19, 20, 21, 22, 23, 24, 25, 26, 27]) rfl rfl (by decide +kernel) rfl (by decide +kernel) [g 0, g 1, g 2, g 3, g 4, g 5, g 6, g 7, g 8, g 9, g 10, g 11, g 12, g 13, g 14, g 15, g 16, g 17, g 18, g 19, g 20, g 21, g 22, g 23, g 24, g 25, g 26, g 27] rfl rfl (fun _ _ _ _ h => h) (fun _ _ _ => trivial) (fun H locs hP hD hS => ?_)
    have hP : va_P D vwCl (wM g cA t s y d q k r c o m) H := hP
    have hD : va_D A (wM g cA t s y d q k r c o m) := hD
    refine lv_iadd hx hb dX3_useCell_72 ?_
    obtain ⟨u14, h15, hE⟩ := bd_some hE
    refine cn_v (As := [.int y2, .int (z0 + u12)]) (rest := []) (w0 := (wM g cA t s y d q k r c o m)) (N := 28) ⟨hx, hb, hml, hown, hts⟩ (c_X5_set l D cA (g 6) (g 7) H.size y2 (z0 + u12) y u14 h15) (cwV 2 hts hX3_useCell_X5_set_357 rfl rfl rfl (by decide +kernel) ⟨Nat.le_of_ble_eq_true rfl, Nat.le_of_ble_eq_true rfl⟩) rfl hl.1 rfl (Nat.le_of_ble_eq_true rfl) dX3_useCell_73 ⟨Nat.zero_le _, Nat.zero_le _⟩ hK hP hD hS hA (va_recv hK hP (ci := 4) (q0 := 6) rfl rfl) [6, 7] [0, 1, 2, 3, 4, 5, 8, 9, 10, 11, 12, 13, 14, 15, 16, 17, 18, 19, 20, 21, 22, 23, 24, 25, 26, 27] (wM g cA t s u14 d q k r c o m) rfl (by decide +kernel) rfl (wr := List.filterMap (fun i => (wM g cA t s y d q k r c o m)[i]?) [0, 1, 2, 3, 4, 5, 8, 9, 10, 11, 12, 13, 14, 15, 16, 17, 18, 19, 20, 21, 22, 23, 24, 25, 26, 27]) rfl rfl (by decide +kernel) rfl (by decide +kernel) [g 0, g 1, g 2, g 3, g 4, g 5, g 6, g 7, g 8, g 9, g 10, g 11, g 12, g 13, g 14, g 15, g 16, g 17, g 18, g 19, g 20, g 21, g 22, g 23, g 24, g 25, g 26, g 27] rfl rfl (fun _ _ _ _ h => h) (fun _ _ _ => trivial) (fun H locs hP hD hS => ?_)
    have hP : va_P D vwCl (wM g cA t s u14 d q k r c o m) H := hP
    have hD : va_D A (wM g cA t s u14 d q k r c o m) := hD
    refine lv_aload_n hx hb dX3_useCell_76 rfl (lv_at hl 1 rfl) ?_
    refine va_get (D := D) (ci := 2) (v := .ref (g 4)) (C := RX3) (T := TX3) (N := 14) hx hb hts inX3 hown hK hP 0 rfl rfl 1 (by decide) k6 (fun _ h9 => h9) rfl dX3_useCell_77 ?_
    refine lv_iconst (v := 2) hx hb dX3_useCell_80 (by decide +kernel) ?_
    obtain ⟨u16, h17, hE⟩ := bd_some hE
    refine cn_v (As := [.int 2]) (rest := []) (w0 := (wM g cA t s u14 d q k r c o m)) (N := 28) ⟨hx, hb, hml, hown, hts⟩ (c_X8_drop l D cA (g 4) (g 5) H.size 2 (-3) s u16 h17) (cwV 1 hts hX3_useCell_X8_drop_296 rfl rfl rfl (by decide +kernel) ⟨Nat.le_of_ble_eq_true rfl, Nat.le_of_ble_eq_true rfl⟩) rfl hl.1 rfl (Nat.le_of_ble_eq_true rfl) dX3_useCell_81 ⟨Nat.zero_le _, Nat.zero_le _⟩ hK hP hD hS hA (va_recv hK hP (ci := 7) (q0 := 4) rfl rfl) [4, 5] [0, 1, 2, 3, 6, 7, 8, 9, 10, 11, 12, 13, 14, 15, 16, 17, 18, 19, 20, 21, 22, 23, 24, 25, 26, 27] (wM g cA t u16 u14 d q k r c o m) rfl (by decide +kernel) rfl (wr := List.filterMap (fun i => (wM g cA t s u14 d q k r c o m)[i]?) [0, 1, 2, 3, 6, 7, 8, 9, 10, 11, 12, 13, 14, 15, 16, 17, 18, 19, 20, 21, 22, 23, 24, 25, 26, 27]) rfl rfl (by decide +kernel) rfl (by decide +kernel) [g 0, g 1, g 2, g 3, g 4, g 5, g 6, g 7, g 8, g 9, g 10, g 11, g 12, g 13, g 14, g 15, g 16, g 17, g 18, g 19, g 20, g 21, g 22, g 23, g 24, g 25, g 26, g 27] rfl rfl (fun _ _ _ _ h => h) (fun _ _ _ => trivial) (fun H locs hP hD hS => ?_)
    have hP : va_P D vwCl (wM g cA t u16 u14 d q k r c o m) H := hP
    have hD : va_D A (wM g cA t u16 u14 d q k r c o m) := hD
    refine lv_iconst (v := 0) hx hb dX3_useCell_84 (by decide +kernel) ?_
    obtain rfl := Option.some.inj hE
    exact rt_i hx hb hr hP hS rfl hlocks dX3_useCell_85
  suffices main : ∀ (H : Heap) (locs : List Loc) (ls : Array Slot), va_P D vwCl (wM g cA t s y d q k r c o m) H → va_D A (wM g cA t s y d q k r c o m) → va_S A S0.heap H locs → lv_has ls 4 [(0, .ref (g 0)), (1, .ref (ad w1)), (2, .int x2)] → W PP l EE (headSpec wsX3_useCell ({ frames := 2, cells := 0, slots := 0, locals := 43 })).room S0 MM (#[.ref (g 0), .ref (ad w1), .int x2] : Array Value) below meth CC H locs 0 0 (MQ below (cQi D (wM g cA t u.2.1 u.2.2 d q k r c o m) A u.1) (#[.ref (g 0), .ref (ad w1), .int x2] : Array Value) S0 0 0 A) (F0 MM 0 ls []) from main _ _ _ hP hD hS hl
  intro H locs ls hP hD hS hl
  refine lv_aload_n hx hb dX3_useCell_0 rfl (lv_at hl 0 rfl) ?_
  refine va_get (D := D) (ci := 2) (v := .ref (g 6)) (C := RX3) (T := TX3) (N := 14) hx hb hts inX3 hown hK hP 0 rfl rfl 3 (by decide) k0 (fun _ h9 => h9) rfl dX3_useCell_1 ?_
  refine lv_iload_n hx hb dX3_useCell_4 rfl (lv_at hl 2 rfl) ?_
  obtain ⟨u1, h2, hE⟩ := bd_some hE
  refine cn_i (As := [.int x2]) (rest := []) (r := u1) (w0 := (wM g cA t s y d q k r c o m)) (N := 28) ⟨hx, hb, hml, hown, hts⟩ (c_X5_isCell l D cA (g 6) (g 7) H.size x2 y u1 h2) (cwV 1 hts hX3_useCell_X5_isCell_178 rfl rfl rfl (by decide +kernel) ⟨Nat.le_of_ble_eq_true rfl, Nat.le_of_ble_eq_true rfl⟩) rfl hl.1 rfl (Nat.le_of_ble_eq_true rfl) dX3_useCell_5 ⟨Nat.zero_le _, Nat.zero_le _⟩ hK hP hD hS hA (va_recv hK hP (ci := 4) (q0 := 6) rfl rfl) [6, 7] [0, 1, 2, 3, 4, 5, 8, 9, 10, 11, 12, 13, 14, 15, 16, 17, 18, 19, 20, 21, 22, 23, 24, 25, 26, 27] (wM g cA t s y d q k r c o m) rfl (by decide +kernel) rfl (wr := List.filterMap (fun i => (wM g cA t s y d q k r c o m)[i]?) [0, 1, 2, 3, 4, 5, 8, 9, 10, 11, 12, 13, 14, 15, 16, 17, 18, 19, 20, 21, 22, 23, 24, 25, 26, 27]) rfl rfl (by decide +kernel) rfl (by decide +kernel) [g 0, g 1, g 2, g 3, g 4, g 5, g 6, g 7, g 8, g 9, g 10, g 11, g 12, g 13, g 14, g 15, g 16, g 17, g 18, g 19, g 20, g 21, g 22, g 23, g 24, g 25, g 26, g 27] rfl rfl (fun _ _ _ _ h => h) (fun _ _ _ => trivial) (fun H locs hP hD hS => ?_)
  have hP : va_P D vwCl (wM g cA t s y d q k r c o m) H := hP
  have hD : va_D A (wM g cA t s y d q k r c o m) := hD
  refine lv_if_ne (tgt := 14) hx hb dX3_useCell_8 (by decide) (fun c3 => ?_) (fun c3 => ?_)
  · have hE := if_f c3 hE
    refine lv_aload_n hx hb dX3_useCell_14 rfl (lv_at hl 1 rfl) ?_
    refine va_gets hx hb k3 hS hown k2 (fun _ h9 => h9) dX3_useCell_15 ?_
    refine lv_acmp_ne (rx := some (ad w1)) (ry := some (ad 44)) (tgt := 38) hx hb dX3_useCell_18 (by decide) (fun c4 => ?_) (fun c4 => ?_)
    · have c4 : ¬ w1 = 44 := fun h => c4 (by rw [h])
      have hE := if_f c4 hE
      refine lv_aload_n hx hb dX3_useCell_38 rfl (lv_at hl 1 rfl) ?_
      refine va_gets hx hb k5 hS hown k4 (fun _ h9 => h9) dX3_useCell_39 ?_
      refine lv_acmp_ne (rx := some (ad w1)) (ry := some (ad 46)) (tgt := 56) hx hb dX3_useCell_42 (by decide) (fun c5 => ?_) (fun c5 => ?_)
      · have c5 : ¬ w1 = 46 := fun h => c5 (by rw [h])
        have hE := if_f c5 hE
        refine lv_iconst (v := 0) hx hb dX3_useCell_56 (by decide +kernel) ?_
        exact w57  x2 0 s y H locs ls hP hD hS (lv_sub hl [0, 2] rfl) hE
      · have c5 := hX.2.2.2.2.2.2.2.1 w1 46 hw1 (show 46 < 82 by decide) (Option.some.inj c5)
        have hE := if_t c5 hE
        refine lv_aload_n hx hb dX3_useCell_45 rfl (lv_at hl 0 rfl) ?_
        refine va_get (D := D) (ci := 2) (v := .ref (g 6)) (C := RX3) (T := TX3) (N := 14) hx hb hts inX3 hown hK hP 0 rfl rfl 3 (by decide) k0 (fun _ h9 => h9) rfl dX3_useCell_46 ?_
        refine lv_iload_n hx hb dX3_useCell_49 rfl (lv_at hl 2 rfl) ?_
        obtain ⟨u6, h7, hE⟩ := bd_some hE
        refine cn_i (As := [.int x2]) (rest := []) (r := u6) (w0 := (wM g cA t s y d q k r c o m)) (N := 28) ⟨hx, hb, hml, hown, hts⟩ (c_X5_at l D cA (g 6) (g 7) H.size x2 y u6 h7) (cwV 1 hts hX3_useCell_X5_at_181 rfl rfl rfl (by decide +kernel) ⟨Nat.le_of_ble_eq_true rfl, Nat.le_of_ble_eq_true rfl⟩) rfl hl.1 rfl (Nat.le_of_ble_eq_true rfl) dX3_useCell_50 ⟨Nat.zero_le _, Nat.zero_le _⟩ hK hP hD hS hA (va_recv hK hP (ci := 4) (q0 := 6) rfl rfl) [6, 7] [0, 1, 2, 3, 4, 5, 8, 9, 10, 11, 12, 13, 14, 15, 16, 17, 18, 19, 20, 21, 22, 23, 24, 25, 26, 27] (wM g cA t s y d q k r c o m) rfl (by decide +kernel) rfl (wr := List.filterMap (fun i => (wM g cA t s y d q k r c o m)[i]?) [0, 1, 2, 3, 4, 5, 8, 9, 10, 11, 12, 13, 14, 15, 16, 17, 18, 19, 20, 21, 22, 23, 24, 25, 26, 27]) rfl rfl (by decide +kernel) rfl (by decide +kernel) [g 0, g 1, g 2, g 3, g 4, g 5, g 6, g 7, g 8, g 9, g 10, g 11, g 12, g 13, g 14, g 15, g 16, g 17, g 18, g 19, g 20, g 21, g 22, g 23, g 24, g 25, g 26, g 27] rfl rfl (fun _ _ _ _ h => h) (fun _ _ _ => trivial) (fun H locs hP hD hS => ?_)
        have hP : va_P D vwCl (wM g cA t s y d q k r c o m) H := hP
        have hD : va_D A (wM g cA t s y d q k r c o m) := hD
        refine lv_goto (tgt := 57) hx hb dX3_useCell_53 (by decide) ?_
        exact w57  x2 u6 s y H locs ls hP hD hS (lv_sub hl [0, 2] rfl) hE
    · have c4 := hX.2.2.2.2.2.2.2.1 w1 44 hw1 (show 44 < 82 by decide) (Option.some.inj c4)
      have hE := if_t c4 hE
      refine lv_aload_n hx hb dX3_useCell_21 rfl (lv_at hl 0 rfl) ?_
      refine va_get (D := D) (ci := 2) (v := .ref (g 4)) (C := RX3) (T := TX3) (N := 14) hx hb hts inX3 hown hK hP 0 rfl rfl 1 (by decide) k6 (fun _ h9 => h9) rfl dX3_useCell_22 ?_
      refine lv_aload_n hx hb dX3_useCell_25 rfl (lv_at hl 0 rfl) ?_
      refine va_get (D := D) (ci := 2) (v := .ref (g 6)) (C := RX3) (T := TX3) (N := 14) hx hb hts inX3 hown hK hP 0 rfl rfl 3 (by decide) k0 (fun _ h9 => h9) rfl dX3_useCell_26 ?_
      refine lv_iload_n hx hb dX3_useCell_29 rfl (lv_at hl 2 rfl) ?_
      obtain ⟨u8, h9, hE⟩ := bd_some hE
      refine cn_i (As := [.int x2]) (rest := [.ref (g 4)]) (r := u8) (w0 := (wM g cA t s y d q k r c o m)) (N := 28) ⟨hx, hb, hml, hown, hts⟩ (c_X5_at l D cA (g 6) (g 7) H.size x2 y u8 h9) (cwV 1 hts hX3_useCell_X5_at_181 rfl rfl rfl (by decide +kernel) ⟨Nat.le_of_ble_eq_true rfl, Nat.le_of_ble_eq_true rfl⟩) rfl hl.1 rfl (Nat.le_of_ble_eq_true rfl) dX3_useCell_30 ⟨Nat.zero_le _, Nat.zero_le _⟩ hK hP hD hS hA (va_recv hK hP (ci := 4) (q0 := 6) rfl rfl) [6, 7] [0, 1, 2, 3, 4, 5, 8, 9, 10, 11, 12, 13, 14, 15, 16, 17, 18, 19, 20, 21, 22, 23, 24, 25, 26, 27] (wM g cA t s y d q k r c o m) rfl (by decide +kernel) rfl (wr := List.filterMap (fun i => (wM g cA t s y d q k r c o m)[i]?) [0, 1, 2, 3, 4, 5, 8, 9, 10, 11, 12, 13, 14, 15, 16, 17, 18, 19, 20, 21, 22, 23, 24, 25, 26, 27]) rfl rfl (by decide +kernel) rfl (by decide +kernel) [g 0, g 1, g 2, g 3, g 4, g 5, g 6, g 7, g 8, g 9, g 10, g 11, g 12, g 13, g 14, g 15, g 16, g 17, g 18, g 19, g 20, g 21, g 22, g 23, g 24, g 25, g 26, g 27] rfl rfl (fun _ _ _ _ h => h) (fun _ _ _ => trivial) (fun H locs hP hD hS => ?_)
      have hP : va_P D vwCl (wM g cA t s y d q k r c o m) H := hP
      have hD : va_D A (wM g cA t s y d q k r c o m) := hD
      obtain ⟨u10, h11, hE⟩ := bd_some hE
      refine cn_v (As := [.int u8]) (rest := []) (w0 := (wM g cA t s y d q k r c o m)) (N := 28) ⟨hx, hb, hml, hown, hts⟩ (c_X8_replaceTop l D cA (g 4) (g 5) H.size u8 (-3) s u10 h11) (cwV 1 hts hX3_useCell_X8_replaceTop_219 rfl rfl rfl (by decide +kernel) ⟨Nat.le_of_ble_eq_true rfl, Nat.le_of_ble_eq_true rfl⟩) rfl hl.1 rfl (Nat.le_of_ble_eq_true rfl) dX3_useCell_33 ⟨Nat.zero_le _, Nat.zero_le _⟩ hK hP hD hS hA (va_recv hK hP (ci := 7) (q0 := 4) rfl rfl) [4, 5] [0, 1, 2, 3, 6, 7, 8, 9, 10, 11, 12, 13, 14, 15, 16, 17, 18, 19, 20, 21, 22, 23, 24, 25, 26, 27] (wM g cA t u10 y d q k r c o m) rfl (by decide +kernel) rfl (wr := List.filterMap (fun i => (wM g cA t s y d q k r c o m)[i]?) [0, 1, 2, 3, 6, 7, 8, 9, 10, 11, 12, 13, 14, 15, 16, 17, 18, 19, 20, 21, 22, 23, 24, 25, 26, 27]) rfl rfl (by decide +kernel) rfl (by decide +kernel) [g 0, g 1, g 2, g 3, g 4, g 5, g 6, g 7, g 8, g 9, g 10, g 11, g 12, g 13, g 14, g 15, g 16, g 17, g 18, g 19, g 20, g 21, g 22, g 23, g 24, g 25, g 26, g 27] rfl rfl (fun _ _ _ _ h => h) (fun _ _ _ => trivial) (fun H locs hP hD hS => ?_)
      have hP : va_P D vwCl (wM g cA t u10 y d q k r c o m) H := hP
      have hD : va_D A (wM g cA t u10 y d q k r c o m) := hD
      refine lv_iconst (v := 0) hx hb dX3_useCell_36 (by decide +kernel) ?_
      obtain rfl := Option.some.inj hE
      exact rt_i hx hb hr hP hS rfl hlocks dX3_useCell_37
  · have hE := if_t c3 hE
    refine lv_bipush (v := (-9)) hx hb dX3_useCell_11 (by decide +kernel) ?_
    obtain rfl := Option.some.inj hE
    exact rt_i hx hb hr hP hS rfl hlocks dX3_useCell_13
