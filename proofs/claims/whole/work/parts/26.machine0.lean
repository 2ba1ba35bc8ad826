set_option maxRecDepth 20000 in
theorem hX3_endWith_X4_giveUp_145 : GoodIn wsX3_endWith (wsV RX3 145 RX4 yX4_giveUp wsX4_giveUp) := goodIn_r _ [8, 9, 10, 11, 12, 13, 14, 15, 16, 17, 18, 19, 20, 21, 22, 23, 46, 47, 48, 49, 50, 51, 52, 53, 54, 55, 56, 57, 58, 59, 60, 61, 62, 63, 64] rfl (by decide +kernel)
set_option maxHeartbeats 4000000 in
set_option maxRecDepth 100000 in
theorem c_X3_endWith (l : Launch) (D : va_G) (cA : Nat → ClassId) (ad adK adV : Nat → Nat) (tA tS : Nat) (g : Nat → Nat) (sz : Nat) (x1 : Int32) (t : tT) (s : tR) (y : tY) (d : tD) (q : tP) (k : tK) (r : tR) (c : tC) (o : tO) (m : tM) (u : tR × tY × tD × tP × tK × tR × tC × tM) (hE : f_X3_endWith x1 s y d q k r c m = some u) : Met l yX3_endWith wsX3_endWith ({ frames := 2, cells := 0, slots := 0, locals := 40 }) (va_Pc [.ref (g 0), .int x1] (PRE D cA (wM g cA t s y d q k r c o m) sz (fun U => SX ad adK adV tA tS (va_A (wM g cA t s y d q k r c o m) sz) U U.heap))) (cQv D (wM g cA t u.1 u.2.1 u.2.2.1 u.2.2.2.1 u.2.2.2.2.1 u.2.2.2.2.2.1 u.2.2.2.2.2.2.1 o u.2.2.2.2.2.2.2) (va_A (wM g cA t s y d q k r c o m) sz)) 0 0 (va_A (wM g cA t s y d q k r c o m) sz) := by
  refine Met.ofW (cc := cX3_endWith) (maxL := 2) (ret := none) (by decide) rfl ?_
  intro PP EE S0 MM args below meth CC S1 B hml hv
  obtain ⟨rfl, hsz, hP, hK, hD0, hX⟩ := hv
  have hx := B.exec
  have hb := B.bytes
  have hr := B.returns
  have hts := atoms_spec (ws := wsX3_endWith) B.pre
  have hown : S0.vm.findClass RX3 = some MM.cls := findClass_of_methodNamed B.named
  have hlocks := B.notSynchronized
  subst hsz
  have hD := hD0.self (sz := S0.heap.size)
  have hX : SX ad adK adV tA tS (va_A (wM g cA t s y d q k r c o m) S0.heap.size) S0 S0.heap := hX
  generalize hAe : va_A (wM g cA t s y d q k r c o m) S0.heap.size = A at hD hX ⊢
  have hA : ∀ q : Nat, S0.heap.size ≤ q → A q := fun q h => by rw [← hAe]; exact Or.inr h
  have hS : va_S A S0.heap S0.heap [] := va_S.rf
  have k0 := hts (.fieldLink RX3 23 "WordForge$Machine" "stack" "LWordForge$Row;") (List.mem_of_getElem? (i := 1) rfl)
  have inX3 : ∀ w ∈ wsX30, w ∈ wsX3_endWith := fun _ h => List.mem_cons_of_mem _ (List.mem_append_left _ (List.mem_append_left _ (List.mem_append_left _ (List.mem_append_left _ (List.mem_append_left _ (List.mem_append_left _ (List.mem_append_right _ h)))))))
  have k2 := hX.nest (.fieldLinkNest RX3 144 "WordForge$Row" "size" "I" "WordForge") (List.mem_of_getElem? (i := 2) rfl)
  have inX8 : ∀ w ∈ wsX80, w ∈ wsX3_endWith := fun _ h => List.mem_cons_of_mem _ (List.mem_append_left _ (List.mem_append_left _ (List.mem_append_left _ (List.mem_append_left _ (List.mem_append_left _ (List.mem_append_right _ h))))))
  have k4 := hts (.fieldLink RX3 27 "WordForge$Machine" "store" "LWordForge$Row;") (List.mem_of_getElem? (i := 2) rfl)
  have k5 := hts (.fieldLink RX3 47 "WordForge$Machine" "calls" "LWordForge$Calls;") (List.mem_of_getElem? (i := 3) rfl)
  have k6 := hX.nest (.fieldLinkNest RX3 143 "WordForge$Calls" "size" "I" "WordForge") (List.mem_of_getElem? (i := 20) rfl)
  have inX1 : ∀ w ∈ wsX10, w ∈ wsX3_endWith := fun _ h => List.mem_cons_of_mem _ (List.mem_append_left _ (List.mem_append_left _ (List.mem_append_left _ (List.mem_append_left _ (List.mem_append_right _ h)))))
  have k8 := hts (.fieldLink RX3 63 "WordForge$Machine" "maker" "LWordForge$Maker;") (List.mem_of_getElem? (i := 4) rfl)
  have k9 := hts (.fieldLink RX3 67 "WordForge$Machine" "nextWord" "I") (List.mem_of_getElem? (i := 5) rfl)
  have k10 := hts (.fieldLink RX3 83 "WordForge$Machine" "over" "Z") (List.mem_of_getElem? (i := 6) rfl)
  have k11 := hts (.fieldLink RX3 87 "WordForge$Machine" "answer" "I") (List.mem_of_getElem? (i := 7) rfl)
  have hl := lv_entry ([.ref (g 0), .int x1]) (n := 2) (Nat.le_of_ble_eq_true rfl)
  rw [lg_entry_eq]
  generalize (lg_sl ([.ref (g 0), .int x1]) ++ List.replicate (2 - (lg_sl ([.ref (g 0), .int x1])).length) Slot.unset).toArray = ls at hl ⊢
  have hl : lv_has ls 2 [(0, .ref (g 0)), (1, .int x1)] := hl
  unfold f_X3_endWith at hE
  suffices main : ∀ (H : Heap) (locs : List Loc) (ls : Array Slot), va_P D vwCl (wM g cA t s y d q k r c o m) H → va_D A (wM g cA t s y d q k r c o m) → va_S A S0.heap H locs → lv_has ls 2 [(0, .ref (g 0)), (1, .int x1)] → W PP l EE (headSpec wsX3_endWith ({ frames := 2, cells := 0, slots := 0, locals := 40 })).room S0 MM (#[.ref (g 0), .int x1] : Array Value) below meth CC H locs 0 0 (MQ below (cQv D (wM g cA t u.1 u.2.1 u.2.2.1 u.2.2.2.1 u.2.2.2.2.1 u.2.2.2.2.2.1 u.2.2.2.2.2.2.1 o u.2.2.2.2.2.2.2) A) (#[.ref (g 0), .int x1] : Array Value) S0 0 0 A) (F0 MM 0 ls []) from main _ _ _ hP hD hS hl
  intro H locs ls hP hD hS hl
  refine lv_aload_n hx hb dX3_endWith_0 rfl (lv_at hl 0 rfl) ?_
  refine va_get (D := D) (ci := 2) (v := .ref (g 4)) (C := RX3) (T := TX3) (N := 14) hx hb hts inX3 hown hK hP 0 rfl rfl 1 (by decide) k0 (fun _ h9 => h9) rfl dX3_endWith_1 ?_
  refine lv_iconst (v := 0) hx hb dX3_endWith_4 (by decide +kernel) ?_
  refine va_putN (D := D) (ci := 7) (v := .int 0) (ty := .int) (C := RX8) (T := TX8) (N := 3) hx hb hts inX8 tyX8 tyX8_ok nmX8 hown hK hP hD hS 4 rfl rfl 2 (by decide) (k2 _) (fun _ h9 => h9) rfl (by decide +kernel) rfl rfl (Nat.le_of_ble_eq_true rfl) dX3_endWith_5 (fun H locs hP hD hS => ?_)
  have hP : va_P D vwCl (wM g cA t ((0, s.2)) y d q k r c o m) H := hP
  have hD : va_D A (wM g cA t ((0, s.2)) y d q k r c o m) := hD
  refine lv_aload_n hx hb dX3_endWith_8 rfl (lv_at hl 0 rfl) ?_
  refine va_get (D := D) (ci := 2) (v := .ref (g 19)) (C := RX3) (T := TX3) (N := 14) hx hb hts inX3 hown hK hP 0 rfl rfl 2 (by decide) k4 (fun _ h9 => h9) rfl dX3_endWith_9 ?_
  refine lv_iconst (v := 0) hx hb dX3_endWith_12 (by decide +kernel) ?_
  refine va_putN (D := D) (ci := 7) (v := .int 0) (ty := .int) (C := RX8) (T := TX8) (N := 3) hx hb hts inX8 tyX8 tyX8_ok nmX8 hown hK hP hD hS 19 rfl rfl 2 (by decide) (k2 _) (fun _ h9 => h9) rfl (by decide +kernel) rfl rfl (Nat.le_of_ble_eq_true rfl) dX3_endWith_13 (fun H locs hP hD hS => ?_)
  have hP : va_P D vwCl (wM g cA t ((0, s.2)) y d q k ((0, r.2)) c o m) H := hP
  have hD : va_D A (wM g cA t ((0, s.2)) y d q k ((0, r.2)) c o m) := hD
  refine lv_aload_n hx hb dX3_endWith_16 rfl (lv_at hl 0 rfl) ?_
  refine va_get (D := D) (ci := 2) (v := .ref (g 21)) (C := RX3) (T := TX3) (N := 14) hx hb hts inX3 hown hK hP 0 rfl rfl 5 (by decide) k5 (fun _ h9 => h9) rfl dX3_endWith_17 ?_
  refine lv_iconst (v := 0) hx hb dX3_endWith_20 (by decide +kernel) ?_
  refine va_putN (D := D) (ci := 0) (v := .int 0) (ty := .int) (C := RX1) (T := TX1) (N := 5) hx hb hts inX1 tyX1 tyX1_ok nmX1 hown hK hP hD hS 21 rfl rfl 4 (by decide) (k6 _) (fun _ h9 => h9) rfl (by decide +kernel) rfl rfl (Nat.le_of_ble_eq_true rfl) dX3_endWith_21 (fun H locs hP hD hS => ?_)
  have hP : va_P D vwCl (wM g cA t ((0, s.2)) y d q k ((0, r.2)) ((0, c.2.1, c.2.2.1, c.2.2.2.1, c.2.2.2.2)) o m) H := hP
  have hD : va_D A (wM g cA t ((0, s.2)) y d q k ((0, r.2)) ((0, c.2.1, c.2.2.1, c.2.2.2.1, c.2.2.2.2)) o m) := hD
  refine lv_aload_n hx hb dX3_endWith_24 rfl (lv_at hl 0 rfl) ?_
  refine va_get (D := D) (ci := 2) (v := .ref (g 1)) (C := RX3) (T := TX3) (N := 14) hx hb hts inX3 hown hK hP 0 rfl rfl 7 (by decide) k8 (fun _ h9 => h9) rfl dX3_endWith_25 ?_
  obtain ⟨u1, h2, hE⟩ := bd_some hE
  refine cn_v (As := []) (rest := []) (w0 := (wM g cA t (((0, s.2))) y d q k ((0, r.2)) ((0, c.2.1, c.2.2.1, c.2.2.2.1, c.2.2.2.2)) o m)) (N := 28) ⟨hx, hb, hml, hown, hts⟩ (c_X4_giveUp l D cA ad adK adV tA tS (fun k => g (k + 1)) H.size t ((0, s.2)) y d q k u1 h2) (cwV 0 hts hX3_endWith_X4_giveUp_145 rfl rfl rfl (by decide +kernel) ⟨Nat.le_of_ble_eq_true rfl, Nat.le_of_ble_eq_true rfl⟩) rfl hl.1 rfl (Nat.le_of_ble_eq_true rfl) dX3_endWith_28 ⟨Nat.zero_le _, Nat.zero_le _⟩ hK hP hD hS hA (va_recv hK hP (ci := 3) (q0 := 1) rfl rfl) [1, 2, 3, 4, 5, 6, 7, 8, 9, 10, 11, 12, 13, 14, 15, 16, 17, 18] [0, 19, 20, 21, 22, 23, 24, 25, 26, 27] (wM g cA t ((0, s.2)) u1.1 u1.2.1 u1.2.2.1 u1.2.2.2 ((0, r.2)) ((0, c.2.1, c.2.2.1, c.2.2.2.1, c.2.2.2.2)) o m) rfl (by decide +kernel) rfl (wr := List.filterMap (fun i => (wM g cA t (((0, s.2))) y d q k ((0, r.2)) ((0, c.2.1, c.2.2.1, c.2.2.2.1, c.2.2.2.2)) o m)[i]?) [0, 19, 20, 21, 22, 23, 24, 25, 26, 27]) rfl rfl (by decide +kernel) rfl (by decide +kernel) [g 0, g 1, g 2, g 3, g 4, g 5, g 6, g 7, g 8, g 9, g 10, g 11, g 12, g 13, g 14, g 15, g 16, g 17, g 18, g 19, g 20, g 21, g 22, g 23, g 24, g 25, g 26, g 27] rfl rfl (fun a U g mk h => SX.blind a U g mk h) (fun U hU hW => SX.call hX hS (va_free (wc := (wK (fun k => g (k + 1)) cA t ((0, s.2)) y d q k)) hD hS hA [1, 2, 3, 4, 5, 6, 7, 8, 9, 10, 11, 12, 13, 14, 15, 16, 17, 18] rfl) U hU hW) (fun H locs hP hD hS => ?_)
  have hP : va_P D vwCl (wM g cA t ((0, s.2)) u1.1 u1.2.1 u1.2.2.1 u1.2.2.2 ((0, r.2)) ((0, c.2.1, c.2.2.1, c.2.2.2.1, c.2.2.2.2)) o m) H := hP
  have hD : va_D A (wM g cA t ((0, s.2)) u1.1 u1.2.1 u1.2.2.1 u1.2.2.2 ((0, r.2)) ((0, c.2.1, c.2.2.1, c.2.2.2.1, c.2.2.2.2)) o m) := hD
  refine lv_aload_n hx hb dX3_endWith_31 rfl (lv_at hl 0 rfl) ?_
  refine lv_iconst (v := (-1)) hx hb dX3_endWith_32 (by decide +kernel) ?_
  refine va_put (D := D) (ci := 2) (v := .int ((-1))) (ty := .int) (C := RX3) (T := TX3) (N := 14) hx hb hts inX3 tyX3 tyX3_ok nmX3 hown hK hP hD hS 0 rfl rfl 11 (by decide) k9 (fun _ h9 => h9) rfl (by decide +kernel) rfl rfl (Nat.le_of_ble_eq_true rfl) dX3_endWith_33 (fun H locs hP hD hS => ?_)
  have hP : va_P D vwCl (wM g cA t ((0, s.2)) u1.1 u1.2.1 u1.2.2.1 u1.2.2.2 ((0, r.2)) ((0, c.2.1, c.2.2.1, c.2.2.2.1, c.2.2.2.2)) o ((m.1, m.2.1, m.2.2.1, (-1), m.2.2.2.2.1, m.2.2.2.2.2))) H := hP
  have hD : va_D A (wM g cA t ((0, s.2)) u1.1 u1.2.1 u1.2.2.1 u1.2.2.2 ((0, r.2)) ((0, c.2.1, c.2.2.1, c.2.2.2.1, c.2.2.2.2)) o ((m.1, m.2.1, m.2.2.1, (-1), m.2.2.2.2.1, m.2.2.2.2.2))) := hD
  refine lv_aload_n hx hb dX3_endWith_36 rfl (lv_at hl 0 rfl) ?_
  refine lv_iconst (v := 1) hx hb dX3_endWith_37 (by decide +kernel) ?_
  refine va_put (D := D) (ci := 2) (v := .int 1) (ty := .boolean) (C := RX3) (T := TX3) (N := 14) hx hb hts inX3 tyX3 tyX3_ok nmX3 hown hK hP hD hS 0 rfl rfl 12 (by decide) k10 (fun _ h9 => h9) rfl (by decide +kernel) (by decide +kernel) (by decide +kernel) (Nat.le_of_ble_eq_true rfl) dX3_endWith_38 (fun H locs hP hD hS => ?_)
  have hP : va_P D vwCl (wM g cA t ((0, s.2)) u1.1 u1.2.1 u1.2.2.1 u1.2.2.2 ((0, r.2)) ((0, c.2.1, c.2.2.1, c.2.2.2.1, c.2.2.2.2)) o ((m.1, m.2.1, m.2.2.1, (-1), 1, m.2.2.2.2.2))) H := hP
  have hD : va_D A (wM g cA t ((0, s.2)) u1.1 u1.2.1 u1.2.2.1 u1.2.2.2 ((0, r.2)) ((0, c.2.1, c.2.2.1, c.2.2.2.1, c.2.2.2.2)) o ((m.1, m.2.1, m.2.2.1, (-1), 1, m.2.2.2.2.2))) := hD
  refine lv_aload_n hx hb dX3_endWith_41 rfl (lv_at hl 0 rfl) ?_
  refine lv_iload_n hx hb dX3_endWith_42 rfl (lv_at hl 1 rfl) ?_
  refine va_put (D := D) (ci := 2) (v := .int x1) (ty := .int) (C := RX3) (T := TX3) (N := 14) hx hb hts inX3 tyX3 tyX3_ok nmX3 hown hK hP hD hS 0 rfl rfl 13 (by decide) k11 (fun _ h9 => h9) rfl (by decide +kernel) rfl rfl (Nat.le_of_ble_eq_true rfl) dX3_endWith_43 (fun H locs hP hD hS => ?_)
  have hP : va_P D vwCl (wM g cA t ((0, s.2)) u1.1 u1.2.1 u1.2.2.1 u1.2.2.2 ((0, r.2)) ((0, c.2.1, c.2.2.1, c.2.2.2.1, c.2.2.2.2)) o ((m.1, m.2.1, m.2.2.1, (-1), 1, x1))) H := hP
  have hD : va_D A (wM g cA t ((0, s.2)) u1.1 u1.2.1 u1.2.2.1 u1.2.2.2 ((0, r.2)) ((0, c.2.1, c.2.2.1, c.2.2.2.1, c.2.2.2.2)) o ((m.1, m.2.1, m.2.2.1, (-1), 1, x1))) := hD
  obtain rfl := Option.some.inj hE
  exact rt_v hx hb hr hP hS hlocks dX3_endWith_46
set_option maxRecDepth 20000 in
theorem hX3_goOnWithCall_X1_place_175 : GoodIn wsX3_goOnWithCall (wsV RX3 175 RX1 yX1_place wsX1_place) := goodIn_r _ [5, 6, 7, 8, 9, 10, 11, 47, 48, 49, 50, 51] rfl (by decide +kernel)
set_option maxRecDepth 20000 in
theorem hX3_goOnWithCall_X5_isCell_178 : GoodIn wsX3_goOnWithCall (wsV RX3 178 RX5 yX5_isCell wsX5_isCell) := goodIn_r _ [12, 13, 14, 15, 16] rfl (by decide +kernel)
set_option maxRecDepth 20000 in
theorem hX3_goOnWithCall_X5_at_181 : GoodIn wsX3_goOnWithCall (wsV RX3 181 RX5 yX5_at wsX5_at) := goodIn_r _ [17, 18, 19, 15, 20, 21, 22, 13, 14, 15, 16, 52, 53] rfl (by decide +kernel)
set_option maxRecDepth 20000 in
theorem hX3_goOnWithCall_X2_isWord_184 : GoodIn wsX3_goOnWithCall (wsV RX3 184 RX2 yX2_isWord wsX2_isWord) := goodIn_r _ [23, 24, 25, 26, 27, 28, 54, 55, 56, 57, 58, 59, 60, 61] rfl (by decide +kernel)
set_option maxRecDepth 20000 in
theorem hX3_goOnWithCall_X1_goOnAt_187 : GoodIn wsX3_goOnWithCall (wsV RX3 187 RX1 yX1_goOnAt wsX1_goOnAt) := goodIn_r _ [29, 30, 31, 8, 32, 10, 11, 47, 48, 49, 50, 51] rfl (by decide +kernel)
set_option maxHeartbeats 4000000 in
set_option maxRecDepth 100000 in
theorem c_X3_goOnWithCall (l : Launch) (D : va_G) (cA : Nat → ClassId) (ad adK adV : Nat → Nat) (tA tS : Nat) (g : Nat → Nat) (sz : Nat) (t : tT) (s : tR) (y : tY) (d : tD) (q : tP) (k : tK) (r : tR) (c : tC) (o : tO) (m : tM) (u : Int32 × tC × tM) (hE : f_X3_goOnWithCall y d c m = some u) : Met l yX3_goOnWithCall wsX3_goOnWithCall ({ frames := 2, cells := 0, slots := 0, locals := 42 }) (va_Pc [.ref (g 0)] (PRE D cA (wM g cA t s y d q k r c o m) sz (fun U => SX ad adK adV tA tS (va_A (wM g cA t s y d q k r c o m) sz) U U.heap))) (cQi D (wM g cA t s y d q k r u.2.1 o u.2.2) (va_A (wM g cA t s y d q k r c o m) sz) u.1) 0 0 (va_A (wM g cA t s y d q k r c o m) sz) := by
  refine Met.ofW (cc := cX3_goOnWithCall) (maxL := 2) (ret := (some .int)) (by decide) rfl ?_
  intro PP EE S0 MM args below meth CC S1 B hml hv
  obtain ⟨rfl, hsz, hP, hK, hD0, hX⟩ := hv
  have hx := B.exec
  have hb := B.bytes
  have hr := B.returns
  have hts := atoms_spec (ws := wsX3_goOnWithCall) B.pre
  have hown : S0.vm.findClass RX3 = some MM.cls := findClass_of_methodNamed B.named
  have hlocks := B.notSynchronized
  subst hsz
  have hD := hD0.self (sz := S0.heap.size)
  have hX : SX ad adK adV tA tS (va_A (wM g cA t s y d q k r c o m) S0.heap.size) S0 S0.heap := hX
  generalize hAe : va_A (wM g cA t s y d q k r c o m) S0.heap.size = A at hD hX ⊢
  have hA : ∀ q : Nat, S0.heap.size ≤ q → A q := fun q h => by rw [← hAe]; exact Or.inr h
  have hS : va_S A S0.heap S0.heap [] := va_S.rf
  have k0 := hts (.fieldLink RX3 47 "WordForge$Machine" "calls" "LWordForge$Calls;") (List.mem_of_getElem? (i := 1) rfl)
  have inX3 : ∀ w ∈ wsX30, w ∈ wsX3_goOnWithCall := fun _ h => List.mem_cons_of_mem _ (List.mem_append_left _ (List.mem_append_left _ (List.mem_append_left _ (List.mem_append_right _ h))))
  have k2 := hts (.fieldLink RX3 33 "WordForge$Machine" "memory" "LWordForge$Memory;") (List.mem_of_getElem? (i := 2) rfl)
  have k3 := hts (.fieldLink RX3 40 "WordForge$Machine" "dictionary" "LWordForge$Dictionary;") (List.mem_of_getElem? (i := 3) rfl)
  have k4 := hts (.fieldLink RX3 67 "WordForge$Machine" "nextWord" "I") (List.mem_of_getElem? (i := 4) rfl)
  have hl := lv_entry ([.ref (g 0)]) (n := 2) (Nat.le_of_ble_eq_true rfl)
  rw [lg_entry_eq]
  generalize (lg_sl ([.ref (g 0)]) ++ List.replicate (2 - (lg_sl ([.ref (g 0)])).length) Slot.unset).toArray = ls at hl ⊢
  have hl : lv_has ls 2 [(0, .ref (g 0))] := hl
  unfold f_X3_goOnWithCall at hE
  suffices main : ∀ (H : Heap) (locs : List Loc) (ls : Array Slot), va_P D vwCl (wM g cA t s y d q k r c o m) H → va_D A (wM g cA t s y d q k r c o m) → va_S A S0.heap H locs → lv_has ls 2 [(0, .ref (g 0))] → W PP l EE (headSpec wsX3_goOnWithCall ({ frames := 2, cells := 0, slots := 0, locals := 42 })).room S0 MM (#[.ref (g 0)] : Array Value) below meth CC H locs 0 0 (MQ below (cQi D (wM g cA t s y d q k r u.2.1 o u.2.2) A u.1) (#[.ref (g 0)] : Array Value) S0 0 0 A) (F0 MM 0 ls []) from main _ _ _ hP hD hS hl
  intro H locs ls hP hD hS hl
  refine lv_aload_n hx hb dX3_goOnWithCall_0 rfl (lv_at hl 0 rfl) ?_
  refine va_get (D := D) (ci := 2) (v := .ref (g 21)) (C := RX3) (T := TX3) (N := 14) hx hb hts inX3 hown hK hP 0 rfl rfl 5 (by decide) k0 (fun _ h9 => h9) rfl dX3_goOnWithCall_1 ?_
  obtain ⟨u1, h2, hE⟩ := bd_some hE
  refine cn_i (As := []) (rest := []) (r := u1) (w0 := (wM g cA t s y d q k r c o m)) (N := 28) ⟨hx, hb, hml, hown, hts⟩ (c_X1_place l D cA (g 21) (g 22) (g 23) (g 24) (g 25) H.size c u1 h2) (cwV 0 hts hX3_goOnWithCall_X1_place_175 rfl rfl rfl (by decide +kernel) ⟨Nat.le_of_ble_eq_true rfl, Nat.le_of_ble_eq_true rfl⟩) rfl hl.1 rfl (Nat.le_of_ble_eq_true rfl) dX3_goOnWithCall_4 ⟨Nat.zero_le _, Nat.zero_le _⟩ hK hP hD hS hA (va_recv hK hP (ci := 0) (q0 := 21) rfl rfl) [21, 22, 23, 24, 25] [0, 1, 2, 3, 4, 5, 6, 7, 8, 9, 10, 11, 12, 13, 14, 15, 16, 17, 18, 19, 20, 26, 27] (wM g cA t s y d q k r c o m) rfl (by decide +kernel) rfl (wr := List.filterMap (fun i => (wM g cA t s y d q k r c o m)[i]?) [0, 1, 2, 3, 4, 5, 6, 7, 8, 9, 10, 11, 12, 13, 14, 15, 16, 17, 18, 19, 20, 26, 27]) rfl rfl (by decide +kernel) rfl (by decide +kernel) [g 0, g 1, g 2, g 3, g 4, g 5, g 6, g 7, g 8, g 9, g 10, g 11, g 12, g 13, g 14, g 15, g 16, g 17, g 18, g 19, g 20, g 21, g 22, g 23, g 24, g 25, g 26, g 27] rfl rfl (fun _ _ _ _ h => h) (fun _ _ _ => trivial) (fun H locs hP hD hS => ?_)
  have hP : va_P D vwCl (wM g cA t s y d q k r c o m) H := hP
  have hD : va_D A (wM g cA t s y d q k r c o m) := hD
  refine lv_istore_n (lv' := [(1, .int u1), (0, .ref (g 0))]) hx hb dX3_goOnWithCall_7 rfl hl (by decide) rfl (fun ls hl => ?_)
  refine lv_aload_n hx hb dX3_goOnWithCall_8 rfl (lv_at hl 1 rfl) ?_
  refine va_get (D := D) (ci := 2) (v := .ref (g 6)) (C := RX3) (T := TX3) (N := 14) hx hb hts inX3 hown hK hP 0 rfl rfl 3 (by decide) k2 (fun _ h9 => h9) rfl dX3_goOnWithCall_9 ?_
  refine lv_iload_n hx hb dX3_goOnWithCall_12 rfl (lv_at hl 0 rfl) ?_
  obtain ⟨u3, h4, hE⟩ := bd_some hE
  refine cn_i (As := [.int u1]) (rest := []) (r := u3) (w0 := (wM g cA t s y d q k r c o m)) (N := 28) ⟨hx, hb, hml, hown, hts⟩ (c_X5_isCell l D cA (g 6) (g 7) H.size u1 y u3 h4) (cwV 1 hts hX3_goOnWithCall_X5_isCell_178 rfl rfl rfl (by decide +kernel) ⟨Nat.le_of_ble_eq_true rfl, Nat.le_of_ble_eq_true rfl⟩) rfl hl.1 rfl (Nat.le_of_ble_eq_true rfl) dX3_goOnWithCall_13 ⟨Nat.zero_le _, Nat.zero_le _⟩ hK hP hD hS hA (va_recv hK hP (ci := 4) (q0 := 6) rfl rfl) [6, 7] [0, 1, 2, 3, 4, 5, 8, 9, 10, 11, 12, 13, 14, 15, 16, 17, 18, 19, 20, 21, 22, 23, 24, 25, 26, 27] (wM g cA t s y d q k r c o m) rfl (by decide +kernel) rfl (wr := List.filterMap (fun i => (wM g cA t s y d q k r c o m)[i]?) [0, 1, 2, 3, 4, 5, 8, 9, 10, 11, 12, 13, 14, 15, 16, 17, 18, 19, 20, 21, 22, 23, 24, 25, 26, 27]) rfl rfl (by decide +kernel) rfl (by decide +kernel) [g 0, g 1, g 2, g 3, g 4, g 5, g 6, g 7, g 8, g 9, g 10, g 11, g 12, g 13, g 14, g 15, g 16, g 17, g 18, g 19, g 20, g 21, g 22, g 23, g 24, g 25, g 26, g 27] rfl rfl (fun _ _ _ _ h => h) (fun _ _ _ => trivial) (fun H locs hP hD hS => ?_)
  have hP : va_P D vwCl (wM g cA t s y d q k r c o m) H := hP
  have hD : va_D A (wM g cA t s y d q k r c o m) := hD
  refine lv_if_eq (tgt := 37) hx hb dX3_goOnWithCall_16 (by decide) (fun c5 => ?_) (fun c5 => ?_)
  · have hE := if_t c5 hE
    refine lv_bipush (v := (-9)) hx hb dX3_goOnWithCall_37 (by decide +kernel) ?_
    obtain rfl := Option.some.inj hE
    exact rt_i hx hb hr hP hS rfl hlocks dX3_goOnWithCall_39
  · have hE := if_f c5 hE
    refine lv_aload_n hx hb dX3_goOnWithCall_19 rfl (lv_at hl 1 rfl) ?_
    refine va_get (D := D) (ci := 2) (v := .ref (g 8)) (C := RX3) (T := TX3) (N := 14) hx hb hts inX3 hown hK hP 0 rfl rfl 4 (by decide) k3 (fun _ h9 => h9) rfl dX3_goOnWithCall_20 ?_
    refine lv_aload_n hx hb dX3_goOnWithCall_23 rfl (lv_at hl 1 rfl) ?_
    refine va_get (D := D) (ci := 2) (v := .ref (g 6)) (C := RX3) (T := TX3) (N := 14) hx hb hts inX3 hown hK hP 0 rfl rfl 3 (by decide) k2 (fun _ h9 => h9) rfl dX3_goOnWithCall_24 ?_
    refine lv_iload_n hx hb dX3_goOnWithCall_27 rfl (lv_at hl 0 rfl) ?_
    obtain ⟨u6, h7, hE⟩ := bd_some hE
    refine cn_i (As := [.int u1]) (rest := [.ref (g 8)]) (r := u6) (w0 := (wM g cA t s y d q k r c o m)) (N := 28) ⟨hx, hb, hml, hown, hts⟩ (c_X5_at l D cA (g 6) (g 7) H.size u1 y u6 h7) (cwV 1 hts hX3_goOnWithCall_X5_at_181 rfl rfl rfl (by decide +kernel) ⟨Nat.le_of_ble_eq_true rfl, Nat.le_of_ble_eq_true rfl⟩) rfl hl.1 rfl (Nat.le_of_ble_eq_true rfl) dX3_goOnWithCall_28 ⟨Nat.zero_le _, Nat.zero_le _⟩ hK hP hD hS hA (va_recv hK hP (ci := 4) (q0 := 6) rfl rfl) [6, 7] [0, 1, 2, 3, 4, 5, 8, 9, 10, 11, 12, 13, 14, 15, 16, 17, 18, 19, 20, 21, 22, 23, 24, 25, 26, 27] (wM g cA t s y d q k r c o m) rfl (by decide +kernel) rfl (wr := List.filterMap (fun i => (wM g cA t s y d q k r c o m)[i]?) [0, 1, 2, 3, 4, 5, 8, 9, 10, 11, 12, 13, 14, 15, 16, 17, 18, 19, 20, 21, 22, 23, 24, 25, 26, 27]) rfl rfl (by decide +kernel) rfl (by decide +kernel) [g 0, g 1, g 2, g 3, g 4, g 5, g 6, g 7, g 8, g 9, g 10, g 11, g 12, g 13, g 14, g 15, g 16, g 17, g 18, g 19, g 20, g 21, g 22, g 23, g 24, g 25, g 26, g 27] rfl rfl (fun _ _ _ _ h => h) (fun _ _ _ => trivial) (fun H locs hP hD hS => ?_)
    have hP : va_P D vwCl (wM g cA t s y d q k r c o m) H := hP
    have hD : va_D A (wM g cA t s y d q k r c o m) := hD
    obtain ⟨u8, h9, hE⟩ := bd_some hE
    refine cn_i (As := [.int u6]) (rest := []) (r := u8) (w0 := (wM g cA t s y d q k r c o m)) (N := 28) ⟨hx, hb, hml, hown, hts⟩ (c_X2_isWord l D cA ad adK adV tA tS (g 8) (g 9) (g 10) (g 11) (g 12) (g 13) (g 14) (g 15) H.size u6 d u8 h9) (cwV 1 hts hX3_goOnWithCall_X2_isWord_184 rfl rfl rfl (by decide +kernel) ⟨Nat.le_of_ble_eq_true rfl, Nat.le_of_ble_eq_true rfl⟩) rfl hl.1 rfl (Nat.le_of_ble_eq_true rfl) dX3_goOnWithCall_31 ⟨Nat.zero_le _, Nat.zero_le _⟩ hK hP hD hS hA (va_recv hK hP (ci := 1) (q0 := 8) rfl rfl) [8, 9, 10, 11, 12, 13, 14, 15] [0, 1, 2, 3, 4, 5, 6, 7, 16, 17, 18, 19, 20, 21, 22, 23, 24, 25, 26, 27] (wM g cA t s y d q k r c o m) rfl (by decide +kernel) rfl (wr := List.filterMap (fun i => (wM g cA t s y d q k r c o m)[i]?) [0, 1, 2, 3, 4, 5, 6, 7, 16, 17, 18, 19, 20, 21, 22, 23, 24, 25, 26, 27]) rfl rfl (by decide +kernel) rfl (by decide +kernel) [g 0, g 1, g 2, g 3, g 4, g 5, g 6, g 7, g 8, g 9, g 10, g 11, g 12, g 13, g 14, g 15, g 16, g 17, g 18, g 19, g 20, g 21, g 22, g 23, g 24, g 25, g 26, g 27] rfl rfl (fun a U g mk h => SX.blind a U g mk h) (fun U hU hW => SX.call hX hS (va_free (wc := (wD (g 8) (g 9) (g 10) (g 11) (g 12) (g 13) (g 14) (g 15) cA d)) hD hS hA [8, 9, 10, 11, 12, 13, 14, 15] rfl) U hU hW) (fun H locs hP hD hS => ?_)
    have hP : va_P D vwCl (wM g cA t s y d q k r c o m) H := hP
    have hD : va_D A (wM g cA t s y d q k r c o m) := hD
    refine lv_if_ne (tgt := 40) hx hb dX3_goOnWithCall_34 (by decide) (fun c10 => ?_) (fun c10 => ?_)
    · have hE := if_f c10 hE
      refine lv_aload_n hx hb dX3_goOnWithCall_40 rfl (lv_at hl 1 rfl) ?_
      refine va_get (D := D) (ci := 2) (v := .ref (g 21)) (C := RX3) (T := TX3) (N := 14) hx hb hts inX3 hown hK hP 0 rfl rfl 5 (by decide) k0 (fun _ h9 => h9) rfl dX3_goOnWithCall_41 ?_
      refine lv_iload_n hx hb dX3_goOnWithCall_44 rfl (lv_at hl 0 rfl) ?_
      refine lv_iconst (v := 1) hx hb dX3_goOnWithCall_45 (by decide +kernel) ?_
      refine lv_iadd hx hb dX3_goOnWithCall_46 ?_
      obtain ⟨u11, h12, hE⟩ := bd_some hE
      refine cn_v (As := [.int (u1 + 1)]) (rest := []) (w0 := (wM g cA t s y d q k r c o m)) (N := 28) ⟨hx, hb, hml, hown, hts⟩ (c_X1_goOnAt l D cA (g 21) (g 22) (g 23) (g 24) (g 25) H.size (u1 + 1) c u11 h12) (cwV 1 hts hX3_goOnWithCall_X1_goOnAt_187 rfl rfl rfl (by decide +kernel) ⟨Nat.le_of_ble_eq_true rfl, Nat.le_of_ble_eq_true rfl⟩) rfl hl.1 rfl (Nat.le_of_ble_eq_true rfl) dX3_goOnWithCall_47 ⟨Nat.zero_le _, Nat.zero_le _⟩ hK hP hD hS hA (va_recv hK hP (ci := 0) (q0 := 21) rfl rfl) [21, 22, 23, 24, 25] [0, 1, 2, 3, 4, 5, 6, 7, 8, 9, 10, 11, 12, 13, 14, 15, 16, 17, 18, 19, 20, 26, 27] (wM g cA t s y d q k r u11 o m) rfl (by decide +kernel) rfl (wr := List.filterMap (fun i => (wM g cA t s y d q k r c o m)[i]?) [0, 1, 2, 3, 4, 5, 6, 7, 8, 9, 10, 11, 12, 13, 14, 15, 16, 17, 18, 19, 20, 26, 27]) rfl rfl (by decide +kernel) rfl (by decide +kernel) [g 0, g 1, g 2, g 3, g 4, g 5, g 6, g 7, g 8, g 9, g 10, g 11, g 12, g 13, g 14, g 15, g 16, g 17, g 18, g 19, g 20, g 21, g 22, g 23, g 24, g 25, g 26, g 27] rfl rfl (fun _ _ _ _ h => h) (fun _ _ _ => trivial) (fun H locs hP hD hS => ?_)
      have hP : va_P D vwCl (wM g cA t s y d q k r u11 o m) H := hP
      have hD : va_D A (wM g cA t s y d q k r u11 o m) := hD
      refine lv_aload_n hx hb dX3_goOnWithCall_50 rfl (lv_at hl 1 rfl) ?_
      refine lv_aload_n hx hb dX3_goOnWithCall_51 rfl (lv_at hl 1 rfl) ?_
      refine va_get (D := D) (ci := 2) (v := .ref (g 6)) (C := RX3) (T := TX3) (N := 14) hx hb hts inX3 hown hK hP 0 rfl rfl 3 (by decide) k2 (fun _ h9 => h9) rfl dX3_goOnWithCall_52 ?_
      refine lv_iload_n hx hb dX3_goOnWithCall_55 rfl (lv_at hl 0 rfl) ?_
      obtain ⟨u13, h14, hE⟩ := bd_some hE
      refine cn_i (As := [.int u1]) (rest := [.ref (g 0)]) (r := u13) (w0 := (wM g cA t s y d q k r u11 o m)) (N := 28) ⟨hx, hb, hml, hown, hts⟩ (c_X5_at l D cA (g 6) (g 7) H.size u1 y u13 h14) (cwV 1 hts hX3_goOnWithCall_X5_at_181 rfl rfl rfl (by decide +kernel) ⟨Nat.le_of_ble_eq_true rfl, Nat.le_of_ble_eq_true rfl⟩) rfl hl.1 rfl (Nat.le_of_ble_eq_true rfl) dX3_goOnWithCall_56 ⟨Nat.zero_le _, Nat.zero_le _⟩ hK hP hD hS hA (va_recv hK hP (ci := 4) (q0 := 6) rfl rfl) [6, 7] [0, 1, 2, 3, 4, 5, 8, 9, 10, 11, 12, 13, 14, 15, 16, 17, 18, 19, 20, 21, 22, 23, 24, 25, 26, 27] (wM g cA t s y d q k r u11 o m) rfl (by decide +kernel) rfl (wr := List.filterMap (fun i => (wM g cA t s y d q k r u11 o m)[i]?) [0, 1, 2, 3, 4, 5, 8, 9, 10, 11, 12, 13, 14, 15, 16, 17, 18, 19, 20, 21, 22, 23, 24, 25, 26, 27]) rfl rfl (by decide +kernel) rfl (by decide +kernel) [g 0, g 1, g 2, g 3, g 4, g 5, g 6, g 7, g 8, g 9, g 10, g 11, g 12, g 13, g 14, g 15, g 16, g 17, g 18, g 19, g 20, g 21, g 22, g 23, g 24, g 25, g 26, g 27] rfl rfl (fun _ _ _ _ h => h) (fun _ _ _ => trivial) (fun H locs hP hD hS => ?_)
      have hP : va_P D vwCl (wM g cA t s y d q k r u11 o m) H := hP
      have hD : va_D A (wM g cA t s y d q k r u11 o m) := hD
      refine va_put (D := D) (ci := 2) (v := .int u13) (ty := .int) (C := RX3) (T := TX3) (N := 14) hx hb hts inX3 tyX3 tyX3_ok nmX3 hown hK hP hD hS 0 rfl rfl 11 (by decide) k4 (fun _ h9 => h9) rfl (by decide +kernel) rfl rfl (Nat.le_of_ble_eq_true rfl) dX3_goOnWithCall_59 (fun H locs hP hD hS => ?_)
      have hP : va_P D vwCl (wM g cA t s y d q k r u11 o ((m.1, m.2.1, m.2.2.1, u13, m.2.2.2.2.1, m.2.2.2.2.2))) H := hP
      have hD : va_D A (wM g cA t s y d q k r u11 o ((m.1, m.2.1, m.2.2.1, u13, m.2.2.2.2.1, m.2.2.2.2.2))) := hD
      refine lv_iconst (v := 0) hx hb dX3_goOnWithCall_62 (by decide +kernel) ?_
      obtain rfl := Option.some.inj hE
      exact rt_i hx hb hr hP hS rfl hlocks dX3_goOnWithCall_63
    · have hE := if_t c10 hE
      refine lv_bipush (v := (-9)) hx hb dX3_goOnWithCall_37 (by decide +kernel) ?_
      obtain rfl := Option.some.inj hE
      exact rt_i hx hb hr hP hS rfl hlocks dX3_goOnWithCall_39
set_option maxRecDepth 20000 in
theorem hX3_readName_X2_find_148 : GoodIn wsX3_readName (wsV RX3 148 RX2 yX2_find wsX2_find) := goodIn_r _ [8, 9, 10, 11, 12, 13, 14, 15, 16, 17, 11, 18, 19, 20, 21, 22, 23, 24, 25, 26, 27, 28, 29, 30, 31, 32, 33, 34, 35, 36, 37, 38, 39, 40, 41, 42, 43, 44, 45, 46, 47, 48, 49, 50, 51, 52, 53, 54, 55, 56, 57, 58, 59, 60, 61, 62, 63, 64, 65, 66, 67, 68, 69, 70, 71, 72, 73, 74, 75, 76, 77, 78, 79, 80, 147, 148, 149, 150, 151, 152, 153, 154, 155, 156, 157, 158, 159] rfl (by decide +kernel)
set_option maxRecDepth 20000 in
theorem hX3_readName_X2_isImmediate_155 : GoodIn wsX3_readName (wsV RX3 155 RX2 yX2_isImmediate wsX2_isImmediate) := goodIn_r _ [81, 82, 83, 11, 84, 85, 86, 87, 88, 11, 89, 13, 147, 148, 149, 150, 151, 152, 153, 154] rfl (by decide +kernel)
set_option maxRecDepth 20000 in
theorem hX3_readName_X5_append_159 : GoodIn wsX3_readName (wsV RX3 159 RX5 yX5_append wsX5_append) := goodIn_r _ [90, 91, 92, 93, 94, 95, 96, 97, 98, 99, 93, 100, 160, 161] rfl (by decide +kernel)
set_option maxRecDepth 20000 in
theorem hX3_readName_X9_nameAsNumber_162 : GoodIn wsX3_readName (wsV RX3 162 RX9 yX9_nameAsNumber wsX9_nameAsNumber) := goodIn_r _ [101, 102, 103, 24, 104, 105, 106, 107, 108, 109, 110, 22, 23, 24, 25, 26, 27, 155, 156, 157, 158, 159] rfl (by decide +kernel)
set_option maxRecDepth 20000 in
theorem hX3_readName_X9_nameIsTooLong_168 : GoodIn wsX3_readName (wsV RX3 168 RX9 yX9_nameIsTooLong wsX9_nameIsTooLong) := goodIn_r _ [111, 112, 113, 24, 114, 105, 155, 156, 157, 158, 159] rfl (by decide +kernel)
set_option maxRecDepth 20000 in
theorem hX3_readName_X5_appendBoth_171 : GoodIn wsX3_readName (wsV RX3 171 RX5 yX5_appendBoth wsX5_appendBoth) := goodIn_r _ [115, 116, 117, 93, 118, 96, 95, 160, 161] rfl (by decide +kernel)
set_option maxRecDepth 20000 in
theorem hX3_readName_X8_put_120 : GoodIn wsX3_readName (wsV RX3 120 RX8 yX8_put wsX8_put) := goodIn_r _ [119, 120, 121, 122, 123, 124, 125, 126, 162, 163, 164] rfl (by decide +kernel)
set_option maxHeartbeats 4000000 in
set_option maxRecDepth 100000 in
theorem c_X3_readName (l : Launch) (D : va_G) (cA : Nat → ClassId) (ad adK adV : Nat → Nat) (tA tS : Nat) (g : Nat → Nat) (sz : Nat) (t : tT) (s : tR) (y : tY) (d : tD) (q : tP) (k : tK) (r : tR) (c : tC) (o : tO) (m : tM) (u : Int32 × tR × tY × tM) (hE : f_X3_readName t s y d k m = some u) : Met l yX3_readName wsX3_readName ({ frames := 6, cells := 0, slots := 0, locals := 130 }) (va_Pc [.ref (g 0)] (PRE D cA (wM g cA t s y d q k r c o m) sz (fun U => SX ad adK adV tA tS (va_A (wM g cA t s y d q k r c o m) sz) U U.heap))) (cQi D (wM g cA t u.2.1 u.2.2.1 d q k r c o u.2.2.2) (va_A (wM g cA t s y d q k r c o m) sz) u.1) 0 0 (va_A (wM g cA t s y d q k r c o m) sz) := by
  refine Met.ofW (cc := cX3_readName) (maxL := 4) (ret := (some .int)) (by decide) rfl ?_
  intro PP EE S0 MM args below meth CC S1 B hml hv
  obtain ⟨rfl, hsz, hP, hK, hD0, hX⟩ := hv
  have hx := B.exec
  have hb := B.bytes
  have hr := B.returns
  have hts := atoms_spec (ws := wsX3_readName) B.pre
  have hown : S0.vm.findClass RX3 = some MM.cls := findClass_of_methodNamed B.named
  have hlocks := B.notSynchronized
  subst hsz
  have hD := hD0.self (sz := S0.heap.size)
  have hX : SX ad adK adV tA tS (va_A (wM g cA t s y d q k r c o m) S0.heap.size) S0 S0.heap := hX
  generalize hAe : va_A (wM g cA t s y d q k r c o m) S0.heap.size = A at hD hX ⊢
  have hA : ∀ q : Nat, S0.heap.size ≤ q → A q := fun q h => by rw [← hAe]; exact Or.inr h
  have hS : va_S A S0.heap S0.heap [] := va_S.rf
  have k0 := hts (.fieldLink RX3 40 "WordForge$Machine" "dictionary" "LWordForge$Dictionary;") (List.mem_of_getElem? (i := 1) rfl)
  have inX3 : ∀ w ∈ wsX30, w ∈ wsX3_readName := fun _ h => List.mem_cons_of_mem _ (List.mem_append_left _ (List.mem_append_left _ (List.mem_append_left _ (List.mem_append_left _ (List.mem_append_left _ (List.mem_append_right _ h))))))
  have k2 := hts (.fieldLink RX3 12 "WordForge$Machine" "text" "LWordForge$Text;") (List.mem_of_getElem? (i := 2) rfl)
  have k3 := hts (.constantLong RX3 166 (2147483648)) (List.mem_of_getElem? (i := 6) rfl)
  have k4 := hts (.fieldLink RX3 63 "WordForge$Machine" "maker" "LWordForge$Maker;") (List.mem_of_getElem? (i := 3) rfl)
  have k5 := hX.nest (.fieldLinkNest RX3 152 "WordForge$Maker" "compiling" "Z" "WordForge") (List.mem_of_getElem? (i := 27) rfl)
  have inX4 : ∀ w ∈ wsX40, w ∈ wsX3_readName := fun _ h => List.mem_cons_of_mem _ (List.mem_append_left _ (List.mem_append_left _ (List.mem_append_left _ (List.mem_append_left _ (List.mem_append_right _ h)))))
  have k7 := hts (.fieldLink RX3 23 "WordForge$Machine" "stack" "LWordForge$Row;") (List.mem_of_getElem? (i := 7) rfl)
  have k8 := hts (.fieldLink RX3 33 "WordForge$Machine" "memory" "LWordForge$Memory;") (List.mem_of_getElem? (i := 4) rfl)
  have k9 := hts (.fieldLink RX3 67 "WordForge$Machine" "nextWord" "I") (List.mem_of_getElem? (i := 5) rfl)
  have hl := lv_entry ([.ref (g 0)]) (n := 4) (Nat.le_of_ble_eq_true rfl)
  rw [lg_entry_eq]
  generalize (lg_sl ([.ref (g 0)]) ++ List.replicate (4 - (lg_sl ([.ref (g 0)])).length) Slot.unset).toArray = ls at hl ⊢
  have hl : lv_has ls 4 [(0, .ref (g 0))] := hl
  have w47 : ∀ (y1 : Int32) (t : tT) (s : tR) (y : tY) (d : tD) (k : tK) (m : tM) (H : Heap) (locs : List Loc) (ls : Array Slot), va_P D vwCl (wM g cA t s y d q k r c o m) H → va_D A (wM g cA t s y d q k r c o m) → va_S A S0.heap H locs → lv_has ls 4 [(0, .ref (g 0)), (1, .int y1)] → b_X3_readName_47  y1 t s y d k m = some u → W PP l EE (headSpec wsX3_readName ({ frames := 6, cells := 0, slots := 0, locals := 130 })).room S0 MM (#[.ref (g 0)] : Array Value) below meth CC H locs 0 0 (MQ below (cQi D (wM g cA t u.2.1 u.2.2.1 d q k r c o u.2.2.2) A u.1) (#[.ref (g 0)] : Array Value) S0 0 0 A) (F0 MM 47 ls []) := by
    intro y1 t s y d k m
    intro H locs ls hP hD hS hl hE
    unfold b_X3_readName_47 at hE
    refine lv_aload_n hx hb dX3_readName_47 rfl (lv_at hl 0 rfl) ?_
    refine lv_iload_n hx hb dX3_readName_48 rfl (lv_at hl 1 rfl) ?_
    refine va_put (D := D) (ci := 2) (v := .int y1) (ty := .int) (C := RX3) (T := TX3) (N := 14) hx hb hts inX3 tyX3 tyX3_ok nmX3 hown hK hP hD hS 0 rfl rfl 11 (by decide) k9 (fun _ h9 => h9) rfl (by decide +kernel) rfl rfl (Nat.le_of_ble_eq_true rfl) dX3_readName_49 (fun H locs hP hD hS => ?_)
    have hP : va_P D vwCl (wM g cA t s y d q k r c o ((m.1, m.2.1, m.2.2.1, y1, m.2.2.2.2.1, m.2.2.2.2.2))) H := hP
    have hD : va_D A (wM g cA t s y d q k r c o ((m.1, m.2.1, m.2.2.1, y1, m.2.2.2.2.1, m.2.2.2.2.2))) := hD
    refine lv_iconst (v := 0) hx hb dX3_readName_52 (by decide +kernel) ?_
    obtain rfl := Option.some.inj hE
    exact rt_i hx hb hr hP hS rfl hlocks dX3_readName_53
  unfold f_X3_readName at hE
  suffices main : ∀ (H : Heap) (locs : List Loc) (ls : Array Slot), va_P D vwCl (wM g cA t s y d q k r c o m) H → va_D A (wM g cA t s y d q k r c o m) → va_S A S0.heap H locs → lv_has ls 4 [(0, .ref (g 0))] → W PP l EE (headSpec wsX3_readName ({ frames := 6, cells := 0, slots := 0, locals := 130 })).room S0 MM (#[.ref (g 0)] : Array Value) below meth CC H locs 0 0 (MQ below (cQi D (wM g cA t u.2.1 u.2.2.1 d q k r c o u.2.2.2) A u.1) (#[.ref (g 0)] : Array Value) S0 0 0 A) (F0 MM 0 ls []) from main _ _ _ hP hD hS hl
  intro H locs ls hP hD hS hl
  refine lv_aload_n hx hb dX3_readName_0 rfl (lv_at hl 0 rfl) ?_
  refine va_get (D := D) (ci := 2) (v := .ref (g 8)) (C := RX3) (T := TX3) (N := 14) hx hb hts inX3 hown hK hP 0 rfl rfl 4 (by decide) k0 (fun _ h9 => h9) rfl dX3_readName_1 ?_
  refine lv_aload_n hx hb dX3_readName_4 rfl (lv_at hl 0 rfl) ?_
  refine va_get (D := D) (ci := 2) (v := .ref (g 2)) (C := RX3) (T := TX3) (N := 14) hx hb hts inX3 hown hK hP 0 rfl rfl 0 (by decide) k2 (fun _ h9 => h9) rfl dX3_readName_5 ?_
  obtain ⟨u1, h2, hE⟩ := bd_some hE
  refine cn_i (As := [.ref (g 2)]) (rest := []) (r := u1) (w0 := (wM g cA t s y d q k r c o m)) (N := 28) ⟨hx, hb, hml, hown, hts⟩ (c_X2_find l D cA ad adK adV tA tS (g 8) (g 9) (g 10) (g 11) (g 12) (g 13) (g 14) (g 15) (g 2) (g 3) H.size d t u1 h2) (cwV 1 hts hX3_readName_X2_find_148 rfl rfl rfl (by decide +kernel) ⟨Nat.le_of_ble_eq_true rfl, Nat.le_of_ble_eq_true rfl⟩) rfl hl.1 rfl (Nat.le_of_ble_eq_true rfl) dX3_readName_8 ⟨Nat.zero_le _, Nat.zero_le _⟩ hK hP hD hS hA (va_recv hK hP (ci := 1) (q0 := 8) rfl rfl) [8, 9, 10, 11, 12, 13, 14, 15, 2, 3] [0, 1, 4, 5, 6, 7, 16, 17, 18, 19, 20, 21, 22, 23, 24, 25, 26, 27] (wM g cA t s y d q k r c o m) rfl (by decide +kernel) rfl (wr := List.filterMap (fun i => (wM g cA t s y d q k r c o m)[i]?) [0, 1, 4, 5, 6, 7, 16, 17, 18, 19, 20, 21, 22, 23, 24, 25, 26, 27]) rfl rfl (by decide +kernel) rfl (by decide +kernel) [g 0, g 1, g 2, g 3, g 4, g 5, g 6, g 7, g 8, g 9, g 10, g 11, g 12, g 13, g 14, g 15, g 16, g 17, g 18, g 19, g 20, g 21, g 22, g 23, g 24, g 25, g 26, g 27] rfl rfl (fun a U g mk h => SX.blind a U g mk h) (fun U hU hW => SX.call hX hS (va_free (wc := (wDT (g 8) (g 9) (g 10) (g 11) (g 12) (g 13) (g 14) (g 15) (g 2) (g 3) cA d t)) hD hS hA [8, 9, 10, 11, 12, 13, 14, 15, 2, 3] rfl) U hU hW) (fun H locs hP hD hS => ?_)
  have hP : va_P D vwCl (wM g cA t s y d q k r c o m) H := hP
  have hD : va_D A (wM g cA t s y d q k r c o m) := hD
  refine lv_istore_n (lv' := [(1, .int u1), (0, .ref (g 0))]) hx hb dX3_readName_11 rfl hl (by decide) rfl (fun ls hl => ?_)
  refine lv_iload_n hx hb dX3_readName_12 rfl (lv_at hl 0 rfl) ?_
  refine lv_iconst (v := (-1)) hx hb dX3_readName_13 (by decide +kernel) ?_
  refine lv_icmp_eq (tgt := 54) hx hb dX3_readName_14 (by decide) (fun c3 => ?_) (fun c3 => ?_)
  · have hE := if_t c3 hE
    refine lv_aload_n hx hb dX3_readName_54 rfl (lv_at hl 1 rfl) ?_
    refine va_get (D := D) (ci := 2) (v := .ref (g 2)) (C := RX3) (T := TX3) (N := 14) hx hb hts inX3 hown hK hP 0 rfl rfl 0 (by decide) k2 (fun _ h9 => h9) rfl dX3_readName_55 ?_
    obtain ⟨u4, h5, hE⟩ := bd_some hE
    refine cn_l (As := []) (rest := []) (r := u4) (w0 := (wM g cA t s y d q k r c o m)) (N := 28) ⟨hx, hb, hml, hown, hts⟩ (c_X9_nameAsNumber l D cA (g 2) (g 3) H.size t u4 h5) (cwV 0 hts hX3_readName_X9_nameAsNumber_162 rfl rfl rfl (by decide +kernel) ⟨Nat.le_of_ble_eq_true rfl, Nat.le_of_ble_eq_true rfl⟩) rfl hl.1 rfl (Nat.le_of_ble_eq_true rfl) dX3_readName_58 ⟨Nat.zero_le _, Nat.zero_le _⟩ hK hP hD hS hA (va_recv hK hP (ci := 8) (q0 := 2) rfl rfl) [2, 3] [0, 1, 4, 5, 6, 7, 8, 9, 10, 11, 12, 13, 14, 15, 16, 17, 18, 19, 20, 21, 22, 23, 24, 25, 26, 27] (wM g cA t s y d q k r c o m) rfl (by decide +kernel) rfl (wr := List.filterMap (fun i => (wM g cA t s y d q k r c o m)[i]?) [0, 1, 4, 5, 6, 7, 8, 9, 10, 11, 12, 13, 14, 15, 16, 17, 18, 19, 20, 21, 22, 23, 24, 25, 26, 27]) rfl rfl (by decide +kernel) rfl (by decide +kernel) [g 0, g 1, g 2, g 3, g 4, g 5, g 6, g 7, g 8, g 9, g 10, g 11, g 12, g 13, g 14, g 15, g 16, g 17, g 18, g 19, g 20, g 21, g 22, g 23, g 24, g 25, g 26, g 27] rfl rfl (fun _ _ _ _ h => h) (fun _ _ _ => trivial) (fun H locs hP hD hS => ?_)
    have hP : va_P D vwCl (wM g cA t s y d q k r c o m) H := hP
    have hD : va_D A (wM g cA t s y d q k r c o m) := hD
    refine lv_lstore_n (lv' := [(2, .long u4), (1, .int u1), (0, .ref (g 0))]) hx hb dX3_readName_61 rfl hl (by decide) rfl (fun ls hl => ?_)
    refine lv_lload_n hx hb dX3_readName_62 rfl (lv_at hl 0 rfl) ?_
    refine lv_ldc2 (v := 2147483648) hx hb hown k3 dX3_readName_63 ?_
    refine W.lcmp hx hb dX3_readName_66 ?_
    refine lv_if_ne (tgt := 88) hx hb dX3_readName_67 (by decide) (fun c6 => ?_) (fun c6 => ?_)
    · have hE := if_f c6 hE
      refine lv_aload_n hx hb dX3_readName_88 rfl (lv_at hl 2 rfl) ?_
      refine va_get (D := D) (ci := 2) (v := .ref (g 1)) (C := RX3) (T := TX3) (N := 14) hx hb hts inX3 hown hK hP 0 rfl rfl 7 (by decide) k4 (fun _ h9 => h9) rfl dX3_readName_89 ?_
      refine va_getN (D := D) (ci := 3) (v := .int k) (C := RX4) (T := TX4) (N := 6) hx hb hts inX4 hown hK hP 1 rfl rfl 5 (by decide) (k5 _) (fun _ h9 => h9) rfl dX3_readName_92 ?_
      refine lv_if_eq (tgt := 109) hx hb dX3_readName_95 (by decide) (fun c7 => ?_) (fun c7 => ?_)
      · have hE := if_t c7 hE
        refine lv_aload_n hx hb dX3_readName_109 rfl (lv_at hl 2 rfl) ?_
        refine va_get (D := D) (ci := 2) (v := .ref (g 4)) (C := RX3) (T := TX3) (N := 14) hx hb hts inX3 hown hK hP 0 rfl rfl 1 (by decide) k7 (fun _ h9 => h9) rfl dX3_readName_110 ?_
        refine lv_lload_n hx hb dX3_readName_113 rfl (lv_at hl 0 rfl) ?_
        refine lv_l2i hx hb dX3_readName_114 rfl ?_
        obtain ⟨u8, h9, hE⟩ := bd_some hE
        refine cn_i (As := [.int u4.toInt32]) (rest := []) (r := u8.1) (w0 := (wM g cA t s y d q k r c o m)) (N := 28) ⟨hx, hb, hml, hown, hts⟩ (c_X8_put l D cA (g 4) (g 5) H.size u4.toInt32 (-3) s u8 h9) (cwV 1 hts hX3_readName_X8_put_120 rfl rfl rfl (by decide +kernel) ⟨Nat.le_of_ble_eq_true rfl, Nat.le_of_ble_eq_true rfl⟩) rfl hl.1 rfl (Nat.le_of_ble_eq_true rfl) dX3_readName_115 ⟨Nat.zero_le _, Nat.zero_le _⟩ hK hP hD hS hA (va_recv hK hP (ci := 7) (q0 := 4) rfl rfl) [4, 5] [0, 1, 2, 3, 6, 7, 8, 9, 10, 11, 12, 13, 14, 15, 16, 17, 18, 19, 20, 21, 22, 23, 24, 25, 26, 27] (wM g cA t u8.2 y d q k r c o m) rfl (by decide +kernel) rfl (wr := List.filterMap (fun i => (wM g cA t s y d q k r c o m)[i]?) [0, 1, 2, 3, 6, 7, 8, 9, 10, 11, 12, 13, 14, 15, 16, 17, 18, 19, 20, 21, 22, 23, 24, 25, 26, 27]) rfl rfl (by decide +kernel) rfl (by decide +kernel) [g 0, g 1, g 2, g 3, g 4, g 5, g 6, g 7, g 8, g 9, g 10, g 11, g 12, g 13, g 14, g 15, g 16, g 17, g 18, g 19, g 20, g 21, g 22, g 23, g 24, g 25, g 26, g 27] rfl rfl (fun _ _ _ _ h => h) (fun _ _ _ => trivial) (fun H locs hP hD hS => ?_)
        have hP : va_P D vwCl (wM g cA t u8.2 y d q k r c o m) H := hP
        have hD : va_D A (wM g cA t u8.2 y d q k r c o m) := hD
        obtain rfl := Option.some.inj hE
        exact rt_i hx hb hr hP hS rfl hlocks dX3_readName_118
      · have hE := if_f c7 hE
        refine lv_aload_n hx hb dX3_readName_98 rfl (lv_at hl 2 rfl) ?_
        refine va_get (D := D) (ci := 2) (v := .ref (g 6)) (C := RX3) (T := TX3) (N := 14) hx hb hts inX3 hown hK hP 0 rfl rfl 3 (by decide) k8 (fun _ h9 => h9) rfl dX3_readName_99 ?_
        refine lv_iconst (v := 1) hx hb dX3_readName_102 (by decide +kernel) ?_
        refine lv_lload_n hx hb dX3_readName_103 rfl (lv_at hl 0 rfl) ?_
        refine lv_l2i hx hb dX3_readName_104 rfl ?_
        obtain ⟨u10, h11, hE⟩ := bd_some hE
        refine cn_i (As := [.int 1, .int u4.toInt32]) (rest := []) (r := u10.1) (w0 := (wM g cA t s y d q k r c o m)) (N := 28) ⟨hx, hb, hml, hown, hts⟩ (c_X5_appendBoth l D cA (g 6) (g 7) H.size 1 u4.toInt32 y u10 h11) (cwV 2 hts hX3_readName_X5_appendBoth_171 rfl rfl rfl (by decide +kernel) ⟨Nat.le_of_ble_eq_true rfl, Nat.le_of_ble_eq_true rfl⟩) rfl hl.1 rfl (Nat.le_of_ble_eq_true rfl) dX3_readName_105 ⟨Nat.zero_le _, Nat.zero_le _⟩ hK hP hD hS hA (va_recv hK hP (ci := 4) (q0 := 6) rfl rfl) [6, 7] [0, 1, 2, 3, 4, 5, 8, 9, 10, 11, 12, 13, 14, 15, 16, 17, 18, 19, 20, 21, 22, 23, 24, 25, 26, 27] (wM g cA t s u10.2 d q k r c o m) rfl (by decide +kernel) rfl (wr := List.filterMap (fun i => (wM g cA t s y d q k r c o m)[i]?) [0, 1, 2, 3, 4, 5, 8, 9, 10, 11, 12, 13, 14, 15, 16, 17, 18, 19, 20, 21, 22, 23, 24, 25, 26, 27]) rfl rfl (by decide +kernel) rfl (by decide +kernel) [g 0, g 1, g 2, g 3, g 4, g 5, g 6, g 7, g 8, g 9, g 10, g 11, g 12, g 13, g 14, g 15, g 16, g 17, g 18, g 19, g 20, g 21, g 22, g 23, g 24, g 25, g 26, g 27] rfl rfl (fun _ _ _ _ h => h) (fun _ _ _ => trivial) (fun H locs hP hD hS => ?_)
        have hP : va_P D vwCl (wM g cA t s u10.2 d q k r c o m) H := hP
        have hD : va_D A (wM g cA t s u10.2 d q k r c o m) := hD
        obtain rfl := Option.some.inj hE
        exact rt_i hx hb hr hP hS rfl hlocks dX3_readName_108
    · have hE := if_t c6 hE
      refine lv_aload_n hx hb dX3_readName_70 rfl (lv_at hl 2 rfl) ?_
      refine va_get (D := D) (ci := 2) (v := .ref (g 2)) (C := RX3) (T := TX3) (N := 14) hx hb hts inX3 hown hK hP 0 rfl rfl 0 (by decide) k2 (fun _ h9 => h9) rfl dX3_readName_71 ?_
      obtain ⟨u12, h13, hE⟩ := bd_some hE
      refine cn_i (As := []) (rest := []) (r := u12) (w0 := (wM g cA t s y d q k r c o m)) (N := 28) ⟨hx, hb, hml, hown, hts⟩ (c_X9_nameIsTooLong l D cA (g 2) (g 3) H.size t u12 h13) (cwV 0 hts hX3_readName_X9_nameIsTooLong_168 rfl rfl rfl (by decide +kernel) ⟨Nat.le_of_ble_eq_true rfl, Nat.le_of_ble_eq_true rfl⟩) rfl hl.1 rfl (Nat.le_of_ble_eq_true rfl) dX3_readName_74 ⟨Nat.zero_le _, Nat.zero_le _⟩ hK hP hD hS hA (va_recv hK hP (ci := 8) (q0 := 2) rfl rfl) [2, 3] [0, 1, 4, 5, 6, 7, 8, 9, 10, 11, 12, 13, 14, 15, 16, 17, 18, 19, 20, 21, 22, 23, 24, 25, 26, 27] (wM g cA t s y d q k r c o m) rfl (by decide +kernel) rfl (wr := List.filterMap (fun i => (wM g cA t s y d q k r c o m)[i]?) [0, 1, 4, 5, 6, 7, 8, 9, 10, 11, 12, 13, 14, 15, 16, 17, 18, 19, 20, 21, 22, 23, 24, 25, 26, 27]) rfl rfl (by decide +kernel) rfl (by decide +kernel) [g 0, g 1, g 2, g 3, g 4, g 5, g 6, g 7, g 8, g 9, g 10, g 11, g 12, g 13, g 14, g 15, g 16, g 17, g 18, g 19, g 20, g 21, g 22, g 23, g 24, g 25, g 26, g 27] rfl rfl (fun _ _ _ _ h => h) (fun _ _ _ => trivial) (fun H locs hP hD hS => ?_)
      have hP : va_P D vwCl (wM g cA t s y d q k r c o m) H := hP
      have hD : va_D A (wM g cA t s y d q k r c o m) := hD
      refine lv_if_eq (tgt := 85) hx hb dX3_readName_77 (by decide) (fun c14 => ?_) (fun c14 => ?_)
      · have hE := if_t c14 hE
        refine lv_bipush (v := (-13)) hx hb dX3_readName_85 (by decide +kernel) ?_
        obtain rfl := Option.some.inj hE
        exact rt_i hx hb hr hP hS rfl hlocks dX3_readName_87
      · have hE := if_f c14 hE
        refine lv_bipush (v := (-19)) hx hb dX3_readName_80 (by decide +kernel) ?_
        refine lv_goto (tgt := 87) hx hb dX3_readName_82 (by decide) ?_
        obtain rfl := Option.some.inj hE
        exact rt_i hx hb hr hP hS rfl hlocks dX3_readName_87
  · have hE := if_f c3 hE
    refine lv_aload_n hx hb dX3_readName_17 rfl (lv_at hl 1 rfl) ?_
    refine va_get (D := D) (ci := 2) (v := .ref (g 1)) (C := RX3) (T := TX3) (N := 14) hx hb hts inX3 hown hK hP 0 rfl rfl 7 (by decide) k4 (fun _ h9 => h9) rfl dX3_readName_18 ?_
    refine va_getN (D := D) (ci := 3) (v := .int k) (C := RX4) (T := TX4) (N := 6) hx hb hts inX4 hown hK hP 1 rfl rfl 5 (by decide) (k5 _) (fun _ h9 => h9) rfl dX3_readName_21 ?_
    refine lv_if_eq (tgt := 47) hx hb dX3_readName_24 (by decide) (fun c15 => ?_) (fun c15 => ?_)
    · have hE := if_t c15 hE
      exact w47  u1 t s y d k m H locs ls hP hD hS (lv_sub hl [1, 0] rfl) hE
    · have hE := if_f c15 hE
      refine lv_aload_n hx hb dX3_readName_27 rfl (lv_at hl 1 rfl) ?_
      refine va_get (D := D) (ci := 2) (v := .ref (g 8)) (C := RX3) (T := TX3) (N := 14) hx hb hts inX3 hown hK hP 0 rfl rfl 4 (by decide) k0 (fun _ h9 => h9) rfl dX3_readName_28 ?_
      refine lv_iload_n hx hb dX3_readName_31 rfl (lv_at hl 0 rfl) ?_
      obtain ⟨u16, h17, hE⟩ := bd_some hE
      refine cn_i (As := [.int u1]) (rest := []) (r := u16) (w0 := (wM g cA t s y d q k r c o m)) (N := 28) ⟨hx, hb, hml, hown, hts⟩ (c_X2_isImmediate l D cA ad adK adV tA tS (g 8) (g 9) (g 10) (g 11) (g 12) (g 13) (g 14) (g 15) H.size u1 d u16 h17) (cwV 1 hts hX3_readName_X2_isImmediate_155 rfl rfl rfl (by decide +kernel) ⟨Nat.le_of_ble_eq_true rfl, Nat.le_of_ble_eq_true rfl⟩) rfl hl.1 rfl (Nat.le_of_ble_eq_true rfl) dX3_readName_32 ⟨Nat.zero_le _, Nat.zero_le _⟩ hK hP hD hS hA (va_recv hK hP (ci := 1) (q0 := 8) rfl rfl) [8, 9, 10, 11, 12, 13, 14, 15] [0, 1, 2, 3, 4, 5, 6, 7, 16, 17, 18, 19, 20, 21, 22, 23, 24, 25, 26, 27] (wM g cA t s y d q k r c o m) rfl (by decide +kernel) rfl (wr := List.filterMap (fun i => (wM g cA t s y d q k r c o m)[i]?) [0, 1, 2, 3, 4, 5, 6, 7, 16, 17, 18, 19, 20, 21, 22, 23, 24, 25, 26, 27]) rfl rfl (by decide +kernel) rfl (by decide +kernel) [g 0, g 1, g 2, g 3, g 4, g 5, g 6, g 7, g 8, g 9, g 10, g 11, g 12, g 13, g 14, g 15, g 16, g 17, g 18, g 19, g 20, g 21, g 22, g 23, g 24, g 25, g 26, g 27] rfl rfl (fun a U g mk h => SX.blind a U g mk h) (fun U hU hW => SX.call hX hS (va_free (wc := (wD (g 8) (g 9) (g 10) (g 11) (g 12) (g 13) (g 14) (g 15) cA d)) hD hS hA [8, 9, 10, 11, 12, 13, 14, 15] rfl) U hU hW) (fun H locs hP hD hS => ?_)
      have hP : va_P D vwCl (wM g cA t s y d q k r c o m) H := hP
      have hD : va_D A (wM g cA t s y d q k r c o m) := hD
      refine lv_if_ne (tgt := 47) hx hb dX3_readName_35 (by decide) (fun c18 => ?_) (fun c18 => ?_)
      · have hE := if_f c18 hE
        exact w47  u1 t s y d k m H locs ls hP hD hS (lv_sub hl [1, 0] rfl) hE
      · have hE := if_t c18 hE
        refine lv_aload_n hx hb dX3_readName_38 rfl (lv_at hl 1 rfl) ?_
        refine va_get (D := D) (ci := 2) (v := .ref (g 6)) (C := RX3) (T := TX3) (N := 14) hx hb hts inX3 hown hK hP 0 rfl rfl 3 (by decide) k8 (fun _ h9 => h9) rfl dX3_readName_39 ?_
        refine lv_iload_n hx hb dX3_readName_42 rfl (lv_at hl 0 rfl) ?_
        obtain ⟨u19, h20, hE⟩ := bd_some hE
        refine cn_i (As := [.int u1]) (rest := []) (r := u19.1) (w0 := (wM g cA t s y d q k r c o m)) (N := 28) ⟨hx, hb, hml, hown, hts⟩ (c_X5_append l D cA (g 6) (g 7) H.size u1 y u19 h20) (cwV 1 hts hX3_readName_X5_append_159 rfl rfl rfl (by decide +kernel) ⟨Nat.le_of_ble_eq_true rfl, Nat.le_of_ble_eq_true rfl⟩) rfl hl.1 rfl (Nat.le_of_ble_eq_true rfl) dX3_readName_43 ⟨Nat.zero_le _, Nat.zero_le _⟩ hK hP hD hS hA (va_recv hK hP (ci := 4) (q0 := 6) rfl rfl) [6, 7] [0, 1, 2, 3, 4, 5, 8, 9, 10, 11, 12, 13, 14, 15, 16, 17, 18, 19, 20, 21, 22, 23, 24, 25, 26, 27] (wM g cA t s u19.2 d q k r c o m) rfl (by decide +kernel) rfl (wr := List.filterMap (fun i => (wM g cA t s y d q k r c o m)[i]?) [0, 1, 2, 3, 4, 5, 8, 9, 10, 11, 12, 13, 14, 15, 16, 17, 18, 19, 20, 21, 22, 23, 24, 25, 26, 27]) rfl rfl (by decide +kernel) rfl (by decide +kernel) [g 0, g 1, g 2, g 3, g 4, g 5, g 6, g 7, g 8, g 9, g 10, g 11, g 12, g 13, g 14, g 15, g 16, g 17, g 18, g 19, g 20, g 21, g 22, g 23, g 24, g 25, g 26, g 27] rfl rfl (fun _ _ _ _ h => h) (fun _ _ _ => trivial) (fun H locs hP hD hS => ?_)
        have hP : va_P D vwCl (wM g cA t s u19.2 d q k r c o m) H := hP
        have hD : va_D A (wM g cA t s u19.2 d q k r c o m) := hD
        obtain rfl := Option.some.inj hE
        exact rt_i hx hb hr hP hS rfl hlocks dX3_readName_46
set_option maxRecDepth 20000 in
theorem hX3_goOn_X1_latestIsCall_107 : GoodIn wsX3_goOn (wsV RX3 107 RX1 yX1_latestIsCall wsX1_latestIsCall) := goodIn_r _ [5, 6, 7, 8, 9, 10, 11, 196, 197, 198, 199, 200] rfl (by decide +kernel)
set_option maxRecDepth 20000 in
theorem hX3_goOn_X3_goOnWithCall_111 : GoodIn wsX3_goOn (wsV RX3 111 RX3 yX3_goOnWithCall wsX3_goOnWithCall) := goodIn_r _ [12, 13, 14, 15, 16, 1, 17, 18, 19, 20, 21, 22, 8, 23, 10, 24, 25, 26, 27, 28, 29, 30, 31, 32, 33, 34, 35, 36, 37, 38, 39, 40, 41, 42, 43, 44, 45, 182, 183, 184, 185, 186, 187, 188, 189, 190, 191, 192, 193, 194, 195, 196, 197, 198, 199, 200, 201, 202, 203, 204, 205, 206, 207, 208, 209, 210] rfl (by decide +kernel)
set_option maxRecDepth 20000 in
theorem hX3_goOn_X1_latestIsCatch_114 : GoodIn wsX3_goOn (wsV RX3 114 RX1 yX1_latestIsCatch wsX1_latestIsCatch) := goodIn_r _ [46, 47, 48, 8, 49, 10, 11, 196, 197, 198, 199, 200] rfl (by decide +kernel)
set_option maxRecDepth 20000 in
theorem hX3_goOn_X1_comeBack_117 : GoodIn wsX3_goOn (wsV RX3 117 RX1 yX1_comeBack wsX1_comeBack) := goodIn_r _ [50, 51, 52, 8, 53, 10, 196, 197, 198, 199, 200] rfl (by decide +kernel)
set_option maxRecDepth 20000 in
theorem hX3_goOn_X8_put_120 : GoodIn wsX3_goOn (wsV RX3 120 RX8 yX8_put wsX8_put) := goodIn_r _ [54, 55, 56, 57, 58, 59, 60, 61, 211, 212, 213] rfl (by decide +kernel)
set_option maxRecDepth 20000 in
theorem hX3_goOn_X9_takeName_124 : GoodIn wsX3_goOn (wsV RX3 124 RX9 yX9_takeName wsX9_takeName) := goodIn_r _ [62, 63, 64, 65, 66, 67, 68, 69, 70, 71, 72, 73, 65, 74, 75, 214, 215, 216, 217, 218] rfl (by decide +kernel)
set_option maxRecDepth 20000 in
theorem hX3_goOn_X3_readName_127 : GoodIn wsX3_goOn (wsV RX3 127 RX3 yX3_readName wsX3_readName) := goodIn_r _ [76, 77, 78, 15, 79, 18, 3, 80, 17, 19, 81, 2, 82, 83, 84, 39, 85, 41, 86, 87, 88, 89, 90, 91, 92, 93, 94, 95, 65, 96, 75, 69, 97, 98, 99, 100, 101, 102, 103, 104, 105, 106, 107, 108, 109, 110, 111, 112, 113, 114, 115, 116, 117, 118, 119, 120, 121, 122, 123, 124, 125, 126, 127, 128, 129, 130, 131, 132, 133, 134, 135, 136, 137, 138, 139, 140, 141, 142, 143, 144, 145, 146, 147, 148, 149, 150, 151, 152, 153, 154, 155, 37, 38, 40, 156, 157, 158, 28, 159, 34, 160, 161, 162, 163, 164, 165, 166, 167, 168, 70, 169, 170, 171, 172, 173, 174, 175, 176, 177, 178, 179, 180, 181, 54, 55, 56, 57, 58, 59, 60, 61, 182, 183, 184, 185, 186, 187, 188, 189, 190, 191, 192, 193, 194, 195, 219, 220, 221, 222, 223, 224, 203, 204, 205, 206, 207, 208, 209, 210, 214, 215, 216, 217, 218, 201, 202, 211, 212, 213] rfl (by decide +kernel)
set_option maxHeartbeats 4000000 in
set_option maxRecDepth 100000 in
theorem c_X3_goOn (l : Launch) (D : va_G) (cA : Nat → ClassId) (ad adK adV : Nat → Nat) (tA tS : Nat) (g : Nat → Nat) (sz : Nat) (t : tT) (s : tR) (y : tY) (d : tD) (q : tP) (k : tK) (r : tR) (c : tC) (o : tO) (m : tM) (u : Int32 × tT × tR × tY × tC × tM) (hE : f_X3_goOn t s y d k c m = some u) : Met l yX3_goOn wsX3_goOn ({ frames := 7, cells := 0, slots := 0, locals := 153 }) (va_Pc [.ref (g 0)] (PRE D cA (wM g cA t s y d q k r c o m) sz (fun U => SX ad adK adV tA tS (va_A (wM g cA t s y d q k r c o m) sz) U U.heap))) (cQi D (wM g cA u.2.1 u.2.2.1 u.2.2.2.1 d q k r u.2.2.2.2.1 o u.2.2.2.2.2) (va_A (wM g cA t s y d q k r c o m) sz) u.1) 0 0 (va_A (wM g cA t s y d q k r c o m) sz) := by
  refine Met.ofW (cc := cX3_goOn) (maxL := 1) (ret := (some .int)) (by decide) rfl ?_
  intro PP EE S0 MM args below meth CC S1 B hml hv
  obtain ⟨rfl, hsz, hP, hK, hD0, hX⟩ := hv
  have hx := B.exec
  have hb := B.bytes
  have hr := B.returns
  have hts := atoms_spec (ws := wsX3_goOn) B.pre
  have hown : S0.vm.findClass RX3 = some MM.cls := findClass_of_methodNamed B.named
  have hlocks := B.notSynchronized
  subst hsz
  have hD := hD0.self (sz := S0.heap.size)
  have hX : SX ad adK adV tA tS (va_A (wM g cA t s y d q k r c o m) S0.heap.size) S0 S0.heap := hX
  generalize hAe : va_A (wM g cA t s y d q k r c o m) S0.heap.size = A at hD hX ⊢
  have hA : ∀ q : Nat, S0.heap.size ≤ q → A q := fun q h => by rw [← hAe]; exact Or.inr h
  have hS : va_S A S0.heap S0.heap [] := va_S.rf
  have k0 := hts (.fieldLink RX3 47 "WordForge$Machine" "calls" "LWordForge$Calls;") (List.mem_of_getElem? (i := 1) rfl)
  have inX3 : ∀ w ∈ wsX30, w ∈ wsX3_goOn := fun _ h => List.mem_cons_of_mem _ (List.mem_append_left _ (List.mem_append_left _ (List.mem_append_left _ (List.mem_append_left _ (List.mem_append_left _ (List.mem_append_left _ (List.mem_append_right _ h)))))))
  have k2 := hts (.fieldLink RX3 12 "WordForge$Machine" "text" "LWordForge$Text;") (List.mem_of_getElem? (i := 3) rfl)
  have k3 := hts (.fieldLink RX3 83 "WordForge$Machine" "over" "Z") (List.mem_of_getElem? (i := 4) rfl)
  have k4 := hts (.fieldLink RX3 23 "WordForge$Machine" "stack" "LWordForge$Row;") (List.mem_of_getElem? (i := 2) rfl)
  have hl := lv_entry ([.ref (g 0)]) (n := 1) (Nat.le_of_ble_eq_true rfl)
  rw [lg_entry_eq]
  generalize (lg_sl ([.ref (g 0)]) ++ List.replicate (1 - (lg_sl ([.ref (g 0)])).length) Slot.unset).toArray = ls at hl ⊢
  have hl : lv_has ls 1 [(0, .ref (g 0))] := hl
  unfold f_X3_goOn at hE
  suffices main : ∀ (H : Heap) (locs : List Loc) (ls : Array Slot), va_P D vwCl (wM g cA t s y d q k r c o m) H → va_D A (wM g cA t s y d q k r c o m) → va_S A S0.heap H locs → lv_has ls 1 [(0, .ref (g 0))] → W PP l EE (headSpec wsX3_goOn ({ frames := 7, cells := 0, slots := 0, locals := 153 })).room S0 MM (#[.ref (g 0)] : Array Value) below meth CC H locs 0 0 (MQ below (cQi D (wM g cA u.2.1 u.2.2.1 u.2.2.2.1 d q k r u.2.2.2.2.1 o u.2.2.2.2.2) A u.1) (#[.ref (g 0)] : Array Value) S0 0 0 A) (F0 MM 0 ls []) from main _ _ _ hP hD hS hl
  intro H locs ls hP hD hS hl
  refine lv_aload_n hx hb dX3_goOn_0 rfl (lv_at hl 0 rfl) ?_
  refine va_get (D := D) (ci := 2) (v := .ref (g 21)) (C := RX3) (T := TX3) (N := 14) hx hb hts inX3 hown hK hP 0 rfl rfl 5 (by decide) k0 (fun _ h9 => h9) rfl dX3_goOn_1 ?_
  obtain ⟨u1, h2, hE⟩ := bd_some hE
  refine cn_i (As := []) (rest := []) (r := u1) (w0 := (wM g cA t s y d q k r c o m)) (N := 28) ⟨hx, hb, hml, hown, hts⟩ (c_X1_latestIsCall l D cA (g 21) (g 22) (g 23) (g 24) (g 25) H.size c u1 h2) (cwV 0 hts hX3_goOn_X1_latestIsCall_107 rfl rfl rfl (by decide +kernel) ⟨Nat.le_of_ble_eq_true rfl, Nat.le_of_ble_eq_true rfl⟩) rfl hl.1 rfl (Nat.le_of_ble_eq_true rfl) dX3_goOn_4 ⟨Nat.zero_le _, Nat.zero_le _⟩ hK hP hD hS hA (va_recv hK hP (ci := 0) (q0 := 21) rfl rfl) [21, 22, 23, 24, 25] [0, 1, 2, 3, 4, 5, 6, 7, 8, 9, 10, 11, 12, 13, 14, 15, 16, 17, 18, 19, 20, 26, 27] (wM g cA t s y d q k r c o m) rfl (by decide +kernel) rfl (wr := List.filterMap (fun i => (wM g cA t s y d q k r c o m)[i]?) [0, 1, 2, 3, 4, 5, 6, 7, 8, 9, 10, 11, 12, 13, 14, 15, 16, 17, 18, 19, 20, 26, 27]) rfl rfl (by decide +kernel) rfl (by decide +kernel) [g 0, g 1, g 2, g 3, g 4, g 5, g 6, g 7, g 8, g 9, g 10, g 11, g 12, g 13, g 14, g 15, g 16, g 17, g 18, g 19, g 20, g 21, g 22, g 23, g 24, g 25, g 26, g 27] rfl rfl (fun _ _ _ _ h => h) (fun _ _ _ => trivial) (fun H locs hP hD hS => ?_)
  have hP : va_P D vwCl (wM g cA t s y d q k r c o m) H := hP
  have hD : va_D A (wM g cA t s y d q k r c o m) := hD
  refine lv_if_eq (tgt := 15) hx hb dX3_goOn_7 (by decide) (fun c3 => ?_) (fun c3 => ?_)
  · have hE := if_t c3 hE
    refine lv_aload_n hx hb dX3_goOn_15 rfl (lv_at hl 0 rfl) ?_
    refine va_get (D := D) (ci := 2) (v := .ref (g 21)) (C := RX3) (T := TX3) (N := 14) hx hb hts inX3 hown hK hP 0 rfl rfl 5 (by decide) k0 (fun _ h9 => h9) rfl dX3_goOn_16 ?_
    obtain ⟨u4, h5, hE⟩ := bd_some hE
    refine cn_i (As := []) (rest := []) (r := u4) (w0 := (wM g cA t s y d q k r c o m)) (N := 28) ⟨hx, hb, hml, hown, hts⟩ (c_X1_latestIsCatch l D cA (g 21) (g 22) (g 23) (g 24) (g 25) H.size c u4 h5) (cwV 0 hts hX3_goOn_X1_latestIsCatch_114 rfl rfl rfl (by decide +kernel) ⟨Nat.le_of_ble_eq_true rfl, Nat.le_of_ble_eq_true rfl⟩) rfl hl.1 rfl (Nat.le_of_ble_eq_true rfl) dX3_goOn_19 ⟨Nat.zero_le _, Nat.zero_le _⟩ hK hP hD hS hA (va_recv hK hP (ci := 0) (q0 := 21) rfl rfl) [21, 22, 23, 24, 25] [0, 1, 2, 3, 4, 5, 6, 7, 8, 9, 10, 11, 12, 13, 14, 15, 16, 17, 18, 19, 20, 26, 27] (wM g cA t s y d q k r c o m) rfl (by decide +kernel) rfl (wr := List.filterMap (fun i => (wM g cA t s y d q k r c o m)[i]?) [0, 1, 2, 3, 4, 5, 6, 7, 8, 9, 10, 11, 12, 13, 14, 15, 16, 17, 18, 19, 20, 26, 27]) rfl rfl (by decide +kernel) rfl (by decide +kernel) [g 0, g 1, g 2, g 3, g 4, g 5, g 6, g 7, g 8, g 9, g 10, g 11, g 12, g 13, g 14, g 15, g 16, g 17, g 18, g 19, g 20, g 21, g 22, g 23, g 24, g 25, g 26, g 27] rfl rfl (fun _ _ _ _ h => h) (fun _ _ _ => trivial) (fun H locs hP hD hS => ?_)
    have hP : va_P D vwCl (wM g cA t s y d q k r c o m) H := hP
    have hD : va_D A (wM g cA t s y d q k r c o m) := hD
    refine lv_if_eq (tgt := 41) hx hb dX3_goOn_22 (by decide) (fun c6 => ?_) (fun c6 => ?_)
    · have hE := if_t c6 hE
      refine lv_aload_n hx hb dX3_goOn_41 rfl (lv_at hl 0 rfl) ?_
      refine va_get (D := D) (ci := 2) (v := .ref (g 2)) (C := RX3) (T := TX3) (N := 14) hx hb hts inX3 hown hK hP 0 rfl rfl 0 (by decide) k2 (fun _ h9 => h9) rfl dX3_goOn_42 ?_
      obtain ⟨u7, h8, hE⟩ := bd_some hE
      refine cn_i (As := []) (rest := []) (r := u7.1) (w0 := (wM g cA t s y d q k r c o m)) (N := 28) ⟨hx, hb, hml, hown, hts⟩ (c_X9_takeName l D cA (g 2) (g 3) H.size t u7 h8) (cwV 0 hts hX3_goOn_X9_takeName_124 rfl rfl rfl (by decide +kernel) ⟨Nat.le_of_ble_eq_true rfl, Nat.le_of_ble_eq_true rfl⟩) rfl hl.1 rfl (Nat.le_of_ble_eq_true rfl) dX3_goOn_45 ⟨Nat.zero_le _, Nat.zero_le _⟩ hK hP hD hS hA (va_recv hK hP (ci := 8) (q0 := 2) rfl rfl) [2, 3] [0, 1, 4, 5, 6, 7, 8, 9, 10, 11, 12, 13, 14, 15, 16, 17, 18, 19, 20, 21, 22, 23, 24, 25, 26, 27] (wM g cA u7.2 s y d q k r c o m) rfl (by decide +kernel) rfl (wr := List.filterMap (fun i => (wM g cA t s y d q k r c o m)[i]?) [0, 1, 4, 5, 6, 7, 8, 9, 10, 11, 12, 13, 14, 15, 16, 17, 18, 19, 20, 21, 22, 23, 24, 25, 26, 27]) rfl rfl (by decide +kernel) rfl (by decide +kernel) [g 0, g 1, g 2, g 3, g 4, g 5, g 6, g 7, g 8, g 9, g 10, g 11, g 12, g 13, g 14, g 15, g 16, g 17, g 18, g 19, g 20, g 21, g 22, g 23, g 24, g 25, g 26, g 27] rfl rfl (fun _ _ _ _ h => h) (fun _ _ _ => trivial) (fun H locs hP hD hS => ?_)
      have hP : va_P D vwCl (wM g cA u7.2 s y d q k r c o m) H := hP
      have hD : va_D A (wM g cA u7.2 s y d q k r c o m) := hD
      refine lv_if_eq (tgt := 56) hx hb dX3_goOn_48 (by decide) (fun c9 => ?_) (fun c9 => ?_)
      · have hE := if_t c9 hE
        refine lv_aload_n hx hb dX3_goOn_56 rfl (lv_at hl 0 rfl) ?_
        refine lv_iconst (v := 1) hx hb dX3_goOn_57 (by decide +kernel) ?_
        refine va_put (D := D) (ci := 2) (v := .int 1) (ty := .boolean) (C := RX3) (T := TX3) (N := 14) hx hb hts inX3 tyX3 tyX3_ok nmX3 hown hK hP hD hS 0 rfl rfl 12 (by decide) k3 (fun _ h9 => h9) rfl (by decide +kernel) (by decide +kernel) (by decide +kernel) (Nat.le_of_ble_eq_true rfl) dX3_goOn_58 (fun H locs hP hD hS => ?_)
        have hP : va_P D vwCl (wM g cA u7.2 s y d q k r c o ((m.1, m.2.1, m.2.2.1, m.2.2.2.1, 1, m.2.2.2.2.2))) H := hP
        have hD : va_D A (wM g cA u7.2 s y d q k r c o ((m.1, m.2.1, m.2.2.1, m.2.2.2.1, 1, m.2.2.2.2.2))) := hD
        refine lv_iconst (v := 0) hx hb dX3_goOn_61 (by decide +kernel) ?_
        obtain rfl := Option.some.inj hE
        exact rt_i hx hb hr hP hS rfl hlocks dX3_goOn_62
      · have hE := if_f c9 hE
        refine lv_aload_n hx hb dX3_goOn_51 rfl (lv_at hl 0 rfl) ?_
        obtain ⟨u10, h11, hE⟩ := bd_some hE
        refine cw_i (As := []) (rest := []) (r := u10.1) (wc := (wM g cA u7.2 s y d q k r c o m)) ⟨hx, hb, hml, hown, hts⟩ (c_X3_readName l D cA ad adK adV tA tS g H.size u7.2 s y d q k r c o m u10 h11) (cwV 0 hts hX3_goOn_X3_readName_127 rfl rfl rfl (by decide +kernel) ⟨Nat.le_of_ble_eq_true rfl, Nat.le_of_ble_eq_true rfl⟩) rfl hl.1 rfl (Nat.le_of_ble_eq_true rfl) dX3_goOn_52 ⟨Nat.zero_le _, Nat.zero_le _⟩ hK hP hD hS hA (va_recv hK hP (ci := 2) (q0 := 0) rfl rfl) [g 0, g 1, g 2, g 3, g 4, g 5, g 6, g 7, g 8, g 9, g 10, g 11, g 12, g 13, g 14, g 15, g 16, g 17, g 18, g 19, g 20, g 21, g 22, g 23, g 24, g 25, g 26, g 27] rfl rfl (fun a U g mk h => SX.blind a U g mk h) (fun U hU hW => SX.call hX hS (fun q h => h.elim (fun ⟨k, e, h⟩ => hD.2 k (q, e) h) (fun h => hA q (Nat.le_trans hS.1 h))) U hU hW) (fun H locs hP hD hS => ?_)
        have hP : va_P D vwCl (wM g cA u7.2 u10.2.1 u10.2.2.1 d q k r c o u10.2.2.2) H := hP
        have hD : va_D A (wM g cA u7.2 u10.2.1 u10.2.2.1 d q k r c o u10.2.2.2) := hD
        obtain rfl := Option.some.inj hE
        exact rt_i hx hb hr hP hS rfl hlocks dX3_goOn_55
    · have hE := if_f c6 hE
      refine lv_aload_n hx hb dX3_goOn_25 rfl (lv_at hl 0 rfl) ?_
      refine va_get (D := D) (ci := 2) (v := .ref (g 21)) (C := RX3) (T := TX3) (N := 14) hx hb hts inX3 hown hK hP 0 rfl rfl 5 (by decide) k0 (fun _ h9 => h9) rfl dX3_goOn_26 ?_
      obtain ⟨u12, h13, hE⟩ := bd_some hE
      refine cn_v (As := []) (rest := []) (w0 := (wM g cA t s y d q k r c o m)) (N := 28) ⟨hx, hb, hml, hown, hts⟩ (c_X1_comeBack l D cA (g 21) (g 22) (g 23) (g 24) (g 25) H.size c u12 h13) (cwV 0 hts hX3_goOn_X1_comeBack_117 rfl rfl rfl (by decide +kernel) ⟨Nat.le_of_ble_eq_true rfl, Nat.le_of_ble_eq_true rfl⟩) rfl hl.1 rfl (Nat.le_of_ble_eq_true rfl) dX3_goOn_29 ⟨Nat.zero_le _, Nat.zero_le _⟩ hK hP hD hS hA (va_recv hK hP (ci := 0) (q0 := 21) rfl rfl) [21, 22, 23, 24, 25] [0, 1, 2, 3, 4, 5, 6, 7, 8, 9, 10, 11, 12, 13, 14, 15, 16, 17, 18, 19, 20, 26, 27] (wM g cA t s y d q k r u12 o m) rfl (by decide +kernel) rfl (wr := List.filterMap (fun i => (wM g cA t s y d q k r c o m)[i]?) [0, 1, 2, 3, 4, 5, 6, 7, 8, 9, 10, 11, 12, 13, 14, 15, 16, 17, 18, 19, 20, 26, 27]) rfl rfl (by decide +kernel) rfl (by decide +kernel) [g 0, g 1, g 2, g 3, g 4, g 5, g 6, g 7, g 8, g 9, g 10, g 11, g 12, g 13, g 14, g 15, g 16, g 17, g 18, g 19, g 20, g 21, g 22, g 23, g 24, g 25, g 26, g 27] rfl rfl (fun _ _ _ _ h => h) (fun _ _ _ => trivial) (fun H locs hP hD hS => ?_)
      have hP : va_P D vwCl (wM g cA t s y d q k r u12 o m) H := hP
      have hD : va_D A (wM g cA t s y d q k r u12 o m) := hD
      refine lv_aload_n hx hb dX3_goOn_32 rfl (lv_at hl 0 rfl) ?_
      refine va_get (D := D) (ci := 2) (v := .ref (g 4)) (C := RX3) (T := TX3) (N := 14) hx hb hts inX3 hown hK hP 0 rfl rfl 1 (by decide) k4 (fun _ h9 => h9) rfl dX3_goOn_33 ?_
      refine lv_iconst (v := 0) hx hb dX3_goOn_36 (by decide +kernel) ?_
      obtain ⟨u14, h15, hE⟩ := bd_some hE
      refine cn_i (As := [.int 0]) (rest := []) (r := u14.1) (w0 := (wM g cA t s y d q k r u12 o m)) (N := 28) ⟨hx, hb, hml, hown, hts⟩ (c_X8_put l D cA (g 4) (g 5) H.size 0 (-3) s u14 h15) (cwV 1 hts hX3_goOn_X8_put_120 rfl rfl rfl (by decide +kernel) ⟨Nat.le_of_ble_eq_true rfl, Nat.le_of_ble_eq_true rfl⟩) rfl hl.1 rfl (Nat.le_of_ble_eq_true rfl) dX3_goOn_37 ⟨Nat.zero_le _, Nat.zero_le _⟩ hK hP hD hS hA (va_recv hK hP (ci := 7) (q0 := 4) rfl rfl) [4, 5] [0, 1, 2, 3, 6, 7, 8, 9, 10, 11, 12, 13, 14, 15, 16, 17, 18, 19, 20, 21, 22, 23, 24, 25, 26, 27] (wM g cA t u14.2 y d q k r u12 o m) rfl (by decide +kernel) rfl (wr := List.filterMap (fun i => (wM g cA t s y d q k r u12 o m)[i]?) [0, 1, 2, 3, 6, 7, 8, 9, 10, 11, 12, 13, 14, 15, 16, 17, 18, 19, 20, 21, 22, 23, 24, 25, 26, 27]) rfl rfl (by decide +kernel) rfl (by decide +kernel) [g 0, g 1, g 2, g 3, g 4, g 5, g 6, g 7, g 8, g 9, g 10, g 11, g 12, g 13, g 14, g 15, g 16, g 17, g 18, g 19, g 20, g 21, g 22, g 23, g 24, g 25, g 26, g 27] rfl rfl (fun _ _ _ _ h => h) (fun _ _ _ => trivial) (fun H locs hP hD hS => ?_)
      have hP : va_P D vwCl (wM g cA t u14.2 y d q k r u12 o m) H := hP
      have hD : va_D A (wM g cA t u14.2 y d q k r u12 o m) := hD
      obtain rfl := Option.some.inj hE
      exact rt_i hx hb hr hP hS rfl hlocks dX3_goOn_40
  · have hE := if_f c3 hE
    refine lv_aload_n hx hb dX3_goOn_10 rfl (lv_at hl 0 rfl) ?_
    obtain ⟨u16, h17, hE⟩ := bd_some hE
    refine cw_i (As := []) (rest := []) (r := u16.1) (wc := (wM g cA t s y d q k r c o m)) ⟨hx, hb, hml, hown, hts⟩ (c_X3_goOnWithCall l D cA ad adK adV tA tS g H.size t s y d q k r c o m u16 h17) (cwV 0 hts hX3_goOn_X3_goOnWithCall_111 rfl rfl rfl (by decide +kernel) ⟨Nat.le_of_ble_eq_true rfl, Nat.le_of_ble_eq_true rfl⟩) rfl hl.1 rfl (Nat.le_of_ble_eq_true rfl) dX3_goOn_11 ⟨Nat.zero_le _, Nat.zero_le _⟩ hK hP hD hS hA (va_recv hK hP (ci := 2) (q0 := 0) rfl rfl) [g 0, g 1, g 2, g 3, g 4, g 5, g 6, g 7, g 8, g 9, g 10, g 11, g 12, g 13, g 14, g 15, g 16, g 17, g 18, g 19, g 20, g 21, g 22, g 23, g 24, g 25, g 26, g 27] rfl rfl (fun a U g mk h => SX.blind a U g mk h) (fun U hU hW => SX.call hX hS (fun q h => h.elim (fun ⟨k, e, h⟩ => hD.2 k (q, e) h) (fun h => hA q (Nat.le_trans hS.1 h))) U hU hW) (fun H locs hP hD hS => ?_)
    have hP : va_P D vwCl (wM g cA t s y d q k r u16.2.1 o u16.2.2) H := hP
    have hD : va_D A (wM g cA t s y d q k r u16.2.1 o u16.2.2) := hD
    obtain rfl := Option.some.inj hE
    exact rt_i hx hb hr hP hS rfl hlocks dX3_goOn_14
set_option maxRecDepth 20000 in
theorem hX3_carryOutMade_X1_add_258 : GoodIn wsX3_carryOutMade (wsV RX3 258 RX1 yX1_add wsX1_add) := goodIn_r _ [5, 6, 7, 8, 9, 10, 11, 12, 13, 14, 15, 8, 16, 62, 63, 64, 65, 66] rfl (by decide +kernel)
set_option maxRecDepth 20000 in
theorem hX3_carryOutMade_X5_at_181 : GoodIn wsX3_carryOutMade (wsV RX3 181 RX5 yX5_at wsX5_at) := goodIn_r _ [17, 18, 19, 20, 21, 22, 23, 24, 25, 20, 26, 67, 68] rfl (by decide +kernel)
set_option maxRecDepth 20000 in
theorem hX3_carryOutMade_X8_put_120 : GoodIn wsX3_carryOutMade (wsV RX3 120 RX8 yX8_put wsX8_put) := goodIn_r _ [27, 28, 29, 30, 31, 32, 33, 34, 69, 70, 71] rfl (by decide +kernel)
set_option maxRecDepth 20000 in
theorem hX3_carryOutMade_X8_hasRoom_261 : GoodIn wsX3_carryOutMade (wsV RX3 261 RX8 yX8_hasRoom wsX8_hasRoom) := goodIn_r _ [35, 36, 37, 30, 38, 32, 69, 70, 71] rfl (by decide +kernel)
set_option maxRecDepth 20000 in
theorem hX3_carryOutMade_X1_isFull_267 : GoodIn wsX3_carryOutMade (wsV RX3 267 RX1 yX1_isFull wsX1_isFull) := goodIn_r _ [39, 14, 15, 8, 16, 11, 62, 63, 64, 65, 66] rfl (by decide +kernel)
set_option maxHeartbeats 4000000 in
set_option maxRecDepth 100000 in
theorem c_X3_carryOutMade (l : Launch) (D : va_G) (cA : Nat → ClassId) (ad adK adV : Nat → Nat) (tA tS : Nat) (g : Nat → Nat) (sz : Nat) (x1 : Int32) (t : tT) (s : tR) (y : tY) (d : tD) (q : tP) (k : tK) (r : tR) (c : tC) (o : tO) (m : tM) (u : Int32 × tR × tC) (hE : f_X3_carryOutMade x1 s y d c = some u) : Met l yX3_carryOutMade wsX3_carryOutMade ({ frames := 2, cells := 0, slots := 0, locals := 42 }) (va_Pc [.ref (g 0), .int x1] (PRE D cA (wM g cA t s y d q k r c o m) sz (fun U => SX ad adK adV tA tS (va_A (wM g cA t s y d q k r c o m) sz) U U.heap))) (cQi D (wM g cA t u.2.1 y d q k r u.2.2 o m) (va_A (wM g cA t s y d q k r c o m) sz) u.1) 0 0 (va_A (wM g cA t s y d q k r c o m) sz) := by
  refine Met.ofW (cc := cX3_carryOutMade) (maxL := 2) (ret := (some .int)) (by decide) rfl ?_
  intro PP EE S0 MM args below meth CC S1 B hml hv
  obtain ⟨rfl, hsz, hP, hK, hD0, hX⟩ := hv
  have hx := B.exec
  have hb := B.bytes
  have hr := B.returns
  have hts := atoms_spec (ws := wsX3_carryOutMade) B.pre
  have hown : S0.vm.findClass RX3 = some MM.cls := findClass_of_methodNamed B.named
  have hlocks := B.notSynchronized
  subst hsz
  have hD := hD0.self (sz := S0.heap.size)
  have hX : SX ad adK adV tA tS (va_A (wM g cA t s y d q k r c o m) S0.heap.size) S0 S0.heap := hX
  generalize hAe : va_A (wM g cA t s y d q k r c o m) S0.heap.size = A at hD hX ⊢
  have hA : ∀ q : Nat, S0.heap.size ≤ q → A q := fun q h => by rw [← hAe]; exact Or.inr h
  have hS : va_S A S0.heap S0.heap [] := va_S.rf
  have k0 := hts (.fieldLink RX3 40 "WordForge$Machine" "dictionary" "LWordForge$Dictionary;") (List.mem_of_getElem? (i := 1) rfl)
  have inX3 : ∀ w ∈ wsX30, w ∈ wsX3_carryOutMade := fun _ h => List.mem_cons_of_mem _ (List.mem_append_left _ (List.mem_append_left _ (List.mem_append_left _ (List.mem_append_left _ (List.mem_append_right _ h)))))
  have k2 := hX.nest (.fieldLinkNest RX3 252 "WordForge$Dictionary" "sorts" "[I" "WordForge") (List.mem_of_getElem? (i := 11) rfl)
  have inX2 : ∀ w ∈ wsX20, w ∈ wsX3_carryOutMade := fun _ h => List.mem_cons_of_mem _ (List.mem_append_left _ (List.mem_append_left _ (List.mem_append_left _ (List.mem_append_right _ h))))
  have k4 := hts (.fieldLink RX3 23 "WordForge$Machine" "stack" "LWordForge$Row;") (List.mem_of_getElem? (i := 3) rfl)
  have k5 := hX.nest (.fieldLinkNest RX3 264 "WordForge$Dictionary" "behaviours" "[I" "WordForge") (List.mem_of_getElem? (i := 13) rfl)
  have k6 := hts (.fieldLink RX3 47 "WordForge$Machine" "calls" "LWordForge$Calls;") (List.mem_of_getElem? (i := 2) rfl)
  have k7 := hts (.fieldLink RX3 33 "WordForge$Machine" "memory" "LWordForge$Memory;") (List.mem_of_getElem? (i := 4) rfl)
  have k8 := hX.nest (.fieldLinkNest RX3 255 "WordForge$Dictionary" "places" "[I" "WordForge") (List.mem_of_getElem? (i := 9) rfl)
  have hl := lv_entry ([.ref (g 0), .int x1]) (n := 2) (Nat.le_of_ble_eq_true rfl)
  rw [lg_entry_eq]
  generalize (lg_sl ([.ref (g 0), .int x1]) ++ List.replicate (2 - (lg_sl ([.ref (g 0), .int x1])).length) Slot.unset).toArray = ls at hl ⊢
  have hl : lv_has ls 2 [(0, .ref (g 0)), (1, .int x1)] := hl
  have w107 : ∀ (y1 : Int32) (s : tR) (y : tY) (d : tD) (c : tC) (H : Heap) (locs : List Loc) (ls : Array Slot), va_P D vwCl (wM g cA t s y d q k r c o m) H → va_D A (wM g cA t s y d q k r c o m) → va_S A S0.heap H locs → lv_has ls 2 [(0, .ref (g 0)), (1, .int y1)] → b_X3_carryOutMade_107  y1 s y d c = some u → W PP l EE (headSpec wsX3_carryOutMade ({ frames := 2, cells := 0, slots := 0, locals := 42 })).room S0 MM (#[.ref (g 0), .int x1] : Array Value) below meth CC H locs 0 0 (MQ below (cQi D (wM g cA t u.2.1 y d q k r u.2.2 o m) A u.1) (#[.ref (g 0), .int x1] : Array Value) S0 0 0 A) (F0 MM 107 ls []) := by
    intro y1 s y d c
    intro H locs ls hP hD hS hl hE
    unfold b_X3_carryOutMade_107 at hE
    refine lv_aload_n hx hb dX3_carryOutMade_107 rfl (lv_at hl 0 rfl) ?_
    refine va_get (D := D) (ci := 2) (v := .ref (g 4)) (C := RX3) (T := TX3) (N := 14) hx hb hts inX3 hown hK hP 0 rfl rfl 1 (by decide) k4 (fun _ h9 => h9) rfl dX3_carryOutMade_108 ?_
    refine lv_aload_n hx hb dX3_carryOutMade_111 rfl (lv_at hl 0 rfl) ?_
    refine va_get (D := D) (ci := 2) (v := .ref (g 8)) (C := RX3) (T := TX3) (N := 14) hx hb hts inX3 hown hK hP 0 rfl rfl 4 (by decide) k0 (fun _ h9 => h9) rfl dX3_carryOutMade_112 ?_
    refine va_getN (D := D) (ci := 1) (v := .ref (g 11)) (C := RX2) (T := TX2) (N := 8) hx hb hts inX2 hown hK hP 8 rfl rfl 2 (by decide) (k8 _) (fun _ h9 => h9) rfl dX3_carryOutMade_115 ?_
    refine lv_iload_n hx hb dX3_carryOutMade_118 rfl (lv_at hl 1 rfl) ?_
    have ⟨c21, hE⟩ := ck_some hE
    refine va_iald hx hb hK hP 11 0 rfl rfl c21 dX3_carryOutMade_119 ?_
    obtain ⟨u22, h23, hE⟩ := bd_some hE
    refine cn_i (As := [.int (d.2.2.2.1 y1.toNatClampNeg)]) (rest := []) (r := u22.1) (w0 := (wM g cA t s y d q k r c o m)) (N := 28) ⟨hx, hb, hml, hown, hts⟩ (c_X8_put l D cA (g 4) (g 5) H.size (d.2.2.2.1 y1.toNatClampNeg) (-3) s u22 h23) (cwV 1 hts hX3_carryOutMade_X8_put_120 rfl rfl rfl (by decide +kernel) ⟨Nat.le_of_ble_eq_true rfl, Nat.le_of_ble_eq_true rfl⟩) rfl hl.1 rfl (Nat.le_of_ble_eq_true rfl) dX3_carryOutMade_120 ⟨Nat.zero_le _, Nat.zero_le _⟩ hK hP hD hS hA (va_recv hK hP (ci := 7) (q0 := 4) rfl rfl) [4, 5] [0, 1, 2, 3, 6, 7, 8, 9, 10, 11, 12, 13, 14, 15, 16, 17, 18, 19, 20, 21, 22, 23, 24, 25, 26, 27] (wM g cA t u22.2 y d q k r c o m) rfl (by decide +kernel) rfl (wr := List.filterMap (fun i => (wM g cA t s y d q k r c o m)[i]?) [0, 1, 2, 3, 6, 7, 8, 9, 10, 11, 12, 13, 14, 15, 16, 17, 18, 19, 20, 21, 22, 23, 24, 25, 26, 27]) rfl rfl (by decide +kernel) rfl (by decide +kernel) [g 0, g 1, g 2, g 3, g 4, g 5, g 6, g 7, g 8, g 9, g 10, g 11, g 12, g 13, g 14, g 15, g 16, g 17, g 18, g 19, g 20, g 21, g 22, g 23, g 24, g 25, g 26, g 27] rfl rfl (fun _ _ _ _ h => h) (fun _ _ _ => trivial) (fun H locs hP hD hS => ?_)
    have hP : va_P D vwCl (wM g cA t u22.2 y d q k r c o m) H := hP
    have hD : va_D A (wM g cA t u22.2 y d q k r c o m) := hD
    refine lv_pop hx hb dX3_carryOutMade_123 rfl ?_
    refine lv_aload_n hx hb dX3_carryOutMade_124 rfl (lv_at hl 0 rfl) ?_
    refine va_get (D := D) (ci := 2) (v := .ref (g 8)) (C := RX3) (T := TX3) (N := 14) hx hb hts inX3 hown hK hP 0 rfl rfl 4 (by decide) k0 (fun _ h9 => h9) rfl dX3_carryOutMade_125 ?_
    refine va_getN (D := D) (ci := 1) (v := .ref (g 13)) (C := RX2) (T := TX2) (N := 8) hx hb hts inX2 hown hK hP 8 rfl rfl 4 (by decide) (k5 _) (fun _ h9 => h9) rfl dX3_carryOutMade_128 ?_
    refine lv_iload_n hx hb dX3_carryOutMade_131 rfl (lv_at hl 1 rfl) ?_
    have ⟨c24, hE⟩ := ck_some hE
    refine va_iald hx hb hK hP 13 0 rfl rfl c24 dX3_carryOutMade_132 ?_
    refine lv_iconst (v := (-1)) hx hb dX3_carryOutMade_133 (by decide +kernel) ?_
    refine lv_icmp_ne (tgt := 141) hx hb dX3_carryOutMade_134 (by decide) (fun c25 => ?_) (fun c25 => ?_)
    · have hE := if_f c25 hE
      refine lv_aload_n hx hb dX3_carryOutMade_141 rfl (lv_at hl 0 rfl) ?_
      refine va_get (D := D) (ci := 2) (v := .ref (g 21)) (C := RX3) (T := TX3) (N := 14) hx hb hts inX3 hown hK hP 0 rfl rfl 5 (by decide) k6 (fun _ h9 => h9) rfl dX3_carryOutMade_142 ?_
      refine lv_aload_n hx hb dX3_carryOutMade_145 rfl (lv_at hl 0 rfl) ?_
      refine va_get (D := D) (ci := 2) (v := .ref (g 8)) (C := RX3) (T := TX3) (N := 14) hx hb hts inX3 hown hK hP 0 rfl rfl 4 (by decide) k0 (fun _ h9 => h9) rfl dX3_carryOutMade_146 ?_
      refine va_getN (D := D) (ci := 1) (v := .ref (g 13)) (C := RX2) (T := TX2) (N := 8) hx hb hts inX2 hown hK hP 8 rfl rfl 4 (by decide) (k5 _) (fun _ h9 => h9) rfl dX3_carryOutMade_149 ?_
      refine lv_iload_n hx hb dX3_carryOutMade_152 rfl (lv_at hl 1 rfl) ?_
      have ⟨c26, hE⟩ := ck_some hE
      refine va_iald hx hb hK hP 13 0 rfl rfl c26 dX3_carryOutMade_153 ?_
      obtain ⟨u27, h28, hE⟩ := bd_some hE
      refine cn_i (As := [.int (d.2.2.2.2.2.1 y1.toNatClampNeg)]) (rest := []) (r := u27.1) (w0 := (wM g cA t u22.2 y d q k r c o m)) (N := 28) ⟨hx, hb, hml, hown, hts⟩ (c_X1_add l D cA (g 21) (g 22) (g 23) (g 24) (g 25) H.size (d.2.2.2.2.2.1 y1.toNatClampNeg) c u27 h28) (cwV 1 hts hX3_carryOutMade_X1_add_258 rfl rfl rfl (by decide +kernel) ⟨Nat.le_of_ble_eq_true rfl, Nat.le_of_ble_eq_true rfl⟩) rfl hl.1 rfl (Nat.le_of_ble_eq_true rfl) dX3_carryOutMade_154 ⟨Nat.zero_le _, Nat.zero_le _⟩ hK hP hD hS hA (va_recv hK hP (ci := 0) (q0 := 21) rfl rfl) [21, 22, 23, 24, 25] [0, 1, 2, 3, 4, 5, 6, 7, 8, 9, 10, 11, 12, 13, 14, 15, 16, 17, 18, 19, 20, 26, 27] (wM g cA t u22.2 y d q k r u27.2 o m) rfl (by decide +kernel) rfl (wr := List.filterMap (fun i => (wM g cA t u22.2 y d q k r c o m)[i]?) [0, 1, 2, 3, 4, 5, 6, 7, 8, 9, 10, 11, 12, 13, 14, 15, 16, 17, 18, 19, 20, 26, 27]) rfl rfl (by decide +kernel) rfl (by decide +kernel) [g 0, g 1, g 2, g 3, g 4, g 5, g 6, g 7, g 8, g 9, g 10, g 11, g 12, g 13, g 14, g 15, g 16, g 17, g 18, g 19, g 20, g 21, g 22, g 23, g 24, g 25, g 26, g 27] rfl rfl (fun _ _ _ _ h => h) (fun _ _ _ => trivial) (fun H locs hP hD hS => ?_)
      have hP : va_P D vwCl (wM g cA t u22.2 y d q k r u27.2 o m) H := hP
      have hD : va_D A (wM g cA t u22.2 y d q k r u27.2 o m) := hD
      obtain rfl := Option.some.inj hE
      exact rt_i hx hb hr hP hS rfl hlocks dX3_carryOutMade_157
    · have hE := if_t c25 hE
      refine lv_iconst (v := 0) hx hb dX3_carryOutMade_137 (by decide +kernel) ?_
      refine lv_goto (tgt := 157) hx hb dX3_carryOutMade_138 (by decide) ?_
      obtain rfl := Option.some.inj hE
      exact rt_i hx hb hr hP hS rfl hlocks dX3_carryOutMade_157
  unfold f_X3_carryOutMade at hE
  suffices main : ∀ (H : Heap) (locs : List Loc) (ls : Array Slot), va_P D vwCl (wM g cA t s y d q k r c o m) H → va_D A (wM g cA t s y d q k r c o m) → va_S A S0.heap H locs → lv_has ls 2 [(0, .ref (g 0)), (1, .int x1)] → W PP l EE (headSpec wsX3_carryOutMade ({ frames := 2, cells := 0, slots := 0, locals := 42 })).room S0 MM (#[.ref (g 0), .int x1] : Array Value) below meth CC H locs 0 0 (MQ below (cQi D (wM g cA t u.2.1 y d q k r u.2.2 o m) A u.1) (#[.ref (g 0), .int x1] : Array Value) S0 0 0 A) (F0 MM 0 ls []) from main _ _ _ hP hD hS hl
  intro H locs ls hP hD hS hl
  refine lv_aload_n hx hb dX3_carryOutMade_0 rfl (lv_at hl 0 rfl) ?_
  refine va_get (D := D) (ci := 2) (v := .ref (g 8)) (C := RX3) (T := TX3) (N := 14) hx hb hts inX3 hown hK hP 0 rfl rfl 4 (by decide) k0 (fun _ h9 => h9) rfl dX3_carryOutMade_1 ?_
  refine va_getN (D := D) (ci := 1) (v := .ref (g 12)) (C := RX2) (T := TX2) (N := 8) hx hb hts inX2 hown hK hP 8 rfl rfl 3 (by decide) (k2 _) (fun _ h9 => h9) rfl dX3_carryOutMade_4 ?_
  refine lv_iload_n hx hb dX3_carryOutMade_7 rfl (lv_at hl 1 rfl) ?_
  have ⟨c1, hE⟩ := ck_some hE
  refine va_iald hx hb hK hP 12 0 rfl rfl c1 dX3_carryOutMade_8 ?_
  refine lv_iconst (v := 1) hx hb dX3_carryOutMade_9 (by decide +kernel) ?_
  refine lv_icmp_ne (tgt := 30) hx hb dX3_carryOutMade_10 (by decide) (fun c2 => ?_) (fun c2 => ?_)
  · have hE := if_f c2 hE
    refine lv_aload_n hx hb dX3_carryOutMade_30 rfl (lv_at hl 0 rfl) ?_
    refine va_get (D := D) (ci := 2) (v := .ref (g 8)) (C := RX3) (T := TX3) (N := 14) hx hb hts inX3 hown hK hP 0 rfl rfl 4 (by decide) k0 (fun _ h9 => h9) rfl dX3_carryOutMade_31 ?_
    refine va_getN (D := D) (ci := 1) (v := .ref (g 12)) (C := RX2) (T := TX2) (N := 8) hx hb hts inX2 hown hK hP 8 rfl rfl 3 (by decide) (k2 _) (fun _ h9 => h9) rfl dX3_carryOutMade_34 ?_
    refine lv_iload_n hx hb dX3_carryOutMade_37 rfl (lv_at hl 1 rfl) ?_
    have ⟨c3, hE⟩ := ck_some hE
    refine va_iald hx hb hK hP 12 0 rfl rfl c3 dX3_carryOutMade_38 ?_
    refine lv_iconst (v := 3) hx hb dX3_carryOutMade_39 (by decide +kernel) ?_
    refine lv_icmp_ne (tgt := 67) hx hb dX3_carryOutMade_40 (by decide) (fun c4 => ?_) (fun c4 => ?_)
    · have hE := if_f c4 hE
      refine lv_aload_n hx hb dX3_carryOutMade_67 rfl (lv_at hl 0 rfl) ?_
      refine va_get (D := D) (ci := 2) (v := .ref (g 4)) (C := RX3) (T := TX3) (N := 14) hx hb hts inX3 hown hK hP 0 rfl rfl 1 (by decide) k4 (fun _ h9 => h9) rfl dX3_carryOutMade_68 ?_
      refine lv_iconst (v := 1) hx hb dX3_carryOutMade_71 (by decide +kernel) ?_
      obtain ⟨u5, h6, hE⟩ := bd_some hE
      refine cn_i (As := [.int 1]) (rest := []) (r := u5) (w0 := (wM g cA t s y d q k r c o m)) (N := 28) ⟨hx, hb, hml, hown, hts⟩ (c_X8_hasRoom l D cA (g 4) (g 5) H.size 1 (-3) s u5 h6) (cwV 1 hts hX3_carryOutMade_X8_hasRoom_261 rfl rfl rfl (by decide +kernel) ⟨Nat.le_of_ble_eq_true rfl, Nat.le_of_ble_eq_true rfl⟩) rfl hl.1 rfl (Nat.le_of_ble_eq_true rfl) dX3_carryOutMade_72 ⟨Nat.zero_le _, Nat.zero_le _⟩ hK hP hD hS hA (va_recv hK hP (ci := 7) (q0 := 4) rfl rfl) [4, 5] [0, 1, 2, 3, 6, 7, 8, 9, 10, 11, 12, 13, 14, 15, 16, 17, 18, 19, 20, 21, 22, 23, 24, 25, 26, 27] (wM g cA t s y d q k r c o m) rfl (by decide +kernel) rfl (wr := List.filterMap (fun i => (wM g cA t s y d q k r c o m)[i]?) [0, 1, 2, 3, 6, 7, 8, 9, 10, 11, 12, 13, 14, 15, 16, 17, 18, 19, 20, 21, 22, 23, 24, 25, 26, 27]) rfl rfl (by decide +kernel) rfl (by decide +kernel) [g 0, g 1, g 2, g 3, g 4, g 5, g 6, g 7, g 8, g 9, g 10, g 11, g 12, g 13, g 14, g 15, g 16, g 17, g 18, g 19, g 20, g 21, g 22, g 23, g 24, g 25, g 26, g 27] rfl rfl (fun _ _ _ _ h => h) (fun _ _ _ => trivial) (fun H locs hP hD hS => ?_)
      have hP : va_P D vwCl (wM g cA t s y d q k r c o m) H := hP
      have hD : va_D A (wM g cA t s y d q k r c o m) := hD
      refine lv_if_ne (tgt := 81) hx hb dX3_carryOutMade_75 (by decide) (fun c7 => ?_) (fun c7 => ?_)
      · have hE := if_f c7 hE
        refine lv_aload_n hx hb dX3_carryOutMade_81 rfl (lv_at hl 0 rfl) ?_
        refine va_get (D := D) (ci := 2) (v := .ref (g 8)) (C := RX3) (T := TX3) (N := 14) hx hb hts inX3 hown hK hP 0 rfl rfl 4 (by decide) k0 (fun _ h9 => h9) rfl dX3_carryOutMade_82 ?_
        refine va_getN (D := D) (ci := 1) (v := .ref (g 13)) (C := RX2) (T := TX2) (N := 8) hx hb hts inX2 hown hK hP 8 rfl rfl 4 (by decide) (k5 _) (fun _ h9 => h9) rfl dX3_carryOutMade_85 ?_
        refine lv_iload_n hx hb dX3_carryOutMade_88 rfl (lv_at hl 1 rfl) ?_
        have ⟨c8, hE⟩ := ck_some hE
        refine va_iald hx hb hK hP 13 0 rfl rfl c8 dX3_carryOutMade_89 ?_
        refine lv_iconst (v := (-1)) hx hb dX3_carryOutMade_90 (by decide +kernel) ?_
        refine lv_icmp_eq (tgt := 107) hx hb dX3_carryOutMade_91 (by decide) (fun c9 => ?_) (fun c9 => ?_)
        · have hE := if_t c9 hE
          exact w107  x1 s y d c H locs ls hP hD hS (lv_sub hl [0, 1] rfl) hE
        · have hE := if_f c9 hE
          refine lv_aload_n hx hb dX3_carryOutMade_94 rfl (lv_at hl 0 rfl) ?_
          refine va_get (D := D) (ci := 2) (v := .ref (g 21)) (C := RX3) (T := TX3) (N := 14) hx hb hts inX3 hown hK hP 0 rfl rfl 5 (by decide) k6 (fun _ h9 => h9) rfl dX3_carryOutMade_95 ?_
          obtain ⟨u10, h11, hE⟩ := bd_some hE
          refine cn_i (As := []) (rest := []) (r := u10) (w0 := (wM g cA t s y d q k r c o m)) (N := 28) ⟨hx, hb, hml, hown, hts⟩ (c_X1_isFull l D cA (g 21) (g 22) (g 23) (g 24) (g 25) H.size c u10 h11) (cwV 0 hts hX3_carryOutMade_X1_isFull_267 rfl rfl rfl (by decide +kernel) ⟨Nat.le_of_ble_eq_true rfl, Nat.le_of_ble_eq_true rfl⟩) rfl hl.1 rfl (Nat.le_of_ble_eq_true rfl) dX3_carryOutMade_98 ⟨Nat.zero_le _, Nat.zero_le _⟩ hK hP hD hS hA (va_recv hK hP (ci := 0) (q0 := 21) rfl rfl) [21, 22, 23, 24, 25] [0, 1, 2, 3, 4, 5, 6, 7, 8, 9, 10, 11, 12, 13, 14, 15, 16, 17, 18, 19, 20, 26, 27] (wM g cA t s y d q k r c o m) rfl (by decide +kernel) rfl (wr := List.filterMap (fun i => (wM g cA t s y d q k r c o m)[i]?) [0, 1, 2, 3, 4, 5, 6, 7, 8, 9, 10, 11, 12, 13, 14, 15, 16, 17, 18, 19, 20, 26, 27]) rfl rfl (by decide +kernel) rfl (by decide +kernel) [g 0, g 1, g 2, g 3, g 4, g 5, g 6, g 7, g 8, g 9, g 10, g 11, g 12, g 13, g 14, g 15, g 16, g 17, g 18, g 19, g 20, g 21, g 22, g 23, g 24, g 25, g 26, g 27] rfl rfl (fun _ _ _ _ h => h) (fun _ _ _ => trivial) (fun H locs hP hD hS => ?_)
          have hP : va_P D vwCl (wM g cA t s y d q k r c o m) H := hP
          have hD : va_D A (wM g cA t s y d q k r c o m) := hD
          refine lv_if_eq (tgt := 107) hx hb dX3_carryOutMade_101 (by decide) (fun c12 => ?_) (fun c12 => ?_)
          · have hE := if_t c12 hE
            exact w107  x1 s y d c H locs ls hP hD hS (lv_sub hl [0, 1] rfl) hE
          · have hE := if_f c12 hE
            refine lv_bipush (v := (-5)) hx hb dX3_carryOutMade_104 (by decide +kernel) ?_
            obtain rfl := Option.some.inj hE
            exact rt_i hx hb hr hP hS rfl hlocks dX3_carryOutMade_106
      · have hE := if_t c7 hE
        refine lv_bipush (v := (-3)) hx hb dX3_carryOutMade_78 (by decide +kernel) ?_
        obtain rfl := Option.some.inj hE
        exact rt_i hx hb hr hP hS rfl hlocks dX3_carryOutMade_80
    · have hE := if_t c4 hE
      refine lv_aload_n hx hb dX3_carryOutMade_43 rfl (lv_at hl 0 rfl) ?_
      refine va_get (D := D) (ci := 2) (v := .ref (g 4)) (C := RX3) (T := TX3) (N := 14) hx hb hts inX3 hown hK hP 0 rfl rfl 1 (by decide) k4 (fun _ h9 => h9) rfl dX3_carryOutMade_44 ?_
      refine lv_aload_n hx hb dX3_carryOutMade_47 rfl (lv_at hl 0 rfl) ?_
      refine va_get (D := D) (ci := 2) (v := .ref (g 6)) (C := RX3) (T := TX3) (N := 14) hx hb hts inX3 hown hK hP 0 rfl rfl 3 (by decide) k7 (fun _ h9 => h9) rfl dX3_carryOutMade_48 ?_
      refine lv_aload_n hx hb dX3_carryOutMade_51 rfl (lv_at hl 0 rfl) ?_
      refine va_get (D := D) (ci := 2) (v := .ref (g 8)) (C := RX3) (T := TX3) (N := 14) hx hb hts inX3 hown hK hP 0 rfl rfl 4 (by decide) k0 (fun _ h9 => h9) rfl dX3_carryOutMade_52 ?_
      refine va_getN (D := D) (ci := 1) (v := .ref (g 11)) (C := RX2) (T := TX2) (N := 8) hx hb hts inX2 hown hK hP 8 rfl rfl 2 (by decide) (k8 _) (fun _ h9 => h9) rfl dX3_carryOutMade_55 ?_
      refine lv_iload_n hx hb dX3_carryOutMade_58 rfl (lv_at hl 1 rfl) ?_
      have ⟨c13, hE⟩ := ck_some hE
      refine va_iald hx hb hK hP 11 0 rfl rfl c13 dX3_carryOutMade_59 ?_
      obtain ⟨u14, h15, hE⟩ := bd_some hE
      refine cn_i (As := [.int (d.2.2.2.1 x1.toNatClampNeg)]) (rest := [.ref (g 4)]) (r := u14) (w0 := (wM g cA t s y d q k r c o m)) (N := 28) ⟨hx, hb, hml, hown, hts⟩ (c_X5_at l D cA (g 6) (g 7) H.size (d.2.2.2.1 x1.toNatClampNeg) y u14 h15) (cwV 1 hts hX3_carryOutMade_X5_at_181 rfl rfl rfl (by decide +kernel) ⟨Nat.le_of_ble_eq_true rfl, Nat.le_of_ble_eq_true rfl⟩) rfl hl.1 rfl (Nat.le_of_ble_eq_true rfl) dX3_carryOutMade_60 ⟨Nat.zero_le _, Nat.zero_le _⟩ hK hP hD hS hA (va_recv hK hP (ci := 4) (q0 := 6) rfl rfl) [6, 7] [0, 1, 2, 3, 4, 5, 8, 9, 10, 11, 12, 13, 14, 15, 16, 17, 18, 19, 20, 21, 22, 23, 24, 25, 26, 27] (wM g cA t s y d q k r c o m) rfl (by decide +kernel) rfl (wr := List.filterMap (fun i => (wM g cA t s y d q k r c o m)[i]?) [0, 1, 2, 3, 4, 5, 8, 9, 10, 11, 12, 13, 14, 15, 16, 17, 18, 19, 20, 21, 22, 23, 24, 25, 26, 27]) rfl rfl (by decide +kernel) rfl (by decide +kernel) [g 0, g 1, g 2, g 3, g 4, g 5, g 6, g 7, g 8, g 9, g 10, g 11, g 12, g 13, g 14, g 15, g 16, g 17, g 18, g 19, g 20, g 21, g 22, g 23, g 24, g 25, g 26, g 27] rfl rfl (fun _ _ _ _ h => h) (fun _ _ _ => trivial) (fun H locs hP hD hS => ?_)
      have hP : va_P D vwCl (wM g cA t s y d q k r c o m) H := hP
      have hD : va_D A (wM g cA t s y d q k r c o m) := hD
      obtain ⟨u16, h17, hE⟩ := bd_some hE
      refine cn_i (As := [.int u14]) (rest := []) (r := u16.1) (w0 := (wM g cA t s y d q k r c o m)) (N := 28) ⟨hx, hb, hml, hown, hts⟩ (c_X8_put l D cA (g 4) (g 5) H.size u14 (-3) s u16 h17) (cwV 1 hts hX3_carryOutMade_X8_put_120 rfl rfl rfl (by decide +kernel) ⟨Nat.le_of_ble_eq_true rfl, Nat.le_of_ble_eq_true rfl⟩) rfl hl.1 rfl (Nat.le_of_ble_eq_true rfl) dX3_carryOutMade_63 ⟨Nat.zero_le _, Nat.zero_le _⟩ hK hP hD hS hA (va_recv hK hP (ci := 7) (q0 := 4) rfl rfl) [4, 5] [0, 1, 2, 3, 6, 7, 8, 9, 10, 11, 12, 13, 14, 15, 16, 17, 18, 19, 20, 21, 22, 23, 24, 25, 26, 27] (wM g cA t u16.2 y d q k r c o m) rfl (by decide +kernel) rfl (wr := List.filterMap (fun i => (wM g cA t s y d q k r c o m)[i]?) [0, 1, 2, 3, 6, 7, 8, 9, 10, 11, 12, 13, 14, 15, 16, 17, 18, 19, 20, 21, 22, 23, 24, 25, 26, 27]) rfl rfl (by decide +kernel) rfl (by decide +kernel) [g 0, g 1, g 2, g 3, g 4, g 5, g 6, g 7, g 8, g 9, g 10, g 11, g 12, g 13, g 14, g 15, g 16, g 17, g 18, g 19, g 20, g 21, g 22, g 23, g 24, g 25, g 26, g 27] rfl rfl (fun _ _ _ _ h => h) (fun _ _ _ => trivial) (fun H locs hP hD hS => ?_)
      have hP : va_P D vwCl (wM g cA t u16.2 y d q k r c o m) H := hP
      have hD : va_D A (wM g cA t u16.2 y d q k r c o m) := hD
      obtain rfl := Option.some.inj hE
      exact rt_i hx hb hr hP hS rfl hlocks dX3_carryOutMade_66
  · have hE := if_t c2 hE
    refine lv_aload_n hx hb dX3_carryOutMade_13 rfl (lv_at hl 0 rfl) ?_
    refine va_get (D := D) (ci := 2) (v := .ref (g 21)) (C := RX3) (T := TX3) (N := 14) hx hb hts inX3 hown hK hP 0 rfl rfl 5 (by decide) k6 (fun _ h9 => h9) rfl dX3_carryOutMade_14 ?_
    refine lv_aload_n hx hb dX3_carryOutMade_17 rfl (lv_at hl 0 rfl) ?_
    refine va_get (D := D) (ci := 2) (v := .ref (g 8)) (C := RX3) (T := TX3) (N := 14) hx hb hts inX3 hown hK hP 0 rfl rfl 4 (by decide) k0 (fun _ h9 => h9) rfl dX3_carryOutMade_18 ?_
    refine va_getN (D := D) (ci := 1) (v := .ref (g 11)) (C := RX2) (T := TX2) (N := 8) hx hb hts inX2 hown hK hP 8 rfl rfl 2 (by decide) (k8 _) (fun _ h9 => h9) rfl dX3_carryOutMade_21 ?_
    refine lv_iload_n hx hb dX3_carryOutMade_24 rfl (lv_at hl 1 rfl) ?_
    have ⟨c18, hE⟩ := ck_some hE
    refine va_iald hx hb hK hP 11 0 rfl rfl c18 dX3_carryOutMade_25 ?_
    obtain ⟨u19, h20, hE⟩ := bd_some hE
    refine cn_i (As := [.int (d.2.2.2.1 x1.toNatClampNeg)]) (rest := []) (r := u19.1) (w0 := (wM g cA t s y d q k r c o m)) (N := 28) ⟨hx, hb, hml, hown, hts⟩ (c_X1_add l D cA (g 21) (g 22) (g 23) (g 24) (g 25) H.size (d.2.2.2.1 x1.toNatClampNeg) c u19 h20) (cwV 1 hts hX3_carryOutMade_X1_add_258 rfl rfl rfl (by decide +kernel) ⟨Nat.le_of_ble_eq_true rfl, Nat.le_of_ble_eq_true rfl⟩) rfl hl.1 rfl (Nat.le_of_ble_eq_true rfl) dX3_carryOutMade_26 ⟨Nat.zero_le _, Nat.zero_le _⟩ hK hP hD hS hA (va_recv hK hP (ci := 0) (q0 := 21) rfl rfl) [21, 22, 23, 24, 25] [0, 1, 2, 3, 4, 5, 6, 7, 8, 9, 10, 11, 12, 13, 14, 15, 16, 17, 18, 19, 20, 26, 27] (wM g cA t s y d q k r u19.2 o m) rfl (by decide +kernel) rfl (wr := List.filterMap (fun i => (wM g cA t s y d q k r c o m)[i]?) [0, 1, 2, 3, 4, 5, 6, 7, 8, 9, 10, 11, 12, 13, 14, 15, 16, 17, 18, 19, 20, 26, 27]) rfl rfl (by decide +kernel) rfl (by decide +kernel) [g 0, g 1, g 2, g 3, g 4, g 5, g 6, g 7, g 8, g 9, g 10, g 11, g 12, g 13, g 14, g 15, g 16, g 17, g 18, g 19, g 20, g 21, g 22, g 23, g 24, g 25, g 26, g 27] rfl rfl (fun _ _ _ _ h => h) (fun _ _ _ => trivial) (fun H locs hP hD hS => ?_)
    have hP : va_P D vwCl (wM g cA t s y d q k r u19.2 o m) H := hP
    have hD : va_D A (wM g cA t s y d q k r u19.2 o m) := hD
    obtain rfl := Option.some.inj hE
    exact rt_i hx hb hr hP hS rfl hlocks dX3_carryOutMade_29
set_option maxRecDepth 20000 in
theorem hX3_askFirst_X1_latestIsCall_107 : GoodIn wsX3_askFirst (wsV RX3 107 RX1 yX1_latestIsCall wsX1_latestIsCall) := goodIn_r _ [5, 6, 7, 8, 9, 10, 11, 35, 36, 37, 38, 39] rfl (by decide +kernel)
set_option maxHeartbeats 4000000 in
set_option maxRecDepth 100000 in
theorem c_X3_askFirst (l : Launch) (D : va_G) (cA : Nat → ClassId) (ad adK adV : Nat → Nat) (tA tS : Nat) (g : Nat → Nat) (sz : Nat) (w1 : Nat) (t : tT) (s : tR) (y : tY) (d : tD) (q : tP) (k : tK) (r : tR) (c : tC) (o : tO) (m : tM) (u : Int32) (hE : f_X3_askFirst w1 s k r c = some u) : Met l yX3_askFirst wsX3_askFirst ({ frames := 1, cells := 0, slots := 0, locals := 20 }) (va_Pc [.ref (g 0), .ref (ad w1)] (PRE D cA (wM g cA t s y d q k r c o m) sz (fun U => SX ad adK adV tA tS (va_A (wM g cA t s y d q k r c o m) sz) U U.heap))) (cQi D (wM g cA t s y d q k r c o m) (va_A (wM g cA t s y d q k r c o m) sz) u) 0 0 (va_A (wM g cA t s y d q k r c o m) sz) := by
  refine Met.ofW (cc := cX3_askFirst) (maxL := 2) (ret := (some .int)) (by decide) rfl ?_
  intro PP EE S0 MM args below meth CC S1 B hml hv
  obtain ⟨rfl, hsz, hP, hK, hD0, hX⟩ := hv
  have hx := B.exec
  have hb := B.bytes
  have hr := B.returns
  have hts := atoms_spec (ws := wsX3_askFirst) B.pre
  have hown : S0.vm.findClass RX3 = some MM.cls := findClass_of_methodNamed B.named
  have hlocks := B.notSynchronized
  subst hsz
  have hD := hD0.self (sz := S0.heap.size)
  have hX : SX ad adK adV tA tS (va_A (wM g cA t s y d q k r c o m) S0.heap.size) S0 S0.heap := hX
  generalize hAe : va_A (wM g cA t s y d q k r c o m) S0.heap.size = A at hD hX ⊢
  have hA : ∀ q : Nat, S0.heap.size ≤ q → A q := fun q h => by rw [← hAe]; exact Or.inr h
  have hS : va_S A S0.heap S0.heap [] := va_S.rf
  have k0 := hX.nest (.fieldLinkNest RX3 203 "WordForge$Word" "group" "I" "WordForge") (List.mem_of_getElem? (i := 42) rfl)
  have k1 := hts (.fieldLink RX3 47 "WordForge$Machine" "calls" "LWordForge$Calls;") (List.mem_of_getElem? (i := 1) rfl)
  have inX3 : ∀ w ∈ wsX30, w ∈ wsX3_askFirst := fun _ h => List.mem_cons_of_mem _ (List.mem_append_left _ (List.mem_append_left _ (List.mem_append_left _ (List.mem_append_right _ h))))
  have k3 := hX.nest (.fieldLinkNest RX3 270 "WordForge$Word" "forCompilingOnly" "Z" "WordForge") (List.mem_of_getElem? (i := 43) rfl)
  have k4 := hts (.fieldLink RX3 63 "WordForge$Machine" "maker" "LWordForge$Maker;") (List.mem_of_getElem? (i := 2) rfl)
  have k5 := hX.nest (.fieldLinkNest RX3 152 "WordForge$Maker" "compiling" "Z" "WordForge") (List.mem_of_getElem? (i := 27) rfl)
  have inX4 : ∀ w ∈ wsX40, w ∈ wsX3_askFirst := fun _ h => List.mem_cons_of_mem _ (List.mem_append_left _ (List.mem_append_left _ (List.mem_append_right _ h)))
  have k7 := hts (.fieldLink RX3 23 "WordForge$Machine" "stack" "LWordForge$Row;") (List.mem_of_getElem? (i := 3) rfl)
  have k8 := hX.nest (.fieldLinkNest RX3 144 "WordForge$Row" "size" "I" "WordForge") (List.mem_of_getElem? (i := 2) rfl)
  have inX8 : ∀ w ∈ wsX80, w ∈ wsX3_askFirst := fun _ h => List.mem_cons_of_mem _ (List.mem_append_left _ (List.mem_append_right _ h))
  have k10 := hX.nest (.fieldLinkNest RX3 273 "WordForge$Word" "takes" "I" "WordForge") (List.mem_of_getElem? (i := 44) rfl)
  have k11 := hts (.fieldLink RX3 27 "WordForge$Machine" "store" "LWordForge$Row;") (List.mem_of_getElem? (i := 4) rfl)
  have k12 := hX.nest (.fieldLinkNest RX3 276 "WordForge$Word" "wantsInStore" "I" "WordForge") (List.mem_of_getElem? (i := 45) rfl)
  have hl := lv_entry ([.ref (g 0), .ref (ad w1)]) (n := 2) (Nat.le_of_ble_eq_true rfl)
  rw [lg_entry_eq]
  generalize (lg_sl ([.ref (g 0), .ref (ad w1)]) ++ List.replicate (2 - (lg_sl ([.ref (g 0), .ref (ad w1)])).length) Slot.unset).toArray = ls at hl ⊢
  have hl : lv_has ls 2 [(0, .ref (g 0)), (1, .ref (ad w1))] := hl
  unfold f_X3_askFirst at hE
  have ⟨hw1, hE⟩ := ck_some hE
  have w40 : ∀ (s : tR) (k : tK) (r : tR) (c : tC) (H : Heap) (locs : List Loc) (ls : Array Slot), va_P D vwCl (wM g cA t s y d q k r c o m) H → va_D A (wM g cA t s y d q k r c o m) → va_S A S0.heap H locs → lv_has ls 2 [(0, .ref (g 0)), (1, .ref (ad w1))] → b_X3_askFirst_40 w1 s k r c = some u → W PP l EE (headSpec wsX3_askFirst ({ frames := 1, cells := 0, slots := 0, locals := 20 })).room S0 MM (#[.ref (g 0), .ref (ad w1)] : Array Value) below meth CC H locs 0 0 (MQ below (cQi D (wM g cA t s y d q k r c o m) A u) (#[.ref (g 0), .ref (ad w1)] : Array Value) S0 0 0 A) (F0 MM 40 ls []) := by
    intro s k r c
    intro H locs ls hP hD hS hl hE
    unfold b_X3_askFirst_40 at hE
    refine lv_aload_n hx hb dX3_askFirst_40 rfl (lv_at hl 0 rfl) ?_
    refine va_get (D := D) (ci := 2) (v := .ref (g 4)) (C := RX3) (T := TX3) (N := 14) hx hb hts inX3 hown hK hP 0 rfl rfl 1 (by decide) k7 (fun _ h9 => h9) rfl dX3_askFirst_41 ?_
    refine va_getN (D := D) (ci := 7) (v := .int s.1) (C := RX8) (T := TX8) (N := 3) hx hb hts inX8 hown hK hP 4 rfl rfl 2 (by decide) (k8 _) (fun _ h9 => h9) rfl dX3_askFirst_44 ?_
    refine lv_aload_n hx hb dX3_askFirst_47 rfl (lv_at hl 1 rfl) ?_
    refine vk_getfN (v := .int (wV_takes.getD w1 0)) hx hb ((hX.2.2.2.2.2.2.1 w1 hw1).2.2.1 ("WordForge$Word", "takes", "I", wV_takes) (List.mem_of_getElem? (i := 5) rfl)) hS hown (k10 _) (fun _ h9 => h9) dX3_askFirst_48 ?_
    refine lv_icmp_ge (tgt := 57) hx hb dX3_askFirst_51 (by decide) (fun c7 => ?_) (fun c7 => ?_)
    · have hE := if_t c7 hE
      refine lv_aload_n hx hb dX3_askFirst_57 rfl (lv_at hl 0 rfl) ?_
      refine va_get (D := D) (ci := 2) (v := .ref (g 19)) (C := RX3) (T := TX3) (N := 14) hx hb hts inX3 hown hK hP 0 rfl rfl 2 (by decide) k11 (fun _ h9 => h9) rfl dX3_askFirst_58 ?_
      refine va_getN (D := D) (ci := 7) (v := .int r.1) (C := RX8) (T := TX8) (N := 3) hx hb hts inX8 hown hK hP 19 rfl rfl 2 (by decide) (k8 _) (fun _ h9 => h9) rfl dX3_askFirst_61 ?_
      refine lv_aload_n hx hb dX3_askFirst_64 rfl (lv_at hl 1 rfl) ?_
      refine vk_getfN (v := .int (wV_wantsInStore.getD w1 0)) hx hb ((hX.2.2.2.2.2.2.1 w1 hw1).2.2.1 ("WordForge$Word", "wantsInStore", "I", wV_wantsInStore) (List.mem_of_getElem? (i := 6) rfl)) hS hown (k12 _) (fun _ h9 => h9) dX3_askFirst_65 ?_
      refine lv_icmp_ge (tgt := 76) hx hb dX3_askFirst_68 (by decide) (fun c8 => ?_) (fun c8 => ?_)
      · have hE := if_t c8 hE
        refine lv_iconst (v := 0) hx hb dX3_askFirst_76 (by decide +kernel) ?_
        obtain rfl := Option.some.inj hE
        exact rt_i hx hb hr hP hS rfl hlocks dX3_askFirst_77
      · have hE := if_f c8 hE
        refine lv_bipush (v := (-6)) hx hb dX3_askFirst_71 (by decide +kernel) ?_
        refine lv_goto (tgt := 77) hx hb dX3_askFirst_73 (by decide) ?_
        obtain rfl := Option.some.inj hE
        exact rt_i hx hb hr hP hS rfl hlocks dX3_askFirst_77
    · have hE := if_f c7 hE
      refine lv_bipush (v := (-4)) hx hb dX3_askFirst_54 (by decide +kernel) ?_
      obtain rfl := Option.some.inj hE
      exact rt_i hx hb hr hP hS rfl hlocks dX3_askFirst_56
  have w20 : ∀ (s : tR) (k : tK) (r : tR) (c : tC) (H : Heap) (locs : List Loc) (ls : Array Slot), va_P D vwCl (wM g cA t s y d q k r c o m) H → va_D A (wM g cA t s y d q k r c o m) → va_S A S0.heap H locs → lv_has ls 2 [(0, .ref (g 0)), (1, .ref (ad w1))] → b_X3_askFirst_20 w1 s k r c = some u → W PP l EE (headSpec wsX3_askFirst ({ frames := 1, cells := 0, slots := 0, locals := 20 })).room S0 MM (#[.ref (g 0), .ref (ad w1)] : Array Value) below meth CC H locs 0 0 (MQ below (cQi D (wM g cA t s y d q k r c o m) A u) (#[.ref (g 0), .ref (ad w1)] : Array Value) S0 0 0 A) (F0 MM 20 ls []) := by
    intro s k r c
    intro H locs ls hP hD hS hl hE
    unfold b_X3_askFirst_20 at hE
    refine lv_aload_n hx hb dX3_askFirst_20 rfl (lv_at hl 1 rfl) ?_
    refine vk_getfN (v := .int (wV_forCompilingOnly.getD w1 0)) hx hb ((hX.2.2.2.2.2.2.1 w1 hw1).2.2.1 ("WordForge$Word", "forCompilingOnly", "Z", wV_forCompilingOnly) (List.mem_of_getElem? (i := 2) rfl)) hS hown (k3 _) (fun _ h9 => h9) dX3_askFirst_21 ?_
    refine lv_if_eq (tgt := 40) hx hb dX3_askFirst_24 (by decide) (fun c5 => ?_) (fun c5 => ?_)
    · have hE := if_t c5 hE
      exact w40  s k r c H locs ls hP hD hS (lv_sub hl [0, 1] rfl) hE
    · have hE := if_f c5 hE
      refine lv_aload_n hx hb dX3_askFirst_27 rfl (lv_at hl 0 rfl) ?_
      refine va_get (D := D) (ci := 2) (v := .ref (g 1)) (C := RX3) (T := TX3) (N := 14) hx hb hts inX3 hown hK hP 0 rfl rfl 7 (by decide) k4 (fun _ h9 => h9) rfl dX3_askFirst_28 ?_
      refine va_getN (D := D) (ci := 3) (v := .int k) (C := RX4) (T := TX4) (N := 6) hx hb hts inX4 hown hK hP 1 rfl rfl 5 (by decide) (k5 _) (fun _ h9 => h9) rfl dX3_askFirst_31 ?_
      refine lv_if_ne (tgt := 40) hx hb dX3_askFirst_34 (by decide) (fun c6 => ?_) (fun c6 => ?_)
      · have hE := if_f c6 hE
        exact w40  s k r c H locs ls hP hD hS (lv_sub hl [0, 1] rfl) hE
      · have hE := if_t c6 hE
        refine lv_bipush (v := (-14)) hx hb dX3_askFirst_37 (by decide +kernel) ?_
        obtain rfl := Option.some.inj hE
        exact rt_i hx hb hr hP hS rfl hlocks dX3_askFirst_39
  suffices main : ∀ (H : Heap) (locs : List Loc) (ls : Array Slot), va_P D vwCl (wM g cA t s y d q k r c o m) H → va_D A (wM g cA t s y d q k r c o m) → va_S A S0.heap H locs → lv_has ls 2 [(0, .ref (g 0)), (1, .ref (ad w1))] → W PP l EE (headSpec wsX3_askFirst ({ frames := 1, cells := 0, slots := 0, locals := 20 })).room S0 MM (#[.ref (g 0), .ref (ad w1)] : Array Value) below meth CC H locs 0 0 (MQ below (cQi D (wM g cA t s y d q k r c o m) A u) (#[.ref (g 0), .ref (ad w1)] : Array Value) S0 0 0 A) (F0 MM 0 ls []) from main _ _ _ hP hD hS hl
  intro H locs ls hP hD hS hl
  refine lv_aload_n hx hb dX3_askFirst_0 rfl (lv_at hl 1 rfl) ?_
  refine vk_getfN (v := .int (wV_group.getD w1 0)) hx hb ((hX.2.2.2.2.2.2.1 w1 hw1).2.2.1 ("WordForge$Word", "group", "I", wV_group) (List.mem_of_getElem? (i := 3) rfl)) hS hown (k0 _) (fun _ h9 => h9) dX3_askFirst_1 ?_
  refine lv_if_ne (tgt := 20) hx hb dX3_askFirst_4 (by decide) (fun c1 => ?_) (fun c1 => ?_)
  · have hE := if_f c1 hE
    exact w20  s k r c H locs ls hP hD hS (lv_sub hl [0, 1] rfl) hE
  · have hE := if_t c1 hE
    refine lv_aload_n hx hb dX3_askFirst_7 rfl (lv_at hl 0 rfl) ?_
    refine va_get (D := D) (ci := 2) (v := .ref (g 21)) (C := RX3) (T := TX3) (N := 14) hx hb hts inX3 hown hK hP 0 rfl rfl 5 (by decide) k1 (fun _ h9 => h9) rfl dX3_askFirst_8 ?_
    obtain ⟨u2, h3, hE⟩ := bd_some hE
    refine cn_i (As := []) (rest := []) (r := u2) (w0 := (wM g cA t s y d q k r c o m)) (N := 28) ⟨hx, hb, hml, hown, hts⟩ (c_X1_latestIsCall l D cA (g 21) (g 22) (g 23) (g 24) (g 25) H.size c u2 h3) (cwV 0 hts hX3_askFirst_X1_latestIsCall_107 rfl rfl rfl (by decide +kernel) ⟨Nat.le_of_ble_eq_true rfl, Nat.le_of_ble_eq_true rfl⟩) rfl hl.1 rfl (Nat.le_of_ble_eq_true rfl) dX3_askFirst_11 ⟨Nat.zero_le _, Nat.zero_le _⟩ hK hP hD hS hA (va_recv hK hP (ci := 0) (q0 := 21) rfl rfl) [21, 22, 23, 24, 25] [0, 1, 2, 3, 4, 5, 6, 7, 8, 9, 10, 11, 12, 13, 14, 15, 16, 17, 18, 19, 20, 26, 27] (wM g cA t s y d q k r c o m) rfl (by decide +kernel) rfl (wr := List.filterMap (fun i => (wM g cA t s y d q k r c o m)[i]?) [0, 1, 2, 3, 4, 5, 6, 7, 8, 9, 10, 11, 12, 13, 14, 15, 16, 17, 18, 19, 20, 26, 27]) rfl rfl (by decide +kernel) rfl (by decide +kernel) [g 0, g 1, g 2, g 3, g 4, g 5, g 6, g 7, g 8, g 9, g 10, g 11, g 12, g 13, g 14, g 15, g 16, g 17, g 18, g 19, g 20, g 21, g 22, g 23, g 24, g 25, g 26, g 27] rfl rfl (fun _ _ _ _ h => h) (fun _ _ _ => trivial) (fun H locs hP hD hS => ?_)
    have hP : va_P D vwCl (wM g cA t s y d q k r c o m) H := hP
    have hD : va_D A (wM g cA t s y d q k r c o m) := hD
    refine lv_if_ne (tgt := 20) hx hb dX3_askFirst_14 (by decide) (fun c4 => ?_) (fun c4 => ?_)
    · have hE := if_f c4 hE
      exact w20  s k r c H locs ls hP hD hS (lv_sub hl [0, 1] rfl) hE
    · have hE := if_t c4 hE
      refine lv_bipush (v := (-14)) hx hb dX3_askFirst_17 (by decide +kernel) ?_
      obtain rfl := Option.some.inj hE
      exact rt_i hx hb hr hP hS rfl hlocks dX3_askFirst_19
set_option maxRecDepth 20000 in
theorem hX3_enterLoop_X8_hasRoom_261 : GoodIn wsX3_enterLoop (wsV RX3 261 RX8 yX8_hasRoom wsX8_hasRoom) := goodIn_r _ [3, 4, 5, 6, 7, 8, 37, 38, 39] rfl (by decide +kernel)
set_option maxRecDepth 20000 in
theorem hX3_enterLoop_X8_fromTop_212 : GoodIn wsX3_enterLoop (wsV RX3 212 RX8 yX8_fromTop wsX8_fromTop) := goodIn_r _ [9, 10, 11, 6, 12, 8, 13, 37, 38, 39] rfl (by decide +kernel)
set_option maxRecDepth 20000 in
theorem hX3_enterLoop_X8_put_120 : GoodIn wsX3_enterLoop (wsV RX3 120 RX8 yX8_put wsX8_put) := goodIn_r _ [14, 15, 16, 6, 17, 8, 18, 13, 37, 38, 39] rfl (by decide +kernel)
set_option maxRecDepth 20000 in
theorem hX3_enterLoop_X8_drop_296 : GoodIn wsX3_enterLoop (wsV RX3 296 RX8 yX8_drop wsX8_drop) := goodIn_r _ [19, 20, 21, 6, 22, 8, 37, 38, 39] rfl (by decide +kernel)
set_option maxHeartbeats 4000000 in
set_option maxRecDepth 100000 in
theorem c_X3_enterLoop (l : Launch) (D : va_G) (cA : Nat → ClassId) (ad adK adV : Nat → Nat) (tA tS : Nat) (g : Nat → Nat) (sz : Nat) (t : tT) (s : tR) (y : tY) (d : tD) (q : tP) (k : tK) (r : tR) (c : tC) (o : tO) (m : tM) (u : Int32 × tR × tR) (hE : f_X3_enterLoop s r = some u) : Met l yX3_enterLoop wsX3_enterLoop ({ frames := 1, cells := 0, slots := 0, locals := 21 }) (va_Pc [.ref (g 0)] (PRE D cA (wM g cA t s y d q k r c o m) sz (fun U => SX ad adK adV tA tS (va_A (wM g cA t s y d q k r c o m) sz) U U.heap))) (cQi D (wM g cA t u.2.1 y d q k u.2.2 c o m) (va_A (wM g cA t s y d q k r c o m) sz) u.1) 0 0 (va_A (wM g cA t s y d q k r c o m) sz) := by
  refine Met.ofW (cc := cX3_enterLoop) (maxL := 1) (ret := (some .int)) (by decide) rfl ?_
  intro PP EE S0 MM args below meth CC S1 B hml hv
  obtain ⟨rfl, hsz, hP, hK, hD0, hX⟩ := hv
  have hx := B.exec
  have hb := B.bytes
  have hr := B.returns
  have hts := atoms_spec (ws := wsX3_enterLoop) B.pre
  have hown : S0.vm.findClass RX3 = some MM.cls := findClass_of_methodNamed B.named
  have hlocks := B.notSynchronized
  subst hsz
  have hD := hD0.self (sz := S0.heap.size)
  have hX : SX ad adK adV tA tS (va_A (wM g cA t s y d q k r c o m) S0.heap.size) S0 S0.heap := hX
  generalize hAe : va_A (wM g cA t s y d q k r c o m) S0.heap.size = A at hD hX ⊢
  have hA : ∀ q : Nat, S0.heap.size ≤ q → A q := fun q h => by rw [← hAe]; exact Or.inr h
  have hS : va_S A S0.heap S0.heap [] := va_S.rf
  have k0 := hts (.fieldLink RX3 27 "WordForge$Machine" "store" "LWordForge$Row;") (List.mem_of_getElem? (i := 1) rfl)
  have inX3 : ∀ w ∈ wsX30, w ∈ wsX3_enterLoop := fun _ h => List.mem_cons_of_mem _ (List.mem_append_left _ (List.mem_append_right _ h))
  have k2 := hts (.fieldLink RX3 23 "WordForge$Machine" "stack" "LWordForge$Row;") (List.mem_of_getElem? (i := 2) rfl)
  have hl := lv_entry ([.ref (g 0)]) (n := 1) (Nat.le_of_ble_eq_true rfl)
  rw [lg_entry_eq]
  generalize (lg_sl ([.ref (g 0)]) ++ List.replicate (1 - (lg_sl ([.ref (g 0)])).length) Slot.unset).toArray = ls at hl ⊢
  have hl : lv_has ls 1 [(0, .ref (g 0))] := hl
  unfold f_X3_enterLoop at hE
  suffices main : ∀ (H : Heap) (locs : List Loc) (ls : Array Slot), va_P D vwCl (wM g cA t s y d q k r c o m) H → va_D A (wM g cA t s y d q k r c o m) → va_S A S0.heap H locs → lv_has ls 1 [(0, .ref (g 0))] → W PP l EE (headSpec wsX3_enterLoop ({ frames := 1, cells := 0, slots := 0, locals := 21 })).room S0 MM (#[.ref (g 0)] : Array Value) below meth CC H locs 0 0 (MQ below (cQi D (wM g cA t u.2.1 y d q k u.2.2 c o m) A u.1) (#[.ref (g 0)] : Array Value) S0 0 0 A) (F0 MM 0 ls []) from main _ _ _ hP hD hS hl
  intro H locs ls hP hD hS hl
  refine lv_aload_n hx hb dX3_enterLoop_0 rfl (lv_at hl 0 rfl) ?_
  refine va_get (D := D) (ci := 2) (v := .ref (g 19)) (C := RX3) (T := TX3) (N := 14) hx hb hts inX3 hown hK hP 0 rfl rfl 2 (by decide) k0 (fun _ h9 => h9) rfl dX3_enterLoop_1 ?_
  refine lv_iconst (v := 2) hx hb dX3_enterLoop_4 (by decide +kernel) ?_
  obtain ⟨u1, h2, hE⟩ := bd_some hE
  refine cn_i (As := [.int 2]) (rest := []) (r := u1) (w0 := (wM g cA t s y d q k r c o m)) (N := 28) ⟨hx, hb, hml, hown, hts⟩ (c_X8_hasRoom l D cA (g 19) (g 20) H.size 2 (-5) r u1 h2) (cwV 1 hts hX3_enterLoop_X8_hasRoom_261 rfl rfl rfl (by decide +kernel) ⟨Nat.le_of_ble_eq_true rfl, Nat.le_of_ble_eq_true rfl⟩) rfl hl.1 rfl (Nat.le_of_ble_eq_true rfl) dX3_enterLoop_5 ⟨Nat.zero_le _, Nat.zero_le _⟩ hK hP hD hS hA (va_recv hK hP (ci := 7) (q0 := 19) rfl rfl) [19, 20] [0, 1, 2, 3, 4, 5, 6, 7, 8, 9, 10, 11, 12, 13, 14, 15, 16, 17, 18, 21, 22, 23, 24, 25, 26, 27] (wM g cA t s y d q k r c o m) rfl (by decide +kernel) rfl (wr := List.filterMap (fun i => (wM g cA t s y d q k r c o m)[i]?) [0, 1, 2, 3, 4, 5, 6, 7, 8, 9, 10, 11, 12, 13, 14, 15, 16, 17, 18, 21, 22, 23, 24, 25, 26, 27]) rfl rfl (by decide +kernel) rfl (by decide +kernel) [g 0, g 1, g 2, g 3, g 4, g 5, g 6, g 7, g 8, g 9, g 10, g 11, g 12, g 13, g 14, g 15, g 16, g 17, g 18, g 19, g 20, g 21, g 22, g 23, g 24, g 25, g 26, g 27] rfl rfl (fun _ _ _ _ h => h) (fun _ _ _ => trivial) (fun H locs hP hD hS => ?_)
  have hP : va_P D vwCl (wM g cA t s y d q k r c o m) H := hP
  have hD : va_D A (wM g cA t s y d q k r c o m) := hD
  refine lv_if_ne (tgt := 14) hx hb dX3_enterLoop_8 (by decide) (fun c3 => ?_) (fun c3 => ?_)
  · have hE := if_f c3 hE
    refine lv_aload_n hx hb dX3_enterLoop_14 rfl (lv_at hl 0 rfl) ?_
    refine va_get (D := D) (ci := 2) (v := .ref (g 19)) (C := RX3) (T := TX3) (N := 14) hx hb hts inX3 hown hK hP 0 rfl rfl 2 (by decide) k0 (fun _ h9 => h9) rfl dX3_enterLoop_15 ?_
    refine lv_aload_n hx hb dX3_enterLoop_18 rfl (lv_at hl 0 rfl) ?_
    refine va_get (D := D) (ci := 2) (v := .ref (g 4)) (C := RX3) (T := TX3) (N := 14) hx hb hts inX3 hown hK hP 0 rfl rfl 1 (by decide) k2 (fun _ h9 => h9) rfl dX3_enterLoop_19 ?_
    refine lv_iconst (v := 1) hx hb dX3_enterLoop_22 (by decide +kernel) ?_
    obtain ⟨u4, h5, hE⟩ := bd_some hE
    refine cn_i (As := [.int 1]) (rest := [.ref (g 19)]) (r := u4) (w0 := (wM g cA t s y d q k r c o m)) (N := 28) ⟨hx, hb, hml, hown, hts⟩ (c_X8_fromTop l D cA (g 4) (g 5) H.size 1 (-3) s u4 h5) (cwV 1 hts hX3_enterLoop_X8_fromTop_212 rfl rfl rfl (by decide +kernel) ⟨Nat.le_of_ble_eq_true rfl, Nat.le_of_ble_eq_true rfl⟩) rfl hl.1 rfl (Nat.le_of_ble_eq_true rfl) dX3_enterLoop_23 ⟨Nat.zero_le _, Nat.zero_le _⟩ hK hP hD hS hA (va_recv hK hP (ci := 7) (q0 := 4) rfl rfl) [4, 5] [0, 1, 2, 3, 6, 7, 8, 9, 10, 11, 12, 13, 14, 15, 16, 17, 18, 19, 20, 21, 22, 23, 24, 25, 26, 27] (wM g cA t s y d q k r c o m) rfl (by decide +kernel) rfl (wr := List.filterMap (fun i => (wM g cA t s y d q k r c o m)[i]?) [0, 1, 2, 3, 6, 7, 8, 9, 10, 11, 12, 13, 14, 15, 16, 17, 18, 19, 20, 21, 22, 23, 24, 25, 26, 27]) rfl rfl (by decide +kernel) rfl (by decide +kernel) [g 0, g 1, g 2, g 3, g 4, g 5, g 6, g 7, g 8, g 9, g 10, g 11, g 12, g 13, g 14, g 15, g 16, g 17, g 18, g 19, g 20, g 21, g 22, g 23, g 24, g 25, g 26, g 27] rfl rfl (fun _ _ _ _ h => h) (fun _ _ _ => trivial) (fun H locs hP hD hS => ?_)
    have hP : va_P D vwCl (wM g cA t s y d q k r c o m) H := hP
    have hD : va_D A (wM g cA t s y d q k r c o m) := hD
    obtain ⟨u6, h7, hE⟩ := bd_some hE
    refine cn_i (As := [.int u4]) (rest := []) (r := u6.1) (w0 := (wM g cA t s y d q k r c o m)) (N := 28) ⟨hx, hb, hml, hown, hts⟩ (c_X8_put l D cA (g 19) (g 20) H.size u4 (-5) r u6 h7) (cwV 1 hts hX3_enterLoop_X8_put_120 rfl rfl rfl (by decide +kernel) ⟨Nat.le_of_ble_eq_true rfl, Nat.le_of_ble_eq_true rfl⟩) rfl hl.1 rfl (Nat.le_of_ble_eq_true rfl) dX3_enterLoop_26 ⟨Nat.zero_le _, Nat.zero_le _⟩ hK hP hD hS hA (va_recv hK hP (ci := 7) (q0 := 19) rfl rfl) [19, 20] [0, 1, 2, 3, 4, 5, 6, 7, 8, 9, 10, 11, 12, 13, 14, 15, 16, 17, 18, 21, 22, 23, 24, 25, 26, 27] (wM g cA t s y d q k u6.2 c o m) rfl (by decide +kernel) rfl (wr := List.filterMap (fun i => (wM g cA t s y d q k r c o m)[i]?) [0, 1, 2, 3, 4, 5, 6, 7, 8, 9, 10, 11, 12, 13, 14, 15, 16, 17, 18, 21, 22, 23, 24, 25, 26, 27]) rfl rfl (by decide +kernel) rfl (by decide +kernel) [g 0, g 1, g 2, g 3, g 4, g 5, g 6, g 7, g 8, g 9, g 10, g 11, g 12, g 13, g 14, g 15, g 16, g 17, g 18, g 19, g 20, g 21, g 22, g 23, g 24, g 25, g 26, g 27] rfl rfl (fun _ _ _ _ h => h) (fun _ _ _ => trivial) (fun H locs hP hD hS => ?_)
    have hP : va_P D vwCl (wM g cA t s y d q k u6.2 c o m) H := hP
    have hD : va_D A (wM g cA t s y d q k u6.2 c o m) := hD
    refine lv_pop hx hb dX3_enterLoop_29 rfl ?_
    refine lv_aload_n hx hb dX3_enterLoop_30 rfl (lv_at hl 0 rfl) ?_
    refine va_get (D := D) (ci := 2) (v := .ref (g 19)) (C := RX3) (T := TX3) (N := 14) hx hb hts inX3 hown hK hP 0 rfl rfl 2 (by decide) k0 (fun _ h9 => h9) rfl dX3_enterLoop_31 ?_
    refine lv_aload_n hx hb dX3_enterLoop_34 rfl (lv_at hl 0 rfl) ?_
    refine va_get (D := D) (ci := 2) (v := .ref (g 4)) (C := RX3) (T := TX3) (N := 14) hx hb hts inX3 hown hK hP 0 rfl rfl 1 (by decide) k2 (fun _ h9 => h9) rfl dX3_enterLoop_35 ?_
    refine lv_iconst (v := 0) hx hb dX3_enterLoop_38 (by decide +kernel) ?_
    obtain ⟨u8, h9, hE⟩ := bd_some hE
    refine cn_i (As := [.int 0]) (rest := [.ref (g 19)]) (r := u8) (w0 := (wM g cA t s y d q k u6.2 c o m)) (N := 28) ⟨hx, hb, hml, hown, hts⟩ (c_X8_fromTop l D cA (g 4) (g 5) H.size 0 (-3) s u8 h9) (cwV 1 hts hX3_enterLoop_X8_fromTop_212 rfl rfl rfl (by decide +kernel) ⟨Nat.le_of_ble_eq_true rfl, Nat.le_of_ble_eq_true rfl⟩) rfl hl.1 rfl (Nat.le_of_ble_eq_true rfl) dX3_enterLoop_39 ⟨Nat.zero_le _, Nat.zero_le _⟩ hK hP hD hS hA (va_recv hK hP (ci := 7) (q0 := 4) rfl rfl) [4, 5] [0, 1, 2, 3, 6, 7, 8, 9, 10, 11, 12, 13, 14, 15, 16, 17, 18, 19, 20, 21, 22, 23, 24, 25, 26, 27] (wM g cA t s y d q k u6.2 c o m) rfl (by decide +kernel) rfl (wr := List.filterMap (fun i => (wM g cA t s y d q k u6.2 c o m)[i]?) [0, 1, 2, 3, 6, 7, 8, 9, 10, 11, 12, 13, 14, 15, 16, 17, 18, 19, 20, 21, 22, 23, 24, 25, 26, 27]) rfl rfl (by decide +kernel) rfl (by decide +kernel) [g 0, g 1, g 2, g 3, g 4, g 5, g 6, g 7, g 8, g 9, g 10, g 11, g 12, g 13, g 14, g 15, g 16, g 17, g 18, g 19, g 20, g 21, g 22, g 23, g 24, g 25, g 26, g 27] rfl rfl (fun _ _ _ _ h => h) (fun _ _ _ => trivial) (fun H locs hP hD hS => ?_)
    have hP : va_P D vwCl (wM g cA t s y d q k u6.2 c o m) H := hP
    have hD : va_D A (wM g cA t s y d q k u6.2 c o m) := hD
    obtain ⟨u10, h11, hE⟩ := bd_some hE
    refine cn_i (As := [.int u8]) (rest := []) (r := u10.1) (w0 := (wM g cA t s y d q k u6.2 c o m)) (N := 28) ⟨hx, hb, hml, hown, hts⟩ (c_X8_put l D cA (g 19) (g 20) H.size u8 (-5) u6.2 u10 h11) (cwV 1 hts hX3_enterLoop_X8_put_120 rfl rfl rfl (by decide +kernel) ⟨Nat.le_of_ble_eq_true rfl, Nat.le_of_ble_eq_true rfl⟩) rfl hl.1 rfl (Nat.le_of_ble_eq_true rfl) dX3_enterLoop_42 ⟨Nat.zero_le _, Nat.zero_le _⟩ hK hP hD hS hA (va_recv hK hP (ci := 7) (q0 := 19) rfl rfl) [19, 20] [0, 1, 2, 3, 4, 5, 6, 7, 8, 9, 10, 11, 12, 13, 14, 15, 16, 17, 18, 21, 22, 23, 24, 25, 26, 27] (wM g cA t s y d q k u10.2 c o m) rfl (by decide +kernel) rfl (wr := List.filterMap (fun i => (wM g cA t s y d q k u6.2 c o m)[i]?) [0, 1, 2, 3, 4, 5, 6, 7, 8, 9, 10, 11, 12, 13, 14, 15, 16, 17, 18, 21, 22, 23, 24, 25, 26, 27]) rfl rfl (by decide +kernel) rfl (by decide +kernel) [g 0, g 1, g 2, g 3, g 4, g 5, g 6, g 7, g 8, g 9, g 10, g 11, g 12, g 13, g 14, g 15, g 16, g 17, g 18, g 19, g 20, g 21, g 22, g 23, g 24, g 25, g 26, g 27] rfl rfl (fun _ _ _ _ h => h) (fun _ _ _ => trivial) (fun H locs hP hD hS => ?_)
    have hP : va_P D vwCl (wM g cA t s y d q k u10.2 c o m) H := hP
    have hD : va_D A (wM g cA t s y d q k u10.2 c o m) := hD
    refine lv_pop hx hb dX3_enterLoop_45 rfl ?_
    refine lv_aload_n hx hb dX3_enterLoop_46 rfl (lv_at hl 0 rfl) ?_
    refine va_get (D := D) (ci := 2) (v := .ref (g 4)) (C := RX3) (T := TX3) (N := 14) hx hb hts inX3 hown hK hP 0 rfl rfl 1 (by decide) k2 (fun _ h9 => h9) rfl dX3_enterLoop_47 ?_
    refine lv_iconst (v := 2) hx hb dX3_enterLoop_50 (by decide +kernel) ?_
    obtain ⟨u12, h13, hE⟩ := bd_some hE
    refine cn_v (As := [.int 2]) (rest := []) (w0 := (wM g cA t s y d q k u10.2 c o m)) (N := 28) ⟨hx, hb, hml, hown, hts⟩ (c_X8_drop l D cA (g 4) (g 5) H.size 2 (-3) s u12 h13) (cwV 1 hts hX3_enterLoop_X8_drop_296 rfl rfl rfl (by decide +kernel) ⟨Nat.le_of_ble_eq_true rfl, Nat.le_of_ble_eq_true rfl⟩) rfl hl.1 rfl (Nat.le_of_ble_eq_true rfl) dX3_enterLoop_51 ⟨Nat.zero_le _, Nat.zero_le _⟩ hK hP hD hS hA (va_recv hK hP (ci := 7) (q0 := 4) rfl rfl) [4, 5] [0, 1, 2, 3, 6, 7, 8, 9, 10, 11, 12, 13, 14, 15, 16, 17, 18, 19, 20, 21, 22, 23, 24, 25, 26, 27] (wM g cA t u12 y d q k u10.2 c o m) rfl (by decide +kernel) rfl (wr := List.filterMap (fun i => (wM g cA t s y d q k u10.2 c o m)[i]?) [0, 1, 2, 3, 6, 7, 8, 9, 10, 11, 12, 13, 14, 15, 16, 17, 18, 19, 20, 21, 22, 23, 24, 25, 26, 27]) rfl rfl (by decide +kernel) rfl (by decide +kernel) [g 0, g 1, g 2, g 3, g 4, g 5, g 6, g 7, g 8, g 9, g 10, g 11, g 12, g 13, g 14, g 15, g 16, g 17, g 18, g 19, g 20, g 21, g 22, g 23, g 24, g 25, g 26, g 27] rfl rfl (fun _ _ _ _ h => h) (fun _ _ _ => trivial) (fun H locs hP hD hS => ?_)
    have hP : va_P D vwCl (wM g cA t u12 y d q k u10.2 c o m) H := hP
    have hD : va_D A (wM g cA t u12 y d q k u10.2 c o m) := hD
    refine lv_iconst (v := 0) hx hb dX3_enterLoop_54 (by decide +kernel) ?_
    obtain rfl := Option.some.inj hE
    exact rt_i hx hb hr hP hS rfl hlocks dX3_enterLoop_55
  · have hE := if_t c3 hE
    refine lv_bipush (v := (-5)) hx hb dX3_enterLoop_11 (by decide +kernel) ?_
    obtain rfl := Option.some.inj hE
    exact rt_i hx hb hr hP hS rfl hlocks dX3_enterLoop_13
set_option maxRecDepth 20000 in
theorem hX3_giveBehaviour_X1_place_175 : GoodIn wsX3_giveBehaviour (wsV RX3 175 RX1 yX1_place wsX1_place) := goodIn_r _ [3, 4, 5, 6, 7, 8, 9, 36, 37, 38, 39, 40] rfl (by decide +kernel)
set_option maxRecDepth 20000 in
theorem hX3_giveBehaviour_X2_giveBehaviourToLatest_299 : GoodIn wsX3_giveBehaviour (wsV RX3 299 RX2 yX2_giveBehaviourToLatest wsX2_giveBehaviourToLatest) := goodIn_r _ [10, 11, 12, 13, 14, 15, 16, 17, 41, 42, 43, 44, 45, 46, 47, 48] rfl (by decide +kernel)
set_option maxRecDepth 20000 in
theorem hX3_giveBehaviour_X1_comeBack_117 : GoodIn wsX3_giveBehaviour (wsV RX3 117 RX1 yX1_comeBack wsX1_comeBack) := goodIn_r _ [18, 19, 20, 6, 21, 8, 36, 37, 38, 39, 40] rfl (by decide +kernel)
set_option maxHeartbeats 4000000 in
set_option maxRecDepth 100000 in
theorem c_X3_giveBehaviour (l : Launch) (D : va_G) (cA : Nat → ClassId) (ad adK adV : Nat → Nat) (tA tS : Nat) (g : Nat → Nat) (sz : Nat) (t : tT) (s : tR) (y : tY) (d : tD) (q : tP) (k : tK) (r : tR) (c : tC) (o : tO) (m : tM) (u : Int32 × tD × tC) (hE : f_X3_giveBehaviour d c = some u) : Met l yX3_giveBehaviour wsX3_giveBehaviour ({ frames := 1, cells := 0, slots := 0, locals := 21 }) (va_Pc [.ref (g 0)] (PRE D cA (wM g cA t s y d q k r c o m) sz (fun U => SX ad adK adV tA tS (va_A (wM g cA t s y d q k r c o m) sz) U U.heap))) (cQi D (wM g cA t s y u.2.1 q k r u.2.2 o m) (va_A (wM g cA t s y d q k r c o m) sz) u.1) 0 0 (va_A (wM g cA t s y d q k r c o m) sz) := by
  refine Met.ofW (cc := cX3_giveBehaviour) (maxL := 2) (ret := (some .int)) (by decide) rfl ?_
  intro PP EE S0 MM args below meth CC S1 B hml hv
  obtain ⟨rfl, hsz, hP, hK, hD0, hX⟩ := hv
  have hx := B.exec
  have hb := B.bytes
  have hr := B.returns
  have hts := atoms_spec (ws := wsX3_giveBehaviour) B.pre
  have hown : S0.vm.findClass RX3 = some MM.cls := findClass_of_methodNamed B.named
  have hlocks := B.notSynchronized
  subst hsz
  have hD := hD0.self (sz := S0.heap.size)
  have hX : SX ad adK adV tA tS (va_A (wM g cA t s y d q k r c o m) S0.heap.size) S0 S0.heap := hX
  generalize hAe : va_A (wM g cA t s y d q k r c o m) S0.heap.size = A at hD hX ⊢
  have hA : ∀ q : Nat, S0.heap.size ≤ q → A q := fun q h => by rw [← hAe]; exact Or.inr h
  have hS : va_S A S0.heap S0.heap [] := va_S.rf
  have k0 := hts (.fieldLink RX3 40 "WordForge$Machine" "dictionary" "LWordForge$Dictionary;") (List.mem_of_getElem? (i := 1) rfl)
  have inX3 : ∀ w ∈ wsX30, w ∈ wsX3_giveBehaviour := fun _ h => List.mem_cons_of_mem _ (List.mem_append_left _ (List.mem_append_left _ (List.mem_append_right _ h)))
  have k2 := hts (.fieldLink RX3 47 "WordForge$Machine" "calls" "LWordForge$Calls;") (List.mem_of_getElem? (i := 2) rfl)
  have hl := lv_entry ([.ref (g 0)]) (n := 2) (Nat.le_of_ble_eq_true rfl)
  rw [lg_entry_eq]
  generalize (lg_sl ([.ref (g 0)]) ++ List.replicate (2 - (lg_sl ([.ref (g 0)])).length) Slot.unset).toArray = ls at hl ⊢
  have hl : lv_has ls 2 [(0, .ref (g 0))] := hl
  unfold f_X3_giveBehaviour at hE
  suffices main : ∀ (H : Heap) (locs : List Loc) (ls : Array Slot), va_P D vwCl (wM g cA t s y d q k r c o m) H → va_D A (wM g cA t s y d q k r c o m) → va_S A S0.heap H locs → lv_has ls 2 [(0, .ref (g 0))] → W PP l EE (headSpec wsX3_giveBehaviour ({ frames := 1, cells := 0, slots := 0, locals := 21 })).room S0 MM (#[.ref (g 0)] : Array Value) below meth CC H locs 0 0 (MQ below (cQi D (wM g cA t s y u.2.1 q k r u.2.2 o m) A u.1) (#[.ref (g 0)] : Array Value) S0 0 0 A) (F0 MM 0 ls []) from main _ _ _ hP hD hS hl
  intro H locs ls hP hD hS hl
  refine lv_aload_n hx hb dX3_giveBehaviour_0 rfl (lv_at hl 0 rfl) ?_
  refine va_get (D := D) (ci := 2) (v := .ref (g 8)) (C := RX3) (T := TX3) (N := 14) hx hb hts inX3 hown hK hP 0 rfl rfl 4 (by decide) k0 (fun _ h9 => h9) rfl dX3_giveBehaviour_1 ?_
  refine lv_aload_n hx hb dX3_giveBehaviour_4 rfl (lv_at hl 0 rfl) ?_
  refine va_get (D := D) (ci := 2) (v := .ref (g 21)) (C := RX3) (T := TX3) (N := 14) hx hb hts inX3 hown hK hP 0 rfl rfl 5 (by decide) k2 (fun _ h9 => h9) rfl dX3_giveBehaviour_5 ?_
  obtain ⟨u1, h2, hE⟩ := bd_some hE
  refine cn_i (As := []) (rest := [.ref (g 8)]) (r := u1) (w0 := (wM g cA t s y d q k r c o m)) (N := 28) ⟨hx, hb, hml, hown, hts⟩ (c_X1_place l D cA (g 21) (g 22) (g 23) (g 24) (g 25) H.size c u1 h2) (cwV 0 hts hX3_giveBehaviour_X1_place_175 rfl rfl rfl (by decide +kernel) ⟨Nat.le_of_ble_eq_true rfl, Nat.le_of_ble_eq_true rfl⟩) rfl hl.1 rfl (Nat.le_of_ble_eq_true rfl) dX3_giveBehaviour_8 ⟨Nat.zero_le _, Nat.zero_le _⟩ hK hP hD hS hA (va_recv hK hP (ci := 0) (q0 := 21) rfl rfl) [21, 22, 23, 24, 25] [0, 1, 2, 3, 4, 5, 6, 7, 8, 9, 10, 11, 12, 13, 14, 15, 16, 17, 18, 19, 20, 26, 27] (wM g cA t s y d q k r c o m) rfl (by decide +kernel) rfl (wr := List.filterMap (fun i => (wM g cA t s y d q k r c o m)[i]?) [0, 1, 2, 3, 4, 5, 6, 7, 8, 9, 10, 11, 12, 13, 14, 15, 16, 17, 18, 19, 20, 26, 27]) rfl rfl (by decide +kernel) rfl (by decide +kernel) [g 0, g 1, g 2, g 3, g 4, g 5, g 6, g 7, g 8, g 9, g 10, g 11, g 12, g 13, g 14, g 15, g 16, g 17, g 18, g 19, g 20, g 21, g 22, g 23, g 24, g 25, g 26, g 27] rfl rfl (fun _ _ _ _ h => h) (fun _ _ _ => trivial) (fun H locs hP hD hS => ?_)
  have hP : va_P D vwCl (wM g cA t s y d q k r c o m) H := hP
  have hD : va_D A (wM g cA t s y d q k r c o m) := hD
  obtain ⟨u3, h4, hE⟩ := bd_some hE
  refine cn_i (As := [.int u1]) (rest := []) (r := u3.1) (w0 := (wM g cA t s y d q k r c o m)) (N := 28) ⟨hx, hb, hml, hown, hts⟩ (c_X2_giveBehaviourToLatest l D cA ad adK adV tA tS (g 8) (g 9) (g 10) (g 11) (g 12) (g 13) (g 14) (g 15) H.size u1 d u3 h4) (cwV 1 hts hX3_giveBehaviour_X2_giveBehaviourToLatest_299 rfl rfl rfl (by decide +kernel) ⟨Nat.le_of_ble_eq_true rfl, Nat.le_of_ble_eq_true rfl⟩) rfl hl.1 rfl (Nat.le_of_ble_eq_true rfl) dX3_giveBehaviour_11 ⟨Nat.zero_le _, Nat.zero_le _⟩ hK hP hD hS hA (va_recv hK hP (ci := 1) (q0 := 8) rfl rfl) [8, 9, 10, 11, 12, 13, 14, 15] [0, 1, 2, 3, 4, 5, 6, 7, 16, 17, 18, 19, 20, 21, 22, 23, 24, 25, 26, 27] (wM g cA t s y u3.2 q k r c o m) rfl (by decide +kernel) rfl (wr := List.filterMap (fun i => (wM g cA t s y d q k r c o m)[i]?) [0, 1, 2, 3, 4, 5, 6, 7, 16, 17, 18, 19, 20, 21, 22, 23, 24, 25, 26, 27]) rfl rfl (by decide +kernel) rfl (by decide +kernel) [g 0, g 1, g 2, g 3, g 4, g 5, g 6, g 7, g 8, g 9, g 10, g 11, g 12, g 13, g 14, g 15, g 16, g 17, g 18, g 19, g 20, g 21, g 22, g 23, g 24, g 25, g 26, g 27] rfl rfl (fun a U g mk h => SX.blind a U g mk h) (fun U hU hW => SX.call hX hS (va_free (wc := (wD (g 8) (g 9) (g 10) (g 11) (g 12) (g 13) (g 14) (g 15) cA d)) hD hS hA [8, 9, 10, 11, 12, 13, 14, 15] rfl) U hU hW) (fun H locs hP hD hS => ?_)
  have hP : va_P D vwCl (wM g cA t s y u3.2 q k r c o m) H := hP
  have hD : va_D A (wM g cA t s y u3.2 q k r c o m) := hD
  refine lv_istore_n (lv' := [(1, .int u3.1), (0, .ref (g 0))]) hx hb dX3_giveBehaviour_14 rfl hl (by decide) rfl (fun ls hl => ?_)
  refine lv_iload_n hx hb dX3_giveBehaviour_15 rfl (lv_at hl 0 rfl) ?_
  refine lv_if_ne (tgt := 26) hx hb dX3_giveBehaviour_16 (by decide) (fun c5 => ?_) (fun c5 => ?_)
  · have hE := if_f c5 hE
    refine lv_iload_n hx hb dX3_giveBehaviour_26 rfl (lv_at hl 0 rfl) ?_
    obtain rfl := Option.some.inj hE
    exact rt_i hx hb hr hP hS rfl hlocks dX3_giveBehaviour_27
  · have hE := if_t c5 hE
    refine lv_aload_n hx hb dX3_giveBehaviour_19 rfl (lv_at hl 1 rfl) ?_
    refine va_get (D := D) (ci := 2) (v := .ref (g 21)) (C := RX3) (T := TX3) (N := 14) hx hb hts inX3 hown hK hP 0 rfl rfl 5 (by decide) k2 (fun _ h9 => h9) rfl dX3_giveBehaviour_20 ?_
    obtain ⟨u6, h7, hE⟩ := bd_some hE
    refine cn_v (As := []) (rest := []) (w0 := (wM g cA t s y u3.2 q k r c o m)) (N := 28) ⟨hx, hb, hml, hown, hts⟩ (c_X1_comeBack l D cA (g 21) (g 22) (g 23) (g 24) (g 25) H.size c u6 h7) (cwV 0 hts hX3_giveBehaviour_X1_comeBack_117 rfl rfl rfl (by decide +kernel) ⟨Nat.le_of_ble_eq_true rfl, Nat.le_of_ble_eq_true rfl⟩) rfl hl.1 rfl (Nat.le_of_ble_eq_true rfl) dX3_giveBehaviour_23 ⟨Nat.zero_le _, Nat.zero_le _⟩ hK hP hD hS hA (va_recv hK hP (ci := 0) (q0 := 21) rfl rfl) [21, 22, 23, 24, 25] [0, 1, 2, 3, 4, 5, 6, 7, 8, 9, 10, 11, 12, 13, 14, 15, 16, 17, 18, 19, 20, 26, 27] (wM g cA t s y u3.2 q k r u6 o m) rfl (by decide +kernel) rfl (wr := List.filterMap (fun i => (wM g cA t s y u3.2 q k r c o m)[i]?) [0, 1, 2, 3, 4, 5, 6, 7, 8, 9, 10, 11, 12, 13, 14, 15, 16, 17, 18, 19, 20, 26, 27]) rfl rfl (by decide +kernel) rfl (by decide +kernel) [g 0, g 1, g 2, g 3, g 4, g 5, g 6, g 7, g 8, g 9, g 10, g 11, g 12, g 13, g 14, g 15, g 16, g 17, g 18, g 19, g 20, g 21, g 22, g 23, g 24, g 25, g 26, g 27] rfl rfl (fun _ _ _ _ h => h) (fun _ _ _ => trivial) (fun H locs hP hD hS => ?_)
    have hP : va_P D vwCl (wM g cA t s y u3.2 q k r u6 o m) H := hP
    have hD : va_D A (wM g cA t s y u3.2 q k r u6 o m) := hD
    refine lv_iload_n hx hb dX3_giveBehaviour_26 rfl (lv_at hl 0 rfl) ?_
    obtain rfl := Option.some.inj hE
    exact rt_i hx hb hr hP hS rfl hlocks dX3_giveBehaviour_27
set_option maxRecDepth 20000 in
theorem hX3_putAndPass_X8_put_120 : GoodIn wsX3_putAndPass (wsV RX3 120 RX8 yX8_put wsX8_put) := goodIn_r _ [3, 4, 5, 6, 7, 8, 9, 10, 32, 33, 34] rfl (by decide +kernel)
set_option maxRecDepth 20000 in
theorem hX3_putAndPass_X1_goOnAt_187 : GoodIn wsX3_putAndPass (wsV RX3 187 RX1 yX1_goOnAt wsX1_goOnAt) := goodIn_r _ [11, 12, 13, 14, 15, 16, 17, 35, 36, 37, 38, 39] rfl (by decide +kernel)
set_option maxHeartbeats 4000000 in
set_option maxRecDepth 100000 in
theorem c_X3_putAndPass (l : Launch) (D : va_G) (cA : Nat → ClassId) (ad adK adV : Nat → Nat) (tA tS : Nat) (g : Nat → Nat) (sz : Nat) (x1 : Int32) (x2 : Int32) (t : tT) (s : tR) (y : tY) (d : tD) (q : tP) (k : tK) (r : tR) (c : tC) (o : tO) (m : tM) (u : Int32 × tR × tC) (hE : f_X3_putAndPass x1 x2 s c = some u) : Met l yX3_putAndPass wsX3_putAndPass ({ frames := 1, cells := 0, slots := 0, locals := 21 }) (va_Pc [.ref (g 0), .int x1, .int x2] (PRE D cA (wM g cA t s y d q k r c o m) sz (fun U => SX ad adK adV tA tS (va_A (wM g cA t s y d q k r c o m) sz) U U.heap))) (cQi D (wM g cA t u.2.1 y d q k r u.2.2 o m) (va_A (wM g cA t s y d q k r c o m) sz) u.1) 0 0 (va_A (wM g cA t s y d q k r c o m) sz) := by
  refine Met.ofW (cc := cX3_putAndPass) (maxL := 4) (ret := (some .int)) (by decide) rfl ?_
  intro PP EE S0 MM args below meth CC S1 B hml hv
  obtain ⟨rfl, hsz, hP, hK, hD0, hX⟩ := hv
  have hx := B.exec
  have hb := B.bytes
  have hr := B.returns
  have hts := atoms_spec (ws := wsX3_putAndPass) B.pre
  have hown : S0.vm.findClass RX3 = some MM.cls := findClass_of_methodNamed B.named
  have hlocks := B.notSynchronized
  subst hsz
  have hD := hD0.self (sz := S0.heap.size)
  have hX : SX ad adK adV tA tS (va_A (wM g cA t s y d q k r c o m) S0.heap.size) S0 S0.heap := hX
  generalize hAe : va_A (wM g cA t s y d q k r c o m) S0.heap.size = A at hD hX ⊢
  have hA : ∀ q : Nat, S0.heap.size ≤ q → A q := fun q h => by rw [← hAe]; exact Or.inr h
  have hS : va_S A S0.heap S0.heap [] := va_S.rf
  have k0 := hts (.fieldLink RX3 23 "WordForge$Machine" "stack" "LWordForge$Row;") (List.mem_of_getElem? (i := 1) rfl)
  have inX3 : ∀ w ∈ wsX30, w ∈ wsX3_putAndPass := fun _ h => List.mem_cons_of_mem _ (List.mem_append_left _ (List.mem_append_left _ (List.mem_append_right _ h)))
  have k2 := hts (.fieldLink RX3 47 "WordForge$Machine" "calls" "LWordForge$Calls;") (List.mem_of_getElem? (i := 2) rfl)
  have hl := lv_entry ([.ref (g 0), .int x1, .int x2]) (n := 4) (Nat.le_of_ble_eq_true rfl)
  rw [lg_entry_eq]
  generalize (lg_sl ([.ref (g 0), .int x1, .int x2]) ++ List.replicate (4 - (lg_sl ([.ref (g 0), .int x1, .int x2])).length) Slot.unset).toArray = ls at hl ⊢
  have hl : lv_has ls 4 [(0, .ref (g 0)), (1, .int x1), (2, .int x2)] := hl
  unfold f_X3_putAndPass at hE
  suffices main : ∀ (H : Heap) (locs : List Loc) (ls : Array Slot), va_P D vwCl (wM g cA t s y d q k r c o m) H → va_D A (wM g cA t s y d q k r c o m) → va_S A S0.heap H locs → lv_has ls 4 [(0, .ref (g 0)), (1, .int x1), (2, .int x2)] → W PP l EE (headSpec wsX3_putAndPass ({ frames := 1, cells := 0, slots := 0, locals := 21 })).room S0 MM (#[.ref (g 0), .int x1, .int x2] : Array Value) below meth CC H locs 0 0 (MQ below (cQi D (wM g cA t u.2.1 y d q k r u.2.2 o m) A u.1) (#[.ref (g 0), .int x1, .int x2] : Array Value) S0 0 0 A) (F0 MM 0 ls []) from main _ _ _ hP hD hS hl
  intro H locs ls hP hD hS hl
  refine lv_aload_n hx hb dX3_putAndPass_0 rfl (lv_at hl 0 rfl) ?_
  refine va_get (D := D) (ci := 2) (v := .ref (g 4)) (C := RX3) (T := TX3) (N := 14) hx hb hts inX3 hown hK hP 0 rfl rfl 1 (by decide) k0 (fun _ h9 => h9) rfl dX3_putAndPass_1 ?_
  refine lv_iload_n hx hb dX3_putAndPass_4 rfl (lv_at hl 1 rfl) ?_
  obtain ⟨u1, h2, hE⟩ := bd_some hE
  refine cn_i (As := [.int x1]) (rest := []) (r := u1.1) (w0 := (wM g cA t s y d q k r c o m)) (N := 28) ⟨hx, hb, hml, hown, hts⟩ (c_X8_put l D cA (g 4) (g 5) H.size x1 (-3) s u1 h2) (cwV 1 hts hX3_putAndPass_X8_put_120 rfl rfl rfl (by decide +kernel) ⟨Nat.le_of_ble_eq_true rfl, Nat.le_of_ble_eq_true rfl⟩) rfl hl.1 rfl (Nat.le_of_ble_eq_true rfl) dX3_putAndPass_5 ⟨Nat.zero_le _, Nat.zero_le _⟩ hK hP hD hS hA (va_recv hK hP (ci := 7) (q0 := 4) rfl rfl) [4, 5] [0, 1, 2, 3, 6, 7, 8, 9, 10, 11, 12, 13, 14, 15, 16, 17, 18, 19, 20, 21, 22, 23, 24, 25, 26, 27] (wM g cA t u1.2 y d q k r c o m) rfl (by decide +kernel) rfl (wr := List.filterMap (fun i => (wM g cA t s y d q k r c o m)[i]?) [0, 1, 2, 3, 6, 7, 8, 9, 10, 11, 12, 13, 14, 15, 16, 17, 18, 19, 20, 21, 22, 23, 24, 25, 26, 27]) rfl rfl (by decide +kernel) rfl (by decide +kernel) [g 0, g 1, g 2, g 3, g 4, g 5, g 6, g 7, g 8, g 9, g 10, g 11, g 12, g 13, g 14, g 15, g 16, g 17, g 18, g 19, g 20, g 21, g 22, g 23, g 24, g 25, g 26, g 27] rfl rfl (fun _ _ _ _ h => h) (fun _ _ _ => trivial) (fun H locs hP hD hS => ?_)
  have hP : va_P D vwCl (wM g cA t u1.2 y d q k r c o m) H := hP
  have hD : va_D A (wM g cA t u1.2 y d q k r c o m) := hD
  refine lv_istore_n (lv' := [(3, .int u1.1), (0, .ref (g 0)), (1, .int x1), (2, .int x2)]) hx hb dX3_putAndPass_8 rfl hl (by decide) rfl (fun ls hl => ?_)
  refine lv_iload_n hx hb dX3_putAndPass_9 rfl (lv_at hl 0 rfl) ?_
  refine lv_if_ne (tgt := 23) hx hb dX3_putAndPass_10 (by decide) (fun c3 => ?_) (fun c3 => ?_)
  · have hE := if_f c3 hE
    refine lv_iload_n hx hb dX3_putAndPass_23 rfl (lv_at hl 0 rfl) ?_
    obtain rfl := Option.some.inj hE
    exact rt_i hx hb hr hP hS rfl hlocks dX3_putAndPass_24
  · have hE := if_t c3 hE
    refine lv_aload_n hx hb dX3_putAndPass_13 rfl (lv_at hl 1 rfl) ?_
    refine va_get (D := D) (ci := 2) (v := .ref (g 21)) (C := RX3) (T := TX3) (N := 14) hx hb hts inX3 hown hK hP 0 rfl rfl 5 (by decide) k2 (fun _ h9 => h9) rfl dX3_putAndPass_14 ?_
    refine lv_iload_n hx hb dX3_putAndPass_17 rfl (lv_at hl 3 rfl) ?_
    refine lv_iconst (v := 1) hx hb dX3_putAndPass_18 (by decide +kernel) ?_
    refine lv_iadd hx hb dX3_putAndPass_19 ?_
    obtain ⟨u4, h5, hE⟩ := bd_some hE
    refine cn_v (As := [.int (x2 + 1)]) (rest := []) (w0 := (wM g cA t u1.2 y d q k r c o m)) (N := 28) ⟨hx, hb, hml, hown, hts⟩ (c_X1_goOnAt l D cA (g 21) (g 22) (g 23) (g 24) (g 25) H.size (x2 + 1) c u4 h5) (cwV 1 hts hX3_putAndPass_X1_goOnAt_187 rfl rfl rfl (by decide +kernel) ⟨Nat.le_of_ble_eq_true rfl, Nat.le_of_ble_eq_true rfl⟩) rfl hl.1 rfl (Nat.le_of_ble_eq_true rfl) dX3_putAndPass_20 ⟨Nat.zero_le _, Nat.zero_le _⟩ hK hP hD hS hA (va_recv hK hP (ci := 0) (q0 := 21) rfl rfl) [21, 22, 23, 24, 25] [0, 1, 2, 3, 4, 5, 6, 7, 8, 9, 10, 11, 12, 13, 14, 15, 16, 17, 18, 19, 20, 26, 27] (wM g cA t u1.2 y d q k r u4 o m) rfl (by decide +kernel) rfl (wr := List.filterMap (fun i => (wM g cA t u1.2 y d q k r c o m)[i]?) [0, 1, 2, 3, 4, 5, 6, 7, 8, 9, 10, 11, 12, 13, 14, 15, 16, 17, 18, 19, 20, 26, 27]) rfl rfl (by decide +kernel) rfl (by decide +kernel) [g 0, g 1, g 2, g 3, g 4, g 5, g 6, g 7, g 8, g 9, g 10, g 11, g 12, g 13, g 14, g 15, g 16, g 17, g 18, g 19, g 20, g 21, g 22, g 23, g 24, g 25, g 26, g 27] rfl rfl (fun _ _ _ _ h => h) (fun _ _ _ => trivial) (fun H locs hP hD hS => ?_)
    have hP : va_P D vwCl (wM g cA t u1.2 y d q k r u4 o m) H := hP
    have hD : va_D A (wM g cA t u1.2 y d q k r u4 o m) := hD
    refine lv_iload_n hx hb dX3_putAndPass_23 rfl (lv_at hl 0 rfl) ?_
    obtain rfl := Option.some.inj hE
    exact rt_i hx hb hr hP hS rfl hlocks dX3_putAndPass_24
set_option maxRecDepth 20000 in
theorem hX3_loopEnds_X8_fromTop_212 : GoodIn wsX3_loopEnds (wsV RX3 212 RX8 yX8_fromTop wsX8_fromTop) := goodIn_r _ [2, 3, 4, 5, 6, 7, 8, 31, 32, 33] rfl (by decide +kernel)
set_option maxRecDepth 20000 in
theorem hX3_loopEnds_X8_drop_296 : GoodIn wsX3_loopEnds (wsV RX3 296 RX8 yX8_drop wsX8_drop) := goodIn_r _ [9, 10, 11, 5, 12, 7, 31, 32, 33] rfl (by decide +kernel)
set_option maxRecDepth 20000 in
theorem hX3_loopEnds_X8_replaceTop_219 : GoodIn wsX3_loopEnds (wsV RX3 219 RX8 yX8_replaceTop wsX8_replaceTop) := goodIn_r _ [13, 14, 15, 5, 16, 7, 8, 31, 32, 33] rfl (by decide +kernel)
set_option maxHeartbeats 4000000 in
set_option maxRecDepth 100000 in
theorem c_X3_loopEnds (l : Launch) (D : va_G) (cA : Nat → ClassId) (ad adK adV : Nat → Nat) (tA tS : Nat) (g : Nat → Nat) (sz : Nat) (x1 : Int32) (t : tT) (s : tR) (y : tY) (d : tD) (q : tP) (k : tK) (r : tR) (c : tC) (o : tO) (m : tM) (u : Int32 × tR) (hE : f_X3_loopEnds x1 r = some u) : Met l yX3_loopEnds wsX3_loopEnds ({ frames := 1, cells := 0, slots := 0, locals := 21 }) (va_Pc [.ref (g 0), .int x1] (PRE D cA (wM g cA t s y d q k r c o m) sz (fun U => SX ad adK adV tA tS (va_A (wM g cA t s y d q k r c o m) sz) U U.heap))) (cQi D (wM g cA t s y d q k u.2 c o m) (va_A (wM g cA t s y d q k r c o m) sz) u.1) 0 0 (va_A (wM g cA t s y d q k r c o m) sz) := by
  refine Met.ofW (cc := cX3_loopEnds) (maxL := 4) (ret := (some .boolean)) (by decide) rfl ?_
  intro PP EE S0 MM args below meth CC S1 B hml hv
  obtain ⟨rfl, hsz, hP, hK, hD0, hX⟩ := hv
  have hx := B.exec
  have hb := B.bytes
  have hr := B.returns
  have hts := atoms_spec (ws := wsX3_loopEnds) B.pre
  have hown : S0.vm.findClass RX3 = some MM.cls := findClass_of_methodNamed B.named
  have hlocks := B.notSynchronized
  subst hsz
  have hD := hD0.self (sz := S0.heap.size)
  have hX : SX ad adK adV tA tS (va_A (wM g cA t s y d q k r c o m) S0.heap.size) S0 S0.heap := hX
  generalize hAe : va_A (wM g cA t s y d q k r c o m) S0.heap.size = A at hD hX ⊢
  have hA : ∀ q : Nat, S0.heap.size ≤ q → A q := fun q h => by rw [← hAe]; exact Or.inr h
  have hS : va_S A S0.heap S0.heap [] := va_S.rf
  have k0 := hts (.fieldLink RX3 27 "WordForge$Machine" "store" "LWordForge$Row;") (List.mem_of_getElem? (i := 1) rfl)
  have inX3 : ∀ w ∈ wsX30, w ∈ wsX3_loopEnds := fun _ h => List.mem_cons_of_mem _ (List.mem_append_left _ (List.mem_append_right _ h))
  have hl := lv_entry ([.ref (g 0), .int x1]) (n := 4) (Nat.le_of_ble_eq_true rfl)
  rw [lg_entry_eq]
  generalize (lg_sl ([.ref (g 0), .int x1]) ++ List.replicate (4 - (lg_sl ([.ref (g 0), .int x1])).length) Slot.unset).toArray = ls at hl ⊢
  have hl : lv_has ls 4 [(0, .ref (g 0)), (1, .int x1)] := hl
  have w40 : ∀ (y1 : Int32) (z0 : Int32) (z1 : Int32) (r : tR) (H : Heap) (locs : List Loc) (ls : Array Slot), va_P D vwCl (wM g cA t s y d q k r c o m) H → va_D A (wM g cA t s y d q k r c o m) → va_S A S0.heap H locs → lv_has ls 4 [(0, .ref (g 0)), (1, .int y1)] → b_X3_loopEnds_40  y1 z0 z1 r = some u → W PP l EE (headSpec wsX3_loopEnds ({ frames := 1, cells := 0, slots := 0, locals := 21 })).room S0 MM (#[.ref (g 0), .int x1] : Array Value) below meth CC H locs 0 0 (MQ below (cQi D (wM g cA t s y d q k u.2 c o m) A u.1) (#[.ref (g 0), .int x1] : Array Value) S0 0 0 A) (F0 MM 40 ls [.int z0, .int z1]) := by
    intro y1 z0 z1 r
    intro H locs ls hP hD hS hl hE
    unfold b_X3_loopEnds_40 at hE
    refine lv_icmp_eq (tgt := 53) hx hb dX3_loopEnds_40 (by decide) (fun c7 => ?_) (fun c7 => ?_)
    · have hE := if_t c7 hE
      refine lv_aload_n hx hb dX3_loopEnds_53 rfl (lv_at hl 0 rfl) ?_
      refine va_get (D := D) (ci := 2) (v := .ref (g 19)) (C := RX3) (T := TX3) (N := 14) hx hb hts inX3 hown hK hP 0 rfl rfl 2 (by decide) k0 (fun _ h9 => h9) rfl dX3_loopEnds_54 ?_
      refine lv_aload_n hx hb dX3_loopEnds_57 rfl (lv_at hl 0 rfl) ?_
      refine va_get (D := D) (ci := 2) (v := .ref (g 19)) (C := RX3) (T := TX3) (N := 14) hx hb hts inX3 hown hK hP 0 rfl rfl 2 (by decide) k0 (fun _ h9 => h9) rfl dX3_loopEnds_58 ?_
      refine lv_iconst (v := 0) hx hb dX3_loopEnds_61 (by decide +kernel) ?_
      obtain ⟨u8, h9, hE⟩ := bd_some hE
      refine cn_i (As := [.int 0]) (rest := [.ref (g 19)]) (r := u8) (w0 := (wM g cA t s y d q k r c o m)) (N := 28) ⟨hx, hb, hml, hown, hts⟩ (c_X8_fromTop l D cA (g 19) (g 20) H.size 0 (-5) r u8 h9) (cwV 1 hts hX3_loopEnds_X8_fromTop_212 rfl rfl rfl (by decide +kernel) ⟨Nat.le_of_ble_eq_true rfl, Nat.le_of_ble_eq_true rfl⟩) rfl hl.1 rfl (Nat.le_of_ble_eq_true rfl) dX3_loopEnds_62 ⟨Nat.zero_le _, Nat.zero_le _⟩ hK hP hD hS hA (va_recv hK hP (ci := 7) (q0 := 19) rfl rfl) [19, 20] [0, 1, 2, 3, 4, 5, 6, 7, 8, 9, 10, 11, 12, 13, 14, 15, 16, 17, 18, 21, 22, 23, 24, 25, 26, 27] (wM g cA t s y d q k r c o m) rfl (by decide +kernel) rfl (wr := List.filterMap (fun i => (wM g cA t s y d q k r c o m)[i]?) [0, 1, 2, 3, 4, 5, 6, 7, 8, 9, 10, 11, 12, 13, 14, 15, 16, 17, 18, 21, 22, 23, 24, 25, 26, 27]) rfl rfl (by decide +kernel) rfl (by decide +kernel) [g 0, g 1, g 2, g 3, g 4, g 5, g 6, g 7, g 8, g 9, g 10, g 11, g 12, g 13, g 14, g 15, g 16, g 17, g 18, g 19, g 20, g 21, g 22, g 23, g 24, g 25, g 26, g 27] rfl rfl (fun _ _ _ _ h => h) (fun _ _ _ => trivial) (fun H locs hP hD hS => ?_)
      have hP : va_P D vwCl (wM g cA t s y d q k r c o m) H := hP
      have hD : va_D A (wM g cA t s y d q k r c o m) := hD
      refine lv_iload_n hx hb dX3_loopEnds_65 rfl (lv_at hl 1 rfl) ?_
      refine lv_iadd hx hb dX3_loopEnds_66 ?_
      obtain ⟨u10, h11, hE⟩ := bd_some hE
      refine cn_v (As := [.int (u8 + y1)]) (rest := []) (w0 := (wM g cA t s y d q k r c o m)) (N := 28) ⟨hx, hb, hml, hown, hts⟩ (c_X8_replaceTop l D cA (g 19) (g 20) H.size (u8 + y1) (-5) r u10 h11) (cwV 1 hts hX3_loopEnds_X8_replaceTop_219 rfl rfl rfl (by decide +kernel) ⟨Nat.le_of_ble_eq_true rfl, Nat.le_of_ble_eq_true rfl⟩) rfl hl.1 rfl (Nat.le_of_ble_eq_true rfl) dX3_loopEnds_67 ⟨Nat.zero_le _, Nat.zero_le _⟩ hK hP hD hS hA (va_recv hK hP (ci := 7) (q0 := 19) rfl rfl) [19, 20] [0, 1, 2, 3, 4, 5, 6, 7, 8, 9, 10, 11, 12, 13, 14, 15, 16, 17, 18, 21, 22, 23, 24, 25, 26, 27] (wM g cA t s y d q k u10 c o m) rfl (by decide +kernel) rfl (wr := List.filterMap (fun i => (wM g cA t s y d q k r c o m)[i]?) [0, 1, 2, 3, 4, 5, 6, 7, 8, 9, 10, 11, 12, 13, 14, 15, 16, 17, 18, 21, 22, 23, 24, 25, 26, 27]) rfl rfl (by decide +kernel) rfl (by decide +kernel) [g 0, g 1, g 2, g 3, g 4, g 5, g 6, g 7, g 8, g 9, g 10, g 11, g 12, g 13, g 14, g 15, g 16, g 17, g 18, g 19, g 20, g 21, g 22, g 23, g 24, g 25, g 26, g 27] rfl rfl (fun _ _ _ _ h => h) (fun _ _ _ => trivial) (fun H locs hP hD hS => ?_)
      have hP : va_P D vwCl (wM g cA t s y d q k u10 c o m) H := hP
      have hD : va_D A (wM g cA t s y d q k u10 c o m) := hD
      refine lv_iconst (v := 0) hx hb dX3_loopEnds_70 (by decide +kernel) ?_
      obtain rfl := Option.some.inj hE
      exact rt_n hx hb hr (by decide +kernel) hP hS rfl hlocks dX3_loopEnds_71
    · have hE := if_f c7 hE
      refine lv_aload_n hx hb dX3_loopEnds_43 rfl (lv_at hl 0 rfl) ?_
      refine va_get (D := D) (ci := 2) (v := .ref (g 19)) (C := RX3) (T := TX3) (N := 14) hx hb hts inX3 hown hK hP 0 rfl rfl 2 (by decide) k0 (fun _ h9 => h9) rfl dX3_loopEnds_44 ?_
      refine lv_iconst (v := 2) hx hb dX3_loopEnds_47 (by decide +kernel) ?_
      obtain ⟨u12, h13, hE⟩ := bd_some hE
      refine cn_v (As := [.int 2]) (rest := []) (w0 := (wM g cA t s y d q k r c o m)) (N := 28) ⟨hx, hb, hml, hown, hts⟩ (c_X8_drop l D cA (g 19) (g 20) H.size 2 (-5) r u12 h13) (cwV 1 hts hX3_loopEnds_X8_drop_296 rfl rfl rfl (by decide +kernel) ⟨Nat.le_of_ble_eq_true rfl, Nat.le_of_ble_eq_true rfl⟩) rfl hl.1 rfl (Nat.le_of_ble_eq_true rfl) dX3_loopEnds_48 ⟨Nat.zero_le _, Nat.zero_le _⟩ hK hP hD hS hA (va_recv hK hP (ci := 7) (q0 := 19) rfl rfl) [19, 20] [0, 1, 2, 3, 4, 5, 6, 7, 8, 9, 10, 11, 12, 13, 14, 15, 16, 17, 18, 21, 22, 23, 24, 25, 26, 27] (wM g cA t s y d q k u12 c o m) rfl (by decide +kernel) rfl (wr := List.filterMap (fun i => (wM g cA t s y d q k r c o m)[i]?) [0, 1, 2, 3, 4, 5, 6, 7, 8, 9, 10, 11, 12, 13, 14, 15, 16, 17, 18, 21, 22, 23, 24, 25, 26, 27]) rfl rfl (by decide +kernel) rfl (by decide +kernel) [g 0, g 1, g 2, g 3, g 4, g 5, g 6, g 7, g 8, g 9, g 10, g 11, g 12, g 13, g 14, g 15, g 16, g 17, g 18, g 19, g 20, g 21, g 22, g 23, g 24, g 25, g 26, g 27] rfl rfl (fun _ _ _ _ h => h) (fun _ _ _ => trivial) (fun H locs hP hD hS => ?_)
      have hP : va_P D vwCl (wM g cA t s y d q k u12 c o m) H := hP
      have hD : va_D A (wM g cA t s y d q k u12 c o m) := hD
      refine lv_iconst (v := 1) hx hb dX3_loopEnds_51 (by decide +kernel) ?_
      obtain rfl := Option.some.inj hE
      exact rt_n hx hb hr (by decide +kernel) hP hS rfl hlocks dX3_loopEnds_52
  have w31 : ∀ (y1 : Int32) (y3 : Int32) (z0 : Int32) (r : tR) (H : Heap) (locs : List Loc) (ls : Array Slot), va_P D vwCl (wM g cA t s y d q k r c o m) H → va_D A (wM g cA t s y d q k r c o m) → va_S A S0.heap H locs → lv_has ls 4 [(0, .ref (g 0)), (1, .int y1), (3, .int y3)] → b_X3_loopEnds_31  y1 y3 z0 r = some u → W PP l EE (headSpec wsX3_loopEnds ({ frames := 1, cells := 0, slots := 0, locals := 21 })).room S0 MM (#[.ref (g 0), .int x1] : Array Value) below meth CC H locs 0 0 (MQ below (cQi D (wM g cA t s y d q k u.2 c o m) A u.1) (#[.ref (g 0), .int x1] : Array Value) S0 0 0 A) (F0 MM 31 ls [.int z0]) := by
    intro y1 y3 z0 r
    intro H locs ls hP hD hS hl hE
    unfold b_X3_loopEnds_31 at hE
    refine lv_iload_n hx hb dX3_loopEnds_31 rfl (lv_at hl 2 rfl) ?_
    refine lv_if_ge (tgt := 39) hx hb dX3_loopEnds_32 (by decide) (fun c6 => ?_) (fun c6 => ?_)
    · have hE := if_t c6 hE
      refine lv_iconst (v := 0) hx hb dX3_loopEnds_39 (by decide +kernel) ?_
      exact w40  y1 0 z0 r H locs ls hP hD hS (lv_sub hl [0, 1] rfl) hE
    · have hE := if_f c6 hE
      refine lv_iconst (v := 1) hx hb dX3_loopEnds_35 (by decide +kernel) ?_
      refine lv_goto (tgt := 40) hx hb dX3_loopEnds_36 (by decide) ?_
      exact w40  y1 1 z0 r H locs ls hP hD hS (lv_sub hl [0, 1] rfl) hE
  unfold f_X3_loopEnds at hE
  suffices main : ∀ (H : Heap) (locs : List Loc) (ls : Array Slot), va_P D vwCl (wM g cA t s y d q k r c o m) H → va_D A (wM g cA t s y d q k r c o m) → va_S A S0.heap H locs → lv_has ls 4 [(0, .ref (g 0)), (1, .int x1)] → W PP l EE (headSpec wsX3_loopEnds ({ frames := 1, cells := 0, slots := 0, locals := 21 })).room S0 MM (#[.ref (g 0), .int x1] : Array Value) below meth CC H locs 0 0 (MQ below (cQi D (wM g cA t s y d q k u.2 c o m) A u.1) (#[.ref (g 0), .int x1] : Array Value) S0 0 0 A) (F0 MM 0 ls []) from main _ _ _ hP hD hS hl
  intro H locs ls hP hD hS hl
  refine lv_aload_n hx hb dX3_loopEnds_0 rfl (lv_at hl 0 rfl) ?_
  refine va_get (D := D) (ci := 2) (v := .ref (g 19)) (C := RX3) (T := TX3) (N := 14) hx hb hts inX3 hown hK hP 0 rfl rfl 2 (by decide) k0 (fun _ h9 => h9) rfl dX3_loopEnds_1 ?_
  refine lv_iconst (v := 0) hx hb dX3_loopEnds_4 (by decide +kernel) ?_
  obtain ⟨u1, h2, hE⟩ := bd_some hE
  refine cn_i (As := [.int 0]) (rest := []) (r := u1) (w0 := (wM g cA t s y d q k r c o m)) (N := 28) ⟨hx, hb, hml, hown, hts⟩ (c_X8_fromTop l D cA (g 19) (g 20) H.size 0 (-5) r u1 h2) (cwV 1 hts hX3_loopEnds_X8_fromTop_212 rfl rfl rfl (by decide +kernel) ⟨Nat.le_of_ble_eq_true rfl, Nat.le_of_ble_eq_true rfl⟩) rfl hl.1 rfl (Nat.le_of_ble_eq_true rfl) dX3_loopEnds_5 ⟨Nat.zero_le _, Nat.zero_le _⟩ hK hP hD hS hA (va_recv hK hP (ci := 7) (q0 := 19) rfl rfl) [19, 20] [0, 1, 2, 3, 4, 5, 6, 7, 8, 9, 10, 11, 12, 13, 14, 15, 16, 17, 18, 21, 22, 23, 24, 25, 26, 27] (wM g cA t s y d q k r c o m) rfl (by decide +kernel) rfl (wr := List.filterMap (fun i => (wM g cA t s y d q k r c o m)[i]?) [0, 1, 2, 3, 4, 5, 6, 7, 8, 9, 10, 11, 12, 13, 14, 15, 16, 17, 18, 21, 22, 23, 24, 25, 26, 27]) rfl rfl (by decide +kernel) rfl (by decide +kernel) [g 0, g 1, g 2, g 3, g 4, g 5, g 6, g 7, g 8, g 9, g 10, g 11, g 12, g 13, g 14, g 15, g 16, g 17, g 18, g 19, g 20, g 21, g 22, g 23, g 24, g 25, g 26, g 27] rfl rfl (fun _ _ _ _ h => h) (fun _ _ _ => trivial) (fun H locs hP hD hS => ?_)
  have hP : va_P D vwCl (wM g cA t s y d q k r c o m) H := hP
  have hD : va_D A (wM g cA t s y d q k r c o m) := hD
  refine lv_aload_n hx hb dX3_loopEnds_8 rfl (lv_at hl 0 rfl) ?_
  refine va_get (D := D) (ci := 2) (v := .ref (g 19)) (C := RX3) (T := TX3) (N := 14) hx hb hts inX3 hown hK hP 0 rfl rfl 2 (by decide) k0 (fun _ h9 => h9) rfl dX3_loopEnds_9 ?_
  refine lv_iconst (v := 1) hx hb dX3_loopEnds_12 (by decide +kernel) ?_
  obtain ⟨u3, h4, hE⟩ := bd_some hE
  refine cn_i (As := [.int 1]) (rest := [.int u1]) (r := u3) (w0 := (wM g cA t s y d q k r c o m)) (N := 28) ⟨hx, hb, hml, hown, hts⟩ (c_X8_fromTop l D cA (g 19) (g 20) H.size 1 (-5) r u3 h4) (cwV 1 hts hX3_loopEnds_X8_fromTop_212 rfl rfl rfl (by decide +kernel) ⟨Nat.le_of_ble_eq_true rfl, Nat.le_of_ble_eq_true rfl⟩) rfl hl.1 rfl (Nat.le_of_ble_eq_true rfl) dX3_loopEnds_13 ⟨Nat.zero_le _, Nat.zero_le _⟩ hK hP hD hS hA (va_recv hK hP (ci := 7) (q0 := 19) rfl rfl) [19, 20] [0, 1, 2, 3, 4, 5, 6, 7, 8, 9, 10, 11, 12, 13, 14, 15, 16, 17, 18, 21, 22, 23, 24, 25, 26, 27] (wM g cA t s y d q k r c o m) rfl (by decide +kernel) rfl (wr := List.filterMap (fun i => (wM g cA t s y d q k r c o m)[i]?) [0, 1, 2, 3, 4, 5, 6, 7, 8, 9, 10, 11, 12, 13, 14, 15, 16, 17, 18, 21, 22, 23, 24, 25, 26, 27]) rfl rfl (by decide +kernel) rfl (by decide +kernel) [g 0, g 1, g 2, g 3, g 4, g 5, g 6, g 7, g 8, g 9, g 10, g 11, g 12, g 13, g 14, g 15, g 16, g 17, g 18, g 19, g 20, g 21, g 22, g 23, g 24, g 25, g 26, g 27] rfl rfl (fun _ _ _ _ h => h) (fun _ _ _ => trivial) (fun H locs hP hD hS => ?_)
  have hP : va_P D vwCl (wM g cA t s y d q k r c o m) H := hP
  have hD : va_D A (wM g cA t s y d q k r c o m) := hD
  refine lv_isub hx hb dX3_loopEnds_16 ?_
  refine lv_istore_n (lv' := [(2, .int (u1 - u3)), (0, .ref (g 0)), (1, .int x1)]) hx hb dX3_loopEnds_17 rfl hl (by decide) rfl (fun ls hl => ?_)
  refine lv_iload_n hx hb dX3_loopEnds_18 rfl (lv_at hl 0 rfl) ?_
  refine lv_iload_n hx hb dX3_loopEnds_19 rfl (lv_at hl 2 rfl) ?_
  refine lv_iadd hx hb dX3_loopEnds_20 ?_
  refine lv_istore_n (lv' := [(3, .int ((u1 - u3) + x1)), (2, .int (u1 - u3)), (0, .ref (g 0)), (1, .int x1)]) hx hb dX3_loopEnds_21 rfl hl (by decide) rfl (fun ls hl => ?_)
  refine lv_iload_n hx hb dX3_loopEnds_22 rfl (lv_at hl 1 rfl) ?_
  refine lv_if_ge (tgt := 30) hx hb dX3_loopEnds_23 (by decide) (fun c5 => ?_) (fun c5 => ?_)
  · have hE := if_t c5 hE
    refine lv_iconst (v := 0) hx hb dX3_loopEnds_30 (by decide +kernel) ?_
    exact w31  x1 ((u1 - u3) + x1) 0 r H locs ls hP hD hS (lv_sub hl [2, 3, 0] rfl) hE
  · have hE := if_f c5 hE
    refine lv_iconst (v := 1) hx hb dX3_loopEnds_26 (by decide +kernel) ?_
    refine lv_goto (tgt := 31) hx hb dX3_loopEnds_27 (by decide) ?_
    exact w31  x1 ((u1 - u3) + x1) 1 r H locs ls hP hD hS (lv_sub hl [2, 3, 0] rfl) hE
set_option maxRecDepth 20000 in
theorem hX3_useNumberBehind_X5_isCell_178 : GoodIn wsX3_useNumberBehind (wsV RX3 178 RX5 yX5_isCell wsX5_isCell) := goodIn_r _ [5, 6, 7, 8, 9] rfl (by decide +kernel)
set_option maxRecDepth 20000 in
theorem hX3_useNumberBehind_X5_at_181 : GoodIn wsX3_useNumberBehind (wsV RX3 181 RX5 yX5_at wsX5_at) := goodIn_r _ [10, 11, 12, 8, 13, 14, 15, 6, 7, 8, 9, 80, 81] rfl (by decide +kernel)
set_option maxRecDepth 20000 in
theorem hX3_useNumberBehind_X3_putAndPass_302 : GoodIn wsX3_useNumberBehind (wsV RX3 302 RX3 yX3_putAndPass wsX3_putAndPass) := goodIn_r _ [23, 24, 25, 26, 27, 4, 3, 28, 29, 30, 31, 32, 33, 34, 35, 36, 37, 38, 39, 40, 41, 42, 66, 67, 68, 69, 70, 71, 72, 73, 74, 75, 76, 77, 78, 79, 82, 83, 84, 85, 86, 87, 88, 89] rfl (by decide +kernel)
set_option maxRecDepth 20000 in
theorem hX3_useNumberBehind_X1_goOnAt_187 : GoodIn wsX3_useNumberBehind (wsV RX3 187 RX1 yX1_goOnAt wsX1_goOnAt) := goodIn_r _ [36, 37, 38, 39, 40, 41, 42, 85, 86, 87, 88, 89] rfl (by decide +kernel)
set_option maxRecDepth 20000 in
theorem hX3_useNumberBehind_X8_take_305 : GoodIn wsX3_useNumberBehind (wsV RX3 305 RX8 yX8_take wsX8_take) := goodIn_r _ [43, 44, 45, 31, 46, 47, 48, 49, 31, 50, 33, 35, 51, 52, 53, 54, 82, 83, 84] rfl (by decide +kernel)
set_option maxRecDepth 20000 in
theorem hX3_useNumberBehind_X3_loopEnds_308 : GoodIn wsX3_useNumberBehind (wsV RX3 308 RX3 yX3_loopEnds wsX3_loopEnds) := goodIn_r _ [55, 56, 57, 26, 58, 59, 60, 48, 49, 31, 50, 33, 35, 61, 52, 53, 54, 62, 63, 64, 65, 66, 67, 68, 69, 70, 71, 72, 73, 74, 75, 76, 77, 78, 79, 82, 83, 84] rfl (by decide +kernel)
set_option maxHeartbeats 4000000 in
set_option maxRecDepth 100000 in
theorem c_X3_useNumberBehind (l : Launch) (D : va_G) (cA : Nat → ClassId) (ad adK adV : Nat → Nat) (tA tS : Nat) (g : Nat → Nat) (sz : Nat) (w1 : Nat) (x2 : Int32) (t : tT) (s : tR) (y : tY) (d : tD) (q : tP) (k : tK) (r : tR) (c : tC) (o : tO) (m : tM) (u : Int32 × tR × tR × tC) (hE : f_X3_useNumberBehind w1 x2 s y r c = some u) : Met l yX3_useNumberBehind wsX3_useNumberBehind ({ frames := 2, cells := 0, slots := 0, locals := 44 }) (va_Pc [.ref (g 0), .ref (ad w1), .int x2] (PRE D cA (wM g cA t s y d q k r c o m) sz (fun U => SX ad adK adV tA tS (va_A (wM g cA t s y d q k r c o m) sz) U U.heap))) (cQi D (wM g cA t u.2.1 y d q k u.2.2.1 u.2.2.2 o m) (va_A (wM g cA t s y d q k r c o m) sz) u.1) 0 0 (va_A (wM g cA t s y d q k r c o m) sz) := by
  refine Met.ofW (cc := cX3_useNumberBehind) (maxL := 4) (ret := (some .int)) (by decide) rfl ?_
  intro PP EE S0 MM args below meth CC S1 B hml hv
  obtain ⟨rfl, hsz, hP, hK, hD0, hX⟩ := hv
  have hx := B.exec
  have hb := B.bytes
  have hr := B.returns
  have hts := atoms_spec (ws := wsX3_useNumberBehind) B.pre
  have hown : S0.vm.findClass RX3 = some MM.cls := findClass_of_methodNamed B.named
  have hlocks := B.notSynchronized
  subst hsz
  have hD := hD0.self (sz := S0.heap.size)
  have hX : SX ad adK adV tA tS (va_A (wM g cA t s y d q k r c o m) S0.heap.size) S0 S0.heap := hX
  generalize hAe : va_A (wM g cA t s y d q k r c o m) S0.heap.size = A at hD hX ⊢
  have hA : ∀ q : Nat, S0.heap.size ≤ q → A q := fun q h => by rw [← hAe]; exact Or.inr h
  have hS : va_S A S0.heap S0.heap [] := va_S.rf
  have k0 := hts (.fieldLink RX3 33 "WordForge$Machine" "memory" "LWordForge$Memory;") (List.mem_of_getElem? (i := 1) rfl)
  have inX3 : ∀ w ∈ wsX30, w ∈ wsX3_useNumberBehind := fun _ h => List.mem_cons_of_mem _ (List.mem_append_left _ (List.mem_append_left _ (List.mem_append_left _ (List.mem_append_right _ h))))
  have k2 := hts (.fieldLink RX3 279 "WordForge$1" "$SwitchMap$WordForge$Word" "[I") (List.mem_of_getElem? (i := 2) rfl)
  have k3 := hts (.fieldLink RX3 47 "WordForge$Machine" "calls" "LWordForge$Calls;") (List.mem_of_getElem? (i := 3) rfl)
  have k4 := hts (.fieldLink RX3 23 "WordForge$Machine" "stack" "LWordForge$Row;") (List.mem_of_getElem? (i := 4) rfl)
  have hl := lv_entry ([.ref (g 0), .ref (ad w1), .int x2]) (n := 4) (Nat.le_of_ble_eq_true rfl)
  rw [lg_entry_eq]
  generalize (lg_sl ([.ref (g 0), .ref (ad w1), .int x2]) ++ List.replicate (4 - (lg_sl ([.ref (g 0), .ref (ad w1), .int x2])).length) Slot.unset).toArray = ls at hl ⊢
  have hl : lv_has ls 4 [(0, .ref (g 0)), (1, .ref (ad w1)), (2, .int x2)] := hl
  unfold f_X3_useNumberBehind at hE
  have ⟨hw1, hE⟩ := ck_some hE
  have w98 : ∀ (z0 : Int32) (s : tR) (y : tY) (r : tR) (c : tC) (H : Heap) (locs : List Loc) (ls : Array Slot), va_P D vwCl (wM g cA t s y d q k r c o m) H → va_D A (wM g cA t s y d q k r c o m) → va_S A S0.heap H locs → lv_has ls 4 [] → b_X3_useNumberBehind_98 w1 z0 s y r c = some u → W PP l EE (headSpec wsX3_useNumberBehind ({ frames := 2, cells := 0, slots := 0, locals := 44 })).room S0 MM (#[.ref (g 0), .ref (ad w1), .int x2] : Array Value) below meth CC H locs 0 0 (MQ below (cQi D (wM g cA t u.2.1 y d q k u.2.2.1 u.2.2.2 o m) A u.1) (#[.ref (g 0), .ref (ad w1), .int x2] : Array Value) S0 0 0 A) (F0 MM 98 ls [.int z0, .ref (g 21)]) := by
    intro z0 s y r c
    intro H locs ls hP hD hS hl hE
    unfold b_X3_useNumberBehind_98 at hE
    obtain ⟨u26, h27, hE⟩ := bd_some hE
    refine cn_v (As := [.int z0]) (rest := []) (w0 := (wM g cA t s y d q k r c o m)) (N := 28) ⟨hx, hb, hml, hown, hts⟩ (c_X1_goOnAt l D cA (g 21) (g 22) (g 23) (g 24) (g 25) H.size z0 c u26 h27) (cwV 1 hts hX3_useNumberBehind_X1_goOnAt_187 rfl rfl rfl (by decide +kernel) ⟨Nat.le_of_ble_eq_true rfl, Nat.le_of_ble_eq_true rfl⟩) rfl hl.1 rfl (Nat.le_of_ble_eq_true rfl) dX3_useNumberBehind_98 ⟨Nat.zero_le _, Nat.zero_le _⟩ hK hP hD hS hA (va_recv hK hP (ci := 0) (q0 := 21) rfl rfl) [21, 22, 23, 24, 25] [0, 1, 2, 3, 4, 5, 6, 7, 8, 9, 10, 11, 12, 13, 14, 15, 16, 17, 18, 19, 20, 26, 27] (wM g cA t s y d q k r u26 o m) rfl (by decide +kernel) rfl (wr := List.filterMap (fun i => (wM g cA t s y d q k r c o m)[i]?) [0, 1, 2, 3, 4, 5, 6, 7, 8, 9, 10, 11, 12, 13, 14, 15, 16, 17, 18, 19, 20, 26, 27]) rfl rfl (by decide +kernel) rfl (by decide +kernel) [g 0, g 1, g 2, g 3, g 4, g 5, g 6, g 7, g 8, g 9, g 10, g 11, g 12, g 13, g 14, g 15, g 16, g 17, g 18, g 19, g 20, g 21, g 22, g 23, g 24, g 25, g 26, g 27] rfl rfl (fun _ _ _ _ h => h) (fun _ _ _ => trivial) (fun H locs hP hD hS => ?_)
    have hP : va_P D vwCl (wM g cA t s y d q k r u26 o m) H := hP
    have hD : va_D A (wM g cA t s y d q k r u26 o m) := hD
    refine lv_iconst (v := 0) hx hb dX3_useNumberBehind_101 (by decide +kernel) ?_
    obtain rfl := Option.some.inj hE
    exact rt_i hx hb hr hP hS rfl hlocks dX3_useNumberBehind_102
  have w122 : ∀ (z0 : Int32) (s : tR) (y : tY) (r : tR) (c : tC) (H : Heap) (locs : List Loc) (ls : Array Slot), va_P D vwCl (wM g cA t s y d q k r c o m) H → va_D A (wM g cA t s y d q k r c o m) → va_S A S0.heap H locs → lv_has ls 4 [] → b_X3_useNumberBehind_122 w1 z0 s y r c = some u → W PP l EE (headSpec wsX3_useNumberBehind ({ frames := 2, cells := 0, slots := 0, locals := 44 })).room S0 MM (#[.ref (g 0), .ref (ad w1), .int x2] : Array Value) below meth CC H locs 0 0 (MQ below (cQi D (wM g cA t u.2.1 y d q k u.2.2.1 u.2.2.2 o m) A u.1) (#[.ref (g 0), .ref (ad w1), .int x2] : Array Value) S0 0 0 A) (F0 MM 122 ls [.int z0, .ref (g 21)]) := by
    intro z0 s y r c
    intro H locs ls hP hD hS hl hE
    unfold b_X3_useNumberBehind_122 at hE
    obtain ⟨u28, h29, hE⟩ := bd_some hE
    refine cn_v (As := [.int z0]) (rest := []) (w0 := (wM g cA t s y d q k r c o m)) (N := 28) ⟨hx, hb, hml, hown, hts⟩ (c_X1_goOnAt l D cA (g 21) (g 22) (g 23) (g 24) (g 25) H.size z0 c u28 h29) (cwV 1 hts hX3_useNumberBehind_X1_goOnAt_187 rfl rfl rfl (by decide +kernel) ⟨Nat.le_of_ble_eq_true rfl, Nat.le_of_ble_eq_true rfl⟩) rfl hl.1 rfl (Nat.le_of_ble_eq_true rfl) dX3_useNumberBehind_122 ⟨Nat.zero_le _, Nat.zero_le _⟩ hK hP hD hS hA (va_recv hK hP (ci := 0) (q0 := 21) rfl rfl) [21, 22, 23, 24, 25] [0, 1, 2, 3, 4, 5, 6, 7, 8, 9, 10, 11, 12, 13, 14, 15, 16, 17, 18, 19, 20, 26, 27] (wM g cA t s y d q k r u28 o m) rfl (by decide +kernel) rfl (wr := List.filterMap (fun i => (wM g cA t s y d q k r c o m)[i]?) [0, 1, 2, 3, 4, 5, 6, 7, 8, 9, 10, 11, 12, 13, 14, 15, 16, 17, 18, 19, 20, 26, 27]) rfl rfl (by decide +kernel) rfl (by decide +kernel) [g 0, g 1, g 2, g 3, g 4, g 5, g 6, g 7, g 8, g 9, g 10, g 11, g 12, g 13, g 14, g 15, g 16, g 17, g 18, g 19, g 20, g 21, g 22, g 23, g 24, g 25, g 26, g 27] rfl rfl (fun _ _ _ _ h => h) (fun _ _ _ => trivial) (fun H locs hP hD hS => ?_)
    have hP : va_P D vwCl (wM g cA t s y d q k r u28 o m) H := hP
    have hD : va_D A (wM g cA t s y d q k r u28 o m) := hD
    refine lv_iconst (v := 0) hx hb dX3_useNumberBehind_125 (by decide +kernel) ?_
    obtain rfl := Option.some.inj hE
    exact rt_i hx hb hr hP hS rfl hlocks dX3_useNumberBehind_126
  have w152 : ∀ (z0 : Int32) (s : tR) (y : tY) (r : tR) (c : tC) (H : Heap) (locs : List Loc) (ls : Array Slot), va_P D vwCl (wM g cA t s y d q k r c o m) H → va_D A (wM g cA t s y d q k r c o m) → va_S A S0.heap H locs → lv_has ls 4 [] → b_X3_useNumberBehind_152 w1 z0 s y r c = some u → W PP l EE (headSpec wsX3_useNumberBehind ({ frames := 2, cells := 0, slots := 0, locals := 44 })).room S0 MM (#[.ref (g 0), .ref (ad w1), .int x2] : Array Value) below meth CC H locs 0 0 (MQ below (cQi D (wM g cA t u.2.1 y d q k u.2.2.1 u.2.2.2 o m) A u.1) (#[.ref (g 0), .ref (ad w1), .int x2] : Array Value) S0 0 0 A) (F0 MM 152 ls [.int z0, .ref (g 21)]) := by
    intro z0 s y r c
    intro H locs ls hP hD hS hl hE
    unfold b_X3_useNumberBehind_152 at hE
    obtain ⟨u30, h31, hE⟩ := bd_some hE
    refine cn_v (As := [.int z0]) (rest := []) (w0 := (wM g cA t s y d q k r c o m)) (N := 28) ⟨hx, hb, hml, hown, hts⟩ (c_X1_goOnAt l D cA (g 21) (g 22) (g 23) (g 24) (g 25) H.size z0 c u30 h31) (cwV 1 hts hX3_useNumberBehind_X1_goOnAt_187 rfl rfl rfl (by decide +kernel) ⟨Nat.le_of_ble_eq_true rfl, Nat.le_of_ble_eq_true rfl⟩) rfl hl.1 rfl (Nat.le_of_ble_eq_true rfl) dX3_useNumberBehind_152 ⟨Nat.zero_le _, Nat.zero_le _⟩ hK hP hD hS hA (va_recv hK hP (ci := 0) (q0 := 21) rfl rfl) [21, 22, 23, 24, 25] [0, 1, 2, 3, 4, 5, 6, 7, 8, 9, 10, 11, 12, 13, 14, 15, 16, 17, 18, 19, 20, 26, 27] (wM g cA t s y d q k r u30 o m) rfl (by decide +kernel) rfl (wr := List.filterMap (fun i => (wM g cA t s y d q k r c o m)[i]?) [0, 1, 2, 3, 4, 5, 6, 7, 8, 9, 10, 11, 12, 13, 14, 15, 16, 17, 18, 19, 20, 26, 27]) rfl rfl (by decide +kernel) rfl (by decide +kernel) [g 0, g 1, g 2, g 3, g 4, g 5, g 6, g 7, g 8, g 9, g 10, g 11, g 12, g 13, g 14, g 15, g 16, g 17, g 18, g 19, g 20, g 21, g 22, g 23, g 24, g 25, g 26, g 27] rfl rfl (fun _ _ _ _ h => h) (fun _ _ _ => trivial) (fun H locs hP hD hS => ?_)
    have hP : va_P D vwCl (wM g cA t s y d q k r u30 o m) H := hP
    have hD : va_D A (wM g cA t s y d q k r u30 o m) := hD
    refine lv_iconst (v := 0) hx hb dX3_useNumberBehind_155 (by decide +kernel) ?_
    obtain rfl := Option.some.inj hE
    exact rt_i hx hb hr hP hS rfl hlocks dX3_useNumberBehind_156
  suffices main : ∀ (H : Heap) (locs : List Loc) (ls : Array Slot), va_P D vwCl (wM g cA t s y d q k r c o m) H → va_D A (wM g cA t s y d q k r c o m) → va_S A S0.heap H locs → lv_has ls 4 [(0, .ref (g 0)), (1, .ref (ad w1)), (2, .int x2)] → W PP l EE (headSpec wsX3_useNumberBehind ({ frames := 2, cells := 0, slots := 0, locals := 44 })).room S0 MM (#[.ref (g 0), .ref (ad w1), .int x2] : Array Value) below meth CC H locs 0 0 (MQ below (cQi D (wM g cA t u.2.1 y d q k u.2.2.1 u.2.2.2 o m) A u.1) (#[.ref (g 0), .ref (ad w1), .int x2] : Array Value) S0 0 0 A) (F0 MM 0 ls []) from main _ _ _ hP hD hS hl
  intro H locs ls hP hD hS hl
  refine lv_aload_n hx hb dX3_useNumberBehind_0 rfl (lv_at hl 0 rfl) ?_
  refine va_get (D := D) (ci := 2) (v := .ref (g 6)) (C := RX3) (T := TX3) (N := 14) hx hb hts inX3 hown hK hP 0 rfl rfl 3 (by decide) k0 (fun _ h9 => h9) rfl dX3_useNumberBehind_1 ?_
  refine lv_iload_n hx hb dX3_useNumberBehind_4 rfl (lv_at hl 2 rfl) ?_
  obtain ⟨u1, h2, hE⟩ := bd_some hE
  refine cn_i (As := [.int x2]) (rest := []) (r := u1) (w0 := (wM g cA t s y d q k r c o m)) (N := 28) ⟨hx, hb, hml, hown, hts⟩ (c_X5_isCell l D cA (g 6) (g 7) H.size x2 y u1 h2) (cwV 1 hts hX3_useNumberBehind_X5_isCell_178 rfl rfl rfl (by decide +kernel) ⟨Nat.le_of_ble_eq_true rfl, Nat.le_of_ble_eq_true rfl⟩) rfl hl.1 rfl (Nat.le_of_ble_eq_true rfl) dX3_useNumberBehind_5 ⟨Nat.zero_le _, Nat.zero_le _⟩ hK hP hD hS hA (va_recv hK hP (ci := 4) (q0 := 6) rfl rfl) [6, 7] [0, 1, 2, 3, 4, 5, 8, 9, 10, 11, 12, 13, 14, 15, 16, 17, 18, 19, 20, 21, 22, 23, 24, 25, 26, 27] (wM g cA t s y d q k r c o m) rfl (by decide +kernel) rfl (wr := List.filterMap (fun i => (wM g cA t s y d q k r c o m)[i]?) [0, 1, 2, 3, 4, 5, 8, 9, 10, 11, 12, 13, 14, 15, 16, 17, 18, 19, 20, 21, 22, 23, 24, 25, 26, 27]) rfl rfl (by decide +kernel) rfl (by decide +kernel) [g 0, g 1, g 2, g 3, g 4, g 5, g 6, g 7, g 8, g 9, g 10, g 11, g 12, g 13, g 14, g 15, g 16, g 17, g 18, g 19, g 20, g 21, g 22, g 23, g 24, g 25, g 26, g 27] rfl rfl (fun _ _ _ _ h => h) (fun _ _ _ => trivial) (fun H locs hP hD hS => ?_)
  have hP : va_P D vwCl (wM g cA t s y d q k r c o m) H := hP
  have hD : va_D A (wM g cA t s y d q k r c o m) := hD
  refine lv_if_ne (tgt := 14) hx hb dX3_useNumberBehind_8 (by decide) (fun c3 => ?_) (fun c3 => ?_)
  · have hE := if_f c3 hE
    refine lv_aload_n hx hb dX3_useNumberBehind_14 rfl (lv_at hl 0 rfl) ?_
    refine va_get (D := D) (ci := 2) (v := .ref (g 6)) (C := RX3) (T := TX3) (N := 14) hx hb hts inX3 hown hK hP 0 rfl rfl 3 (by decide) k0 (fun _ h9 => h9) rfl dX3_useNumberBehind_15 ?_
    refine lv_iload_n hx hb dX3_useNumberBehind_18 rfl (lv_at hl 2 rfl) ?_
    obtain ⟨u4, h5, hE⟩ := bd_some hE
    refine cn_i (As := [.int x2]) (rest := []) (r := u4) (w0 := (wM g cA t s y d q k r c o m)) (N := 28) ⟨hx, hb, hml, hown, hts⟩ (c_X5_at l D cA (g 6) (g 7) H.size x2 y u4 h5) (cwV 1 hts hX3_useNumberBehind_X5_at_181 rfl rfl rfl (by decide +kernel) ⟨Nat.le_of_ble_eq_true rfl, Nat.le_of_ble_eq_true rfl⟩) rfl hl.1 rfl (Nat.le_of_ble_eq_true rfl) dX3_useNumberBehind_19 ⟨Nat.zero_le _, Nat.zero_le _⟩ hK hP hD hS hA (va_recv hK hP (ci := 4) (q0 := 6) rfl rfl) [6, 7] [0, 1, 2, 3, 4, 5, 8, 9, 10, 11, 12, 13, 14, 15, 16, 17, 18, 19, 20, 21, 22, 23, 24, 25, 26, 27] (wM g cA t s y d q k r c o m) rfl (by decide +kernel) rfl (wr := List.filterMap (fun i => (wM g cA t s y d q k r c o m)[i]?) [0, 1, 2, 3, 4, 5, 8, 9, 10, 11, 12, 13, 14, 15, 16, 17, 18, 19, 20, 21, 22, 23, 24, 25, 26, 27]) rfl rfl (by decide +kernel) rfl (by decide +kernel) [g 0, g 1, g 2, g 3, g 4, g 5, g 6, g 7, g 8, g 9, g 10, g 11, g 12, g 13, g 14, g 15, g 16, g 17, g 18, g 19, g 20, g 21, g 22, g 23, g 24, g 25, g 26, g 27] rfl rfl (fun _ _ _ _ h => h) (fun _ _ _ => trivial) (fun H locs hP hD hS => ?_)
    have hP : va_P D vwCl (wM g cA t s y d q k r c o m) H := hP
    have hD : va_D A (wM g cA t s y d q k r c o m) := hD
    refine lv_istore_n (lv' := [(3, .int u4), (0, .ref (g 0)), (1, .ref (ad w1)), (2, .int x2)]) hx hb dX3_useNumberBehind_22 rfl hl (by decide) rfl (fun ls hl => ?_)
    refine va_gets hx hb hX.2.2.2.1 hS hown k2 (fun _ h9 => h9) dX3_useNumberBehind_23 ?_
    refine lv_aload_n hx hb dX3_useNumberBehind_26 rfl (lv_at hl 2 rfl) ?_
    refine cu_i (As := []) (rest := [.ref tS]) (r := wV_ordinal.getD w1 0) ⟨hx, hb, hml, hown, hts⟩ (c_ordinal l w1 (ad w1) H.size) (va_cwU 0 hts gX3_useNumberBehind_Jx29ce0_ordinal_8abf5_u284X10 rfl rfl rfl rfl (by decide +kernel) ⟨Nat.le_of_ble_eq_true rfl, Nat.le_of_ble_eq_true rfl⟩) rfl hl.1 rfl (Nat.le_of_ble_eq_true rfl) dX3_useNumberBehind_27 ⟨Nat.zero_le _, Nat.zero_le _⟩ hP hD hS hA (recvO (hX.2.2.2.2.2.2.1 w1 hw1).2.1 hS) PO_blind (PO_call ((hX.2.2.2.2.2.2.1 w1 hw1).2.2.1 ("java/lang/Enum", "ordinal", "I", wV_ordinal) (List.mem_of_getElem? (i := 0) rfl)) hS hA) (fun H locs hP hD hS => ?_)
    have ⟨c6, hE⟩ := ck_some hE
    refine va_ti hx hb hX.2.2.2.2.1 hS c6 rfl dX3_useNumberBehind_30 ?_
    by_cases c7 : (swm ((wV_ordinal.getD w1 0).toNatClampNeg)) = 24
    · have hE := if_t c7 hE
      refine lv_tableIn (tgt := 60) (off := 29) hx hb dX3_useNumberBehind_31 (by rw [c7]; decide +kernel) (by rw [c7]; decide +kernel) (by rw [c7]; decide +kernel) (by decide) ?_
      refine lv_aload_n hx hb dX3_useNumberBehind_60 rfl (lv_at hl 1 rfl) ?_
      refine lv_iload_n hx hb dX3_useNumberBehind_61 rfl (lv_at hl 0 rfl) ?_
      refine lv_iload_n hx hb dX3_useNumberBehind_62 rfl (lv_at hl 3 rfl) ?_
      obtain ⟨u8, h9, hE⟩ := bd_some hE
      refine cw_i (As := [.int u4, .int x2]) (rest := []) (r := u8.1) (wc := (wM g cA t s y d q k r c o m)) ⟨hx, hb, hml, hown, hts⟩ (c_X3_putAndPass l D cA ad adK adV tA tS g H.size u4 x2 t s y d q k r c o m u8 h9) (cwV 2 hts hX3_useNumberBehind_X3_putAndPass_302 rfl rfl rfl (by decide +kernel) ⟨Nat.le_of_ble_eq_true rfl, Nat.le_of_ble_eq_true rfl⟩) rfl hl.1 rfl (Nat.le_of_ble_eq_true rfl) dX3_useNumberBehind_63 ⟨Nat.zero_le _, Nat.zero_le _⟩ hK hP hD hS hA (va_recv hK hP (ci := 2) (q0 := 0) rfl rfl) [g 0, g 1, g 2, g 3, g 4, g 5, g 6, g 7, g 8, g 9, g 10, g 11, g 12, g 13, g 14, g 15, g 16, g 17, g 18, g 19, g 20, g 21, g 22, g 23, g 24, g 25, g 26, g 27] rfl rfl (fun a U g mk h => SX.blind a U g mk h) (fun U hU hW => SX.call hX hS (fun q h => h.elim (fun ⟨k, e, h⟩ => hD.2 k (q, e) h) (fun h => hA q (Nat.le_trans hS.1 h))) U hU hW) (fun H locs hP hD hS => ?_)
      have hP : va_P D vwCl (wM g cA t u8.2.1 y d q k r u8.2.2 o m) H := hP
      have hD : va_D A (wM g cA t u8.2.1 y d q k r u8.2.2 o m) := hD
      obtain rfl := Option.some.inj hE
      exact rt_i hx hb hr hP hS rfl hlocks dX3_useNumberBehind_66
    have hE := if_f c7 hE
    by_cases c10 : (swm ((wV_ordinal.getD w1 0).toNatClampNeg)) = 25
    · have hE := if_t c10 hE
      refine lv_tableIn (tgt := 67) (off := 36) hx hb dX3_useNumberBehind_31 (by rw [c10]; decide +kernel) (by rw [c10]; decide +kernel) (by rw [c10]; decide +kernel) (by decide) ?_
      refine lv_aload_n hx hb dX3_useNumberBehind_67 rfl (lv_at hl 1 rfl) ?_
      refine va_get (D := D) (ci := 2) (v := .ref (g 21)) (C := RX3) (T := TX3) (N := 14) hx hb hts inX3 hown hK hP 0 rfl rfl 5 (by decide) k3 (fun _ h9 => h9) rfl dX3_useNumberBehind_68 ?_
      refine lv_iload_n hx hb dX3_useNumberBehind_71 rfl (lv_at hl 0 rfl) ?_
      obtain ⟨u11, h12, hE⟩ := bd_some hE
      refine cn_v (As := [.int u4]) (rest := []) (w0 := (wM g cA t s y d q k r c o m)) (N := 28) ⟨hx, hb, hml, hown, hts⟩ (c_X1_goOnAt l D cA (g 21) (g 22) (g 23) (g 24) (g 25) H.size u4 c u11 h12) (cwV 1 hts hX3_useNumberBehind_X1_goOnAt_187 rfl rfl rfl (by decide +kernel) ⟨Nat.le_of_ble_eq_true rfl, Nat.le_of_ble_eq_true rfl⟩) rfl hl.1 rfl (Nat.le_of_ble_eq_true rfl) dX3_useNumberBehind_72 ⟨Nat.zero_le _, Nat.zero_le _⟩ hK hP hD hS hA (va_recv hK hP (ci := 0) (q0 := 21) rfl rfl) [21, 22, 23, 24, 25] [0, 1, 2, 3, 4, 5, 6, 7, 8, 9, 10, 11, 12, 13, 14, 15, 16, 17, 18, 19, 20, 26, 27] (wM g cA t s y d q k r u11 o m) rfl (by decide +kernel) rfl (wr := List.filterMap (fun i => (wM g cA t s y d q k r c o m)[i]?) [0, 1, 2, 3, 4, 5, 6, 7, 8, 9, 10, 11, 12, 13, 14, 15, 16, 17, 18, 19, 20, 26, 27]) rfl rfl (by decide +kernel) rfl (by decide +kernel) [g 0, g 1, g 2, g 3, g 4, g 5, g 6, g 7, g 8, g 9, g 10, g 11, g 12, g 13, g 14, g 15, g 16, g 17, g 18, g 19, g 20, g 21, g 22, g 23, g 24, g 25, g 26, g 27] rfl rfl (fun _ _ _ _ h => h) (fun _ _ _ => trivial) (fun H locs hP hD hS => ?_)
      have hP : va_P D vwCl (wM g cA t s y d q k r u11 o m) H := hP
      have hD : va_D A (wM g cA t s y d q k r u11 o m) := hD
      refine lv_iconst (v := 0) hx hb dX3_useNumberBehind_75 (by decide +kernel) ?_
      obtain rfl := Option.some.inj hE
      exact rt_i hx hb hr hP hS rfl hlocks dX3_useNumberBehind_76
    have hE := if_f c10 hE
    by_cases c13 : (swm ((wV_ordinal.getD w1 0).toNatClampNeg)) = 26
    · have hE := if_t c13 hE
      refine lv_tableIn (tgt := 77) (off := 46) hx hb dX3_useNumberBehind_31 (by rw [c13]; decide +kernel) (by rw [c13]; decide +kernel) (by rw [c13]; decide +kernel) (by decide) ?_
      refine lv_aload_n hx hb dX3_useNumberBehind_77 rfl (lv_at hl 1 rfl) ?_
      refine va_get (D := D) (ci := 2) (v := .ref (g 21)) (C := RX3) (T := TX3) (N := 14) hx hb hts inX3 hown hK hP 0 rfl rfl 5 (by decide) k3 (fun _ h9 => h9) rfl dX3_useNumberBehind_78 ?_
      refine lv_aload_n hx hb dX3_useNumberBehind_81 rfl (lv_at hl 1 rfl) ?_
      refine va_get (D := D) (ci := 2) (v := .ref (g 4)) (C := RX3) (T := TX3) (N := 14) hx hb hts inX3 hown hK hP 0 rfl rfl 1 (by decide) k4 (fun _ h9 => h9) rfl dX3_useNumberBehind_82 ?_
      obtain ⟨u14, h15, hE⟩ := bd_some hE
      refine cn_i (As := []) (rest := [.ref (g 21)]) (r := u14.1) (w0 := (wM g cA t s y d q k r c o m)) (N := 28) ⟨hx, hb, hml, hown, hts⟩ (c_X8_take l D cA (g 4) (g 5) H.size (-3) s u14 h15) (cwV 0 hts hX3_useNumberBehind_X8_take_305 rfl rfl rfl (by decide +kernel) ⟨Nat.le_of_ble_eq_true rfl, Nat.le_of_ble_eq_true rfl⟩) rfl hl.1 rfl (Nat.le_of_ble_eq_true rfl) dX3_useNumberBehind_85 ⟨Nat.zero_le _, Nat.zero_le _⟩ hK hP hD hS hA (va_recv hK hP (ci := 7) (q0 := 4) rfl rfl) [4, 5] [0, 1, 2, 3, 6, 7, 8, 9, 10, 11, 12, 13, 14, 15, 16, 17, 18, 19, 20, 21, 22, 23, 24, 25, 26, 27] (wM g cA t u14.2 y d q k r c o m) rfl (by decide +kernel) rfl (wr := List.filterMap (fun i => (wM g cA t s y d q k r c o m)[i]?) [0, 1, 2, 3, 6, 7, 8, 9, 10, 11, 12, 13, 14, 15, 16, 17, 18, 19, 20, 21, 22, 23, 24, 25, 26, 27]) rfl rfl (by decide +kernel) rfl (by decide +kernel) [g 0, g 1, g 2, g 3, g 4, g 5, g 6, g 7, g 8, g 9, g 10, g 11, g 12, g 13, g 14, g 15, g 16, g 17, g 18, g 19, g 20, g 21, g 22, g 23, g 24, g 25, g 26, g 27] rfl rfl (fun _ _ _ _ h => h) (fun _ _ _ => trivial) (fun H locs hP hD hS => ?_)
      have hP : va_P D vwCl (wM g cA t u14.2 y d q k r c o m) H := hP
      have hD : va_D A (wM g cA t u14.2 y d q k r c o m) := hD
      refine lv_if_ne (tgt := 95) hx hb dX3_useNumberBehind_88 (by decide) (fun c16 => ?_) (fun c16 => ?_)
      · have hE := if_f c16 hE
        refine lv_iload_n hx hb dX3_useNumberBehind_95 rfl (lv_at hl 3 rfl) ?_
        refine lv_iconst (v := 1) hx hb dX3_useNumberBehind_96 (by decide +kernel) ?_
        refine lv_iadd hx hb dX3_useNumberBehind_97 ?_
        exact w98  (x2 + 1) u14.2 y r c H locs ls hP hD hS (lv_sub hl [] rfl) hE
      · have hE := if_t c16 hE
        refine lv_iload_n hx hb dX3_useNumberBehind_91 rfl (lv_at hl 0 rfl) ?_
        refine lv_goto (tgt := 98) hx hb dX3_useNumberBehind_92 (by decide) ?_
        exact w98  u4 u14.2 y r c H locs ls hP hD hS (lv_sub hl [] rfl) hE
    have hE := if_f c13 hE
    by_cases c17 : (swm ((wV_ordinal.getD w1 0).toNatClampNeg)) = 27
    · have hE := if_t c17 hE
      refine lv_tableIn (tgt := 103) (off := 72) hx hb dX3_useNumberBehind_31 (by rw [c17]; decide +kernel) (by rw [c17]; decide +kernel) (by rw [c17]; decide +kernel) (by decide) ?_
      refine lv_aload_n hx hb dX3_useNumberBehind_103 rfl (lv_at hl 1 rfl) ?_
      refine va_get (D := D) (ci := 2) (v := .ref (g 21)) (C := RX3) (T := TX3) (N := 14) hx hb hts inX3 hown hK hP 0 rfl rfl 5 (by decide) k3 (fun _ h9 => h9) rfl dX3_useNumberBehind_104 ?_
      refine lv_aload_n hx hb dX3_useNumberBehind_107 rfl (lv_at hl 1 rfl) ?_
      refine lv_iconst (v := 1) hx hb dX3_useNumberBehind_108 (by decide +kernel) ?_
      obtain ⟨u18, h19, hE⟩ := bd_some hE
      refine cw_i (As := [.int 1]) (rest := [.ref (g 21)]) (r := u18.1) (wc := (wM g cA t s y d q k r c o m)) ⟨hx, hb, hml, hown, hts⟩ (c_X3_loopEnds l D cA ad adK adV tA tS g H.size 1 t s y d q k r c o m u18 h19) (cwV 1 hts hX3_useNumberBehind_X3_loopEnds_308 rfl rfl rfl (by decide +kernel) ⟨Nat.le_of_ble_eq_true rfl, Nat.le_of_ble_eq_true rfl⟩) rfl hl.1 rfl (Nat.le_of_ble_eq_true rfl) dX3_useNumberBehind_109 ⟨Nat.zero_le _, Nat.zero_le _⟩ hK hP hD hS hA (va_recv hK hP (ci := 2) (q0 := 0) rfl rfl) [g 0, g 1, g 2, g 3, g 4, g 5, g 6, g 7, g 8, g 9, g 10, g 11, g 12, g 13, g 14, g 15, g 16, g 17, g 18, g 19, g 20, g 21, g 22, g 23, g 24, g 25, g 26, g 27] rfl rfl (fun a U g mk h => SX.blind a U g mk h) (fun U hU hW => SX.call hX hS (fun q h => h.elim (fun ⟨k, e, h⟩ => hD.2 k (q, e) h) (fun h => hA q (Nat.le_trans hS.1 h))) U hU hW) (fun H locs hP hD hS => ?_)
      have hP : va_P D vwCl (wM g cA t s y d q k u18.2 c o m) H := hP
      have hD : va_D A (wM g cA t s y d q k u18.2 c o m) := hD
      refine lv_if_eq (tgt := 121) hx hb dX3_useNumberBehind_112 (by decide) (fun c20 => ?_) (fun c20 => ?_)
      · have hE := if_t c20 hE
        refine lv_iload_n hx hb dX3_useNumberBehind_121 rfl (lv_at hl 0 rfl) ?_
        exact w122  u4 s y u18.2 c H locs ls hP hD hS (lv_sub hl [] rfl) hE
      · have hE := if_f c20 hE
        refine lv_iload_n hx hb dX3_useNumberBehind_115 rfl (lv_at hl 3 rfl) ?_
        refine lv_iconst (v := 1) hx hb dX3_useNumberBehind_116 (by decide +kernel) ?_
        refine lv_iadd hx hb dX3_useNumberBehind_117 ?_
        refine lv_goto (tgt := 122) hx hb dX3_useNumberBehind_118 (by decide) ?_
        exact w122  (x2 + 1) s y u18.2 c H locs ls hP hD hS (lv_sub hl [] rfl) hE
    have hE := if_f c17 hE
    have tc7 := lv_neT c7 (show (24 : Int32).toInt = 24 by decide +kernel)
    have tc10 := lv_neT c10 (show (25 : Int32).toInt = 25 by decide +kernel)
    have tc13 := lv_neT c13 (show (26 : Int32).toInt = 26 by decide +kernel)
    have tc17 := lv_neT c17 (show (27 : Int32).toInt = 27 by decide +kernel)
    refine lv_tableOut (tgt := 127) hx hb dX3_useNumberBehind_31 (by omega) (by decide) ?_
    refine lv_aload_n hx hb dX3_useNumberBehind_127 rfl (lv_at hl 1 rfl) ?_
    refine va_get (D := D) (ci := 2) (v := .ref (g 21)) (C := RX3) (T := TX3) (N := 14) hx hb hts inX3 hown hK hP 0 rfl rfl 5 (by decide) k3 (fun _ h9 => h9) rfl dX3_useNumberBehind_128 ?_
    refine lv_aload_n hx hb dX3_useNumberBehind_131 rfl (lv_at hl 1 rfl) ?_
    refine lv_aload_n hx hb dX3_useNumberBehind_132 rfl (lv_at hl 1 rfl) ?_
    refine va_get (D := D) (ci := 2) (v := .ref (g 4)) (C := RX3) (T := TX3) (N := 14) hx hb hts inX3 hown hK hP 0 rfl rfl 1 (by decide) k4 (fun _ h9 => h9) rfl dX3_useNumberBehind_133 ?_
    obtain ⟨u21, h22, hE⟩ := bd_some hE
    refine cn_i (As := []) (rest := [.ref (g 0), .ref (g 21)]) (r := u21.1) (w0 := (wM g cA t s y d q k r c o m)) (N := 28) ⟨hx, hb, hml, hown, hts⟩ (c_X8_take l D cA (g 4) (g 5) H.size (-3) s u21 h22) (cwV 0 hts hX3_useNumberBehind_X8_take_305 rfl rfl rfl (by decide +kernel) ⟨Nat.le_of_ble_eq_true rfl, Nat.le_of_ble_eq_true rfl⟩) rfl hl.1 rfl (Nat.le_of_ble_eq_true rfl) dX3_useNumberBehind_136 ⟨Nat.zero_le _, Nat.zero_le _⟩ hK hP hD hS hA (va_recv hK hP (ci := 7) (q0 := 4) rfl rfl) [4, 5] [0, 1, 2, 3, 6, 7, 8, 9, 10, 11, 12, 13, 14, 15, 16, 17, 18, 19, 20, 21, 22, 23, 24, 25, 26, 27] (wM g cA t u21.2 y d q k r c o m) rfl (by decide +kernel) rfl (wr := List.filterMap (fun i => (wM g cA t s y d q k r c o m)[i]?) [0, 1, 2, 3, 6, 7, 8, 9, 10, 11, 12, 13, 14, 15, 16, 17, 18, 19, 20, 21, 22, 23, 24, 25, 26, 27]) rfl rfl (by decide +kernel) rfl (by decide +kernel) [g 0, g 1, g 2, g 3, g 4, g 5, g 6, g 7, g 8, g 9, g 10, g 11, g 12, g 13, g 14, g 15, g 16, g 17, g 18, g 19, g 20, g 21, g 22, g 23, g 24, g 25, g 26, g 27] rfl rfl (fun _ _ _ _ h => h) (fun _ _ _ => trivial) (fun H locs hP hD hS => ?_)
    have hP : va_P D vwCl (wM g cA t u21.2 y d q k r c o m) H := hP
    have hD : va_D A (wM g cA t u21.2 y d q k r c o m) := hD
    obtain ⟨u23, h24, hE⟩ := bd_some hE
    refine cw_i (As := [.int u21.1]) (rest := [.ref (g 21)]) (r := u23.1) (wc := (wM g cA t u21.2 y d q k r c o m)) ⟨hx, hb, hml, hown, hts⟩ (c_X3_loopEnds l D cA ad adK adV tA tS g H.size u21.1 t u21.2 y d q k r c o m u23 h24) (cwV 1 hts hX3_useNumberBehind_X3_loopEnds_308 rfl rfl rfl (by decide +kernel) ⟨Nat.le_of_ble_eq_true rfl, Nat.le_of_ble_eq_true rfl⟩) rfl hl.1 rfl (Nat.le_of_ble_eq_true rfl) dX3_useNumberBehind_139 ⟨Nat.zero_le _, Nat.zero_le _⟩ hK hP hD hS hA (va_recv hK hP (ci := 2) (q0 := 0) rfl rfl) [g 0, g 1, g 2, g 3, g 4, g 5, g 6, g 7, g 8, g 9, g 10, g 11, g 12, g 13, g 14, g 15, g 16, g 17, g 18, g 19, g 20, g 21, g 22, g 23, g 24, g 25, g 26, g 27] rfl rfl (fun a U g mk h => SX.blind a U g mk h) (fun U hU hW => SX.call hX hS (fun q h => h.elim (fun ⟨k, e, h⟩ => hD.2 k (q, e) h) (fun h => hA q (Nat.le_trans hS.1 h))) U hU hW) (fun H locs hP hD hS => ?_)
    have hP : va_P D vwCl (wM g cA t u21.2 y d q k u23.2 c o m) H := hP
    have hD : va_D A (wM g cA t u21.2 y d q k u23.2 c o m) := hD
    refine lv_if_eq (tgt := 151) hx hb dX3_useNumberBehind_142 (by decide) (fun c25 => ?_) (fun c25 => ?_)
    · have hE := if_t c25 hE
      refine lv_iload_n hx hb dX3_useNumberBehind_151 rfl (lv_at hl 0 rfl) ?_
      exact w152  u4 u21.2 y u23.2 c H locs ls hP hD hS (lv_sub hl [] rfl) hE
    · have hE := if_f c25 hE
      refine lv_iload_n hx hb dX3_useNumberBehind_145 rfl (lv_at hl 3 rfl) ?_
      refine lv_iconst (v := 1) hx hb dX3_useNumberBehind_146 (by decide +kernel) ?_
      refine lv_iadd hx hb dX3_useNumberBehind_147 ?_
      refine lv_goto (tgt := 152) hx hb dX3_useNumberBehind_148 (by decide) ?_
      exact w152  (x2 + 1) u21.2 y u23.2 c H locs ls hP hD hS (lv_sub hl [] rfl) hE
  · have hE := if_t c3 hE
    refine lv_bipush (v := (-9)) hx hb dX3_useNumberBehind_11 (by decide +kernel) ?_
    obtain rfl := Option.some.inj hE
    exact rt_i hx hb hr hP hS rfl hlocks dX3_useNumberBehind_13
