def f_X11_type (x1 : Int32) (t : tT) : Option (Int32 × tT) := (f_X9_add x1 t).bind (fun u1 => ck (u1.1 = 0 ∨ u1.1 = 1) (some (u1.1, u1.2)))
set_option maxRecDepth 20000 in
theorem hX11_type_X9_add_20 : GoodIn wsX11_type (wsV RX11 20 RX9 yX9_add wsX9_add) := goodIn_r _ [2, 3, 4, 5, 6, 7, 8, 24, 25, 26, 27, 28] rfl (by decide +kernel)
set_option maxHeartbeats 4000000 in
set_option maxRecDepth 100000 in
theorem c_X11_type (l : Launch) (D : va_G) (cA : Nat → ClassId) (ad adK adV : Nat → Nat) (tA tS : Nat) (g : Nat → Nat) (sz : Nat) (x1 : Int32) (t : tT) (s : tR) (y : tY) (d : tD) (q : tP) (k : tK) (r : tR) (c : tC) (o : tO) (m : tM) (u : Int32 × tT) (hE : f_X11_type x1 t = some u) : Met l yX11_type wsX11_type ({ frames := 1, cells := 0, slots := 0, locals := 21 }) (va_Pc [.ref (g 28), .int x1] (PRE D cA (wG g cA t s y d q k r c o m) sz (fun U => SX ad adK adV tA tS (va_A (wG g cA t s y d q k r c o m) sz) U U.heap))) (cQi D (wG g cA u.2 s y d q k r c o m) (va_A (wG g cA t s y d q k r c o m) sz) u.1) 0 0 (va_A (wG g cA t s y d q k r c o m) sz) := by
  refine Met.ofW (cc := cX11_type) (maxL := 2) (ret := (some .boolean)) (by decide) rfl ?_
  intro PP EE S0 MM args below meth CC S1 B hml hv
  obtain ⟨rfl, hsz, hP, hK, hD0, hX⟩ := hv
  have hx := B.exec
  have hb := B.bytes
  have hr := B.returns
  have hts := atoms_spec (ws := wsX11_type) B.pre
  have hown : S0.vm.findClass RX11 = some MM.cls := findClass_of_methodNamed B.named
  have hlocks := B.notSynchronized
  subst hsz
  have hD := hD0.self (sz := S0.heap.size)
  have hX : SX ad adK adV tA tS (va_A (wG g cA t s y d q k r c o m) S0.heap.size) S0 S0.heap := hX
  generalize hAe : va_A (wG g cA t s y d q k r c o m) S0.heap.size = A at hD hX ⊢
  have hA : ∀ q : Nat, S0.heap.size ≤ q → A q := fun q h => by rw [← hAe]; exact Or.inr h
  have hS : va_S A S0.heap S0.heap [] := va_S.rf
  have k0 := hts (.fieldLink RX11 10 "WordForge" "machine" "LWordForge$Machine;") (List.mem_of_getElem? (i := 1) rfl)
  have inX11 : ∀ w ∈ wsX110, w ∈ wsX11_type := fun _ h => List.mem_cons_of_mem _ (List.mem_append_left _ (List.mem_append_left _ (List.mem_append_right _ h)))
  have k2 := hX.nest (.fieldLinkNest RX11 16 "WordForge$Machine" "text" "LWordForge$Text;" "WordForge") (List.mem_of_getElem? (i := 29) rfl)
  have inX3 : ∀ w ∈ wsX30, w ∈ wsX11_type := fun _ h => List.mem_cons_of_mem _ (List.mem_append_left _ (List.mem_append_right _ h))
  have hl := lv_entry ([.ref (g 28), .int x1]) (n := 2) (Nat.le_of_ble_eq_true rfl)
  rw [lg_entry_eq]
  generalize (lg_sl ([.ref (g 28), .int x1]) ++ List.replicate (2 - (lg_sl ([.ref (g 28), .int x1])).length) Slot.unset).toArray = ls at hl ⊢
  have hl : lv_has ls 2 [(0, .ref (g 28)), (1, .int x1)] := hl
  unfold f_X11_type at hE
  suffices main : ∀ (H : Heap) (locs : List Loc) (ls : Array Slot), va_P D vwCl (wG g cA t s y d q k r c o m) H → va_D A (wG g cA t s y d q k r c o m) → va_S A S0.heap H locs → lv_has ls 2 [(0, .ref (g 28)), (1, .int x1)] → W PP l EE (headSpec wsX11_type ({ frames := 1, cells := 0, slots := 0, locals := 21 })).room S0 MM (#[.ref (g 28), .int x1] : Array Value) below meth CC H locs 0 0 (MQ below (cQi D (wG g cA u.2 s y d q k r c o m) A u.1) (#[.ref (g 28), .int x1] : Array Value) S0 0 0 A) (F0 MM 0 ls []) from main _ _ _ hP hD hS hl
  intro H locs ls hP hD hS hl
  refine lv_aload_n hx hb dX11_type_0 rfl (lv_at hl 0 rfl) ?_
  refine va_get (D := D) (ci := 9) (v := .ref (g 0)) (C := RX11) (T := TX11) (N := 1) hx hb hts inX11 hown hK hP 28 rfl rfl 0 (by decide) k0 (fun _ h9 => h9) rfl dX11_type_1 ?_
  refine va_getN (D := D) (ci := 2) (v := .ref (g 2)) (C := RX3) (T := TX3) (N := 14) hx hb hts inX3 hown hK hP 0 rfl rfl 0 (by decide) (k2 _) (fun _ h9 => h9) rfl dX11_type_4 ?_
  refine lv_iload_n hx hb dX11_type_7 rfl (lv_at hl 1 rfl) ?_
  obtain ⟨u1, h2, hE⟩ := bd_some hE
  refine cn_i (As := [.int x1]) (rest := []) (r := u1.1) (w0 := (wG g cA t s y d q k r c o m)) (N := 29) ⟨hx, hb, hml, hown, hts⟩ (c_X9_add l D cA (g 2) (g 3) H.size x1 t u1 h2) (cwV 1 hts hX11_type_X9_add_20 rfl rfl rfl (by decide +kernel) ⟨Nat.le_of_ble_eq_true rfl, Nat.le_of_ble_eq_true rfl⟩) rfl hl.1 rfl (Nat.le_of_ble_eq_true rfl) dX11_type_8 ⟨Nat.zero_le _, Nat.zero_le _⟩ hK hP hD hS hA (va_recv hK hP (ci := 8) (q0 := 2) rfl rfl) [2, 3] [0, 1, 4, 5, 6, 7, 8, 9, 10, 11, 12, 13, 14, 15, 16, 17, 18, 19, 20, 21, 22, 23, 24, 25, 26, 27, 28] (wG g cA u1.2 s y d q k r c o m) rfl (by decide +kernel) rfl (wr := List.filterMap (fun i => (wG g cA t s y d q k r c o m)[i]?) [0, 1, 4, 5, 6, 7, 8, 9, 10, 11, 12, 13, 14, 15, 16, 17, 18, 19, 20, 21, 22, 23, 24, 25, 26, 27, 28]) rfl rfl (by decide +kernel) rfl (by decide +kernel) [g 0, g 1, g 2, g 3, g 4, g 5, g 6, g 7, g 8, g 9, g 10, g 11, g 12, g 13, g 14, g 15, g 16, g 17, g 18, g 19, g 20, g 21, g 22, g 23, g 24, g 25, g 26, g 27, g 28] rfl rfl (fun _ _ _ _ h => h) (fun _ _ _ => trivial) (fun H locs hP hD hS => ?_)
  have hP : va_P D vwCl (wG g cA u1.2 s y d q k r c o m) H := hP
  have hD : va_D A (wG g cA u1.2 s y d q k r c o m) := hD
  have ⟨c3, hE⟩ := ck_some hE
  obtain rfl := Option.some.inj hE
  exact rt_n hx hb hr (zfit c3).1 hP hS rfl hlocks dX11_type_11
def f_X11_count (x1 : Int32) (s : tR) (y : tY) (d : tD) (q : tP) (k : tK) (r : tR) (o : tO) (m : tM) : Option (Int32) := if x1 = 0 then (some o.1) else if x1 = 1 then (some s.1) else if x1 = 2 then (some r.1) else if x1 = 3 then (some y.1) else if x1 = 4 then (some d.1) else if x1 = 5 then (if k = 0 then (some 0) else (some 1)) else if x1 = 6 then (some m.2.1) else if x1 = 7 then (some m.2.2.1) else if x1 = 8 then (some q.1) else (some ((-1)))
set_option maxHeartbeats 4000000 in
set_option maxRecDepth 100000 in
theorem c_X11_count (l : Launch) (D : va_G) (cA : Nat → ClassId) (ad adK adV : Nat → Nat) (tA tS : Nat) (g : Nat → Nat) (sz : Nat) (x1 : Int32) (t : tT) (s : tR) (y : tY) (d : tD) (q : tP) (k : tK) (r : tR) (c : tC) (o : tO) (m : tM) (u : Int32) (hE : f_X11_count x1 s y d q k r o m = some u) : Met l yX11_count wsX11_count ({ frames := 0, cells := 0, slots := 0, locals := 0 }) (va_Pc [.ref (g 28), .int x1] (PRE D cA (wG g cA t s y d q k r c o m) sz (fun U => SX ad adK adV tA tS (va_A (wG g cA t s y d q k r c o m) sz) U U.heap))) (cQi D (wG g cA t s y d q k r c o m) (va_A (wG g cA t s y d q k r c o m) sz) u) 0 0 (va_A (wG g cA t s y d q k r c o m) sz) := by
  refine Met.ofW (cc := cX11_count) (maxL := 2) (ret := (some .int)) (by decide) rfl ?_
  intro PP EE S0 MM args below meth CC S1 B hml hv
  obtain ⟨rfl, hsz, hP, hK, hD0, hX⟩ := hv
  have hx := B.exec
  have hb := B.bytes
  have hr := B.returns
  have hts := atoms_spec (ws := wsX11_count) B.pre
  have hown : S0.vm.findClass RX11 = some MM.cls := findClass_of_methodNamed B.named
  have hlocks := B.notSynchronized
  subst hsz
  have hD := hD0.self (sz := S0.heap.size)
  have hX : SX ad adK adV tA tS (va_A (wG g cA t s y d q k r c o m) S0.heap.size) S0 S0.heap := hX
  generalize hAe : va_A (wG g cA t s y d q k r c o m) S0.heap.size = A at hD hX ⊢
  have hA : ∀ q : Nat, S0.heap.size ≤ q → A q := fun q h => by rw [← hAe]; exact Or.inr h
  have hS : va_S A S0.heap S0.heap [] := va_S.rf
  have k0 := hts (.fieldLink RX11 10 "WordForge" "machine" "LWordForge$Machine;") (List.mem_of_getElem? (i := 1) rfl)
  have inX11 : ∀ w ∈ wsX110, w ∈ wsX11_count := fun _ h => List.mem_cons_of_mem _ (List.mem_append_left _ (List.mem_append_left _ (List.mem_append_left _ (List.mem_append_left _ (List.mem_append_left _ (List.mem_append_left _ (List.mem_append_left _ (List.mem_append_right _ h))))))))
  have k2 := hX.nest (.fieldLinkNest RX11 37 "WordForge$Machine" "written" "LWordForge$Output;" "WordForge") (List.mem_of_getElem? (i := 34) rfl)
  have inX3 : ∀ w ∈ wsX30, w ∈ wsX11_count := fun _ h => List.mem_cons_of_mem _ (List.mem_append_left _ (List.mem_append_left _ (List.mem_append_left _ (List.mem_append_left _ (List.mem_append_left _ (List.mem_append_left _ (List.mem_append_right _ h)))))))
  have k4 := hX.nest (.fieldLinkNest RX11 41 "WordForge$Output" "size" "I" "WordForge") (List.mem_of_getElem? (i := 23) rfl)
  have inX7 : ∀ w ∈ wsX70, w ∈ wsX11_count := fun _ h => List.mem_cons_of_mem _ (List.mem_append_left _ (List.mem_append_left _ (List.mem_append_left _ (List.mem_append_left _ (List.mem_append_left _ (List.mem_append_right _ h))))))
  have k6 := hX.nest (.fieldLinkNest RX11 56 "WordForge$Machine" "stack" "LWordForge$Row;" "WordForge") (List.mem_of_getElem? (i := 30) rfl)
  have k7 := hX.nest (.fieldLinkNest RX11 60 "WordForge$Row" "size" "I" "WordForge") (List.mem_of_getElem? (i := 3) rfl)
  have inX8 : ∀ w ∈ wsX80, w ∈ wsX11_count := fun _ h => List.mem_cons_of_mem _ (List.mem_append_left _ (List.mem_append_left _ (List.mem_append_left _ (List.mem_append_left _ (List.mem_append_right _ h)))))
  have k9 := hX.nest (.fieldLinkNest RX11 111 "WordForge$Machine" "store" "LWordForge$Row;" "WordForge") (List.mem_of_getElem? (i := 31) rfl)
  have k10 := hX.nest (.fieldLinkNest RX11 69 "WordForge$Machine" "memory" "LWordForge$Memory;" "WordForge") (List.mem_of_getElem? (i := 32) rfl)
  have k11 := hX.nest (.fieldLinkNest RX11 114 "WordForge$Memory" "here" "I" "WordForge") (List.mem_of_getElem? (i := 5) rfl)
  have inX5 : ∀ w ∈ wsX50, w ∈ wsX11_count := fun _ h => List.mem_cons_of_mem _ (List.mem_append_left _ (List.mem_append_left _ (List.mem_append_left _ (List.mem_append_right _ h))))
  have k13 := hX.nest (.fieldLinkNest RX11 84 "WordForge$Machine" "dictionary" "LWordForge$Dictionary;" "WordForge") (List.mem_of_getElem? (i := 33) rfl)
  have k14 := hX.nest (.fieldLinkNest RX11 88 "WordForge$Dictionary" "size" "I" "WordForge") (List.mem_of_getElem? (i := 17) rfl)
  have inX2 : ∀ w ∈ wsX20, w ∈ wsX11_count := fun _ h => List.mem_cons_of_mem _ (List.mem_append_left _ (List.mem_append_left _ (List.mem_append_right _ h)))
  have k16 := hX.nest (.fieldLinkNest RX11 117 "WordForge$Machine" "maker" "LWordForge$Maker;" "WordForge") (List.mem_of_getElem? (i := 35) rfl)
  have k17 := hX.nest (.fieldLinkNest RX11 121 "WordForge$Maker" "compiling" "Z" "WordForge") (List.mem_of_getElem? (i := 28) rfl)
  have inX4 : ∀ w ∈ wsX40, w ∈ wsX11_count := fun _ h => List.mem_cons_of_mem _ (List.mem_append_left _ (List.mem_append_right _ h))
  have k19 := hX.nest (.fieldLinkNest RX11 127 "WordForge$Machine" "steps" "I" "WordForge") (List.mem_of_getElem? (i := 36) rfl)
  have k20 := hX.nest (.fieldLinkNest RX11 130 "WordForge$Machine" "caught" "I" "WordForge") (List.mem_of_getElem? (i := 37) rfl)
  have k21 := hX.nest (.fieldLinkNest RX11 133 "WordForge$Maker" "open" "LWordForge$OpenThings;" "WordForge") (List.mem_of_getElem? (i := 26) rfl)
  have k22 := hX.nest (.fieldLinkNest RX11 137 "WordForge$OpenThings" "size" "I" "WordForge") (List.mem_of_getElem? (i := 25) rfl)
  have inX6 : ∀ w ∈ wsX60, w ∈ wsX11_count := fun _ h => List.mem_cons_of_mem _ (List.mem_append_right _ h)
  have hl := lv_entry ([.ref (g 28), .int x1]) (n := 2) (Nat.le_of_ble_eq_true rfl)
  rw [lg_entry_eq]
  generalize (lg_sl ([.ref (g 28), .int x1]) ++ List.replicate (2 - (lg_sl ([.ref (g 28), .int x1])).length) Slot.unset).toArray = ls at hl ⊢
  have hl : lv_has ls 2 [(0, .ref (g 28)), (1, .int x1)] := hl
  unfold f_X11_count at hE
  suffices main : ∀ (H : Heap) (locs : List Loc) (ls : Array Slot), va_P D vwCl (wG g cA t s y d q k r c o m) H → va_D A (wG g cA t s y d q k r c o m) → va_S A S0.heap H locs → lv_has ls 2 [(0, .ref (g 28)), (1, .int x1)] → W PP l EE (headSpec wsX11_count ({ frames := 0, cells := 0, slots := 0, locals := 0 })).room S0 MM (#[.ref (g 28), .int x1] : Array Value) below meth CC H locs 0 0 (MQ below (cQi D (wG g cA t s y d q k r c o m) A u) (#[.ref (g 28), .int x1] : Array Value) S0 0 0 A) (F0 MM 0 ls []) from main _ _ _ hP hD hS hl
  intro H locs ls hP hD hS hl
  refine lv_iload_n hx hb dX11_count_0 rfl (lv_at hl 1 rfl) ?_
  by_cases c1 : x1 = 0
  · have hE := if_t c1 hE
    refine lv_tableIn (tgt := 52) (off := 51) hx hb dX11_count_1 (by rw [c1]; decide +kernel) (by rw [c1]; decide +kernel) (by rw [c1]; decide +kernel) (by decide) ?_
    refine lv_aload_n hx hb dX11_count_52 rfl (lv_at hl 0 rfl) ?_
    refine va_get (D := D) (ci := 9) (v := .ref (g 0)) (C := RX11) (T := TX11) (N := 1) hx hb hts inX11 hown hK hP 28 rfl rfl 0 (by decide) k0 (fun _ h9 => h9) rfl dX11_count_53 ?_
    refine va_getN (D := D) (ci := 2) (v := .ref (g 26)) (C := RX3) (T := TX3) (N := 14) hx hb hts inX3 hown hK hP 0 rfl rfl 6 (by decide) (k2 _) (fun _ h9 => h9) rfl dX11_count_56 ?_
    refine va_getN (D := D) (ci := 6) (v := .int o.1) (C := RX7) (T := TX7) (N := 2) hx hb hts inX7 hown hK hP 26 rfl rfl 1 (by decide) (k4 _) (fun _ h9 => h9) rfl dX11_count_59 ?_
    obtain rfl := Option.some.inj hE
    exact rt_i hx hb hr hP hS rfl hlocks dX11_count_62
  have hE := if_f c1 hE
  by_cases c2 : x1 = 1
  · have hE := if_t c2 hE
    refine lv_tableIn (tgt := 63) (off := 62) hx hb dX11_count_1 (by rw [c2]; decide +kernel) (by rw [c2]; decide +kernel) (by rw [c2]; decide +kernel) (by decide) ?_
    refine lv_aload_n hx hb dX11_count_63 rfl (lv_at hl 0 rfl) ?_
    refine va_get (D := D) (ci := 9) (v := .ref (g 0)) (C := RX11) (T := TX11) (N := 1) hx hb hts inX11 hown hK hP 28 rfl rfl 0 (by decide) k0 (fun _ h9 => h9) rfl dX11_count_64 ?_
    refine va_getN (D := D) (ci := 2) (v := .ref (g 4)) (C := RX3) (T := TX3) (N := 14) hx hb hts inX3 hown hK hP 0 rfl rfl 1 (by decide) (k6 _) (fun _ h9 => h9) rfl dX11_count_67 ?_
    refine va_getN (D := D) (ci := 7) (v := .int s.1) (C := RX8) (T := TX8) (N := 3) hx hb hts inX8 hown hK hP 4 rfl rfl 2 (by decide) (k7 _) (fun _ h9 => h9) rfl dX11_count_70 ?_
    obtain rfl := Option.some.inj hE
    exact rt_i hx hb hr hP hS rfl hlocks dX11_count_73
  have hE := if_f c2 hE
  by_cases c3 : x1 = 2
  · have hE := if_t c3 hE
    refine lv_tableIn (tgt := 74) (off := 73) hx hb dX11_count_1 (by rw [c3]; decide +kernel) (by rw [c3]; decide +kernel) (by rw [c3]; decide +kernel) (by decide) ?_
    refine lv_aload_n hx hb dX11_count_74 rfl (lv_at hl 0 rfl) ?_
    refine va_get (D := D) (ci := 9) (v := .ref (g 0)) (C := RX11) (T := TX11) (N := 1) hx hb hts inX11 hown hK hP 28 rfl rfl 0 (by decide) k0 (fun _ h9 => h9) rfl dX11_count_75 ?_
    refine va_getN (D := D) (ci := 2) (v := .ref (g 19)) (C := RX3) (T := TX3) (N := 14) hx hb hts inX3 hown hK hP 0 rfl rfl 2 (by decide) (k9 _) (fun _ h9 => h9) rfl dX11_count_78 ?_
    refine va_getN (D := D) (ci := 7) (v := .int r.1) (C := RX8) (T := TX8) (N := 3) hx hb hts inX8 hown hK hP 19 rfl rfl 2 (by decide) (k7 _) (fun _ h9 => h9) rfl dX11_count_81 ?_
    obtain rfl := Option.some.inj hE
    exact rt_i hx hb hr hP hS rfl hlocks dX11_count_84
  have hE := if_f c3 hE
  by_cases c4 : x1 = 3
  · have hE := if_t c4 hE
    refine lv_tableIn (tgt := 85) (off := 84) hx hb dX11_count_1 (by rw [c4]; decide +kernel) (by rw [c4]; decide +kernel) (by rw [c4]; decide +kernel) (by decide) ?_
    refine lv_aload_n hx hb dX11_count_85 rfl (lv_at hl 0 rfl) ?_
    refine va_get (D := D) (ci := 9) (v := .ref (g 0)) (C := RX11) (T := TX11) (N := 1) hx hb hts inX11 hown hK hP 28 rfl rfl 0 (by decide) k0 (fun _ h9 => h9) rfl dX11_count_86 ?_
    refine va_getN (D := D) (ci := 2) (v := .ref (g 6)) (C := RX3) (T := TX3) (N := 14) hx hb hts inX3 hown hK hP 0 rfl rfl 3 (by decide) (k10 _) (fun _ h9 => h9) rfl dX11_count_89 ?_
    refine va_getN (D := D) (ci := 4) (v := .int y.1) (C := RX5) (T := TX5) (N := 2) hx hb hts inX5 hown hK hP 6 rfl rfl 1 (by decide) (k11 _) (fun _ h9 => h9) rfl dX11_count_92 ?_
    obtain rfl := Option.some.inj hE
    exact rt_i hx hb hr hP hS rfl hlocks dX11_count_95
  have hE := if_f c4 hE
  by_cases c5 : x1 = 4
  · have hE := if_t c5 hE
    refine lv_tableIn (tgt := 96) (off := 95) hx hb dX11_count_1 (by rw [c5]; decide +kernel) (by rw [c5]; decide +kernel) (by rw [c5]; decide +kernel) (by decide) ?_
    refine lv_aload_n hx hb dX11_count_96 rfl (lv_at hl 0 rfl) ?_
    refine va_get (D := D) (ci := 9) (v := .ref (g 0)) (C := RX11) (T := TX11) (N := 1) hx hb hts inX11 hown hK hP 28 rfl rfl 0 (by decide) k0 (fun _ h9 => h9) rfl dX11_count_97 ?_
    refine va_getN (D := D) (ci := 2) (v := .ref (g 8)) (C := RX3) (T := TX3) (N := 14) hx hb hts inX3 hown hK hP 0 rfl rfl 4 (by decide) (k13 _) (fun _ h9 => h9) rfl dX11_count_100 ?_
    refine va_getN (D := D) (ci := 1) (v := .int d.1) (C := RX2) (T := TX2) (N := 8) hx hb hts inX2 hown hK hP 8 rfl rfl 7 (by decide) (k14 _) (fun _ h9 => h9) rfl dX11_count_103 ?_
    obtain rfl := Option.some.inj hE
    exact rt_i hx hb hr hP hS rfl hlocks dX11_count_106
  have hE := if_f c5 hE
  by_cases c6 : x1 = 5
  · have hE := if_t c6 hE
    refine lv_tableIn (tgt := 107) (off := 106) hx hb dX11_count_1 (by rw [c6]; decide +kernel) (by rw [c6]; decide +kernel) (by rw [c6]; decide +kernel) (by decide) ?_
    refine lv_aload_n hx hb dX11_count_107 rfl (lv_at hl 0 rfl) ?_
    refine va_get (D := D) (ci := 9) (v := .ref (g 0)) (C := RX11) (T := TX11) (N := 1) hx hb hts inX11 hown hK hP 28 rfl rfl 0 (by decide) k0 (fun _ h9 => h9) rfl dX11_count_108 ?_
    refine va_getN (D := D) (ci := 2) (v := .ref (g 1)) (C := RX3) (T := TX3) (N := 14) hx hb hts inX3 hown hK hP 0 rfl rfl 7 (by decide) (k16 _) (fun _ h9 => h9) rfl dX11_count_111 ?_
    refine va_getN (D := D) (ci := 3) (v := .int k) (C := RX4) (T := TX4) (N := 6) hx hb hts inX4 hown hK hP 1 rfl rfl 5 (by decide) (k17 _) (fun _ h9 => h9) rfl dX11_count_114 ?_
    refine lv_if_eq (tgt := 124) hx hb dX11_count_117 (by decide) (fun c7 => ?_) (fun c7 => ?_)
    · have hE := if_t c7 hE
      refine lv_iconst (v := 0) hx hb dX11_count_124 (by decide +kernel) ?_
      obtain rfl := Option.some.inj hE
      exact rt_i hx hb hr hP hS rfl hlocks dX11_count_125
    · have hE := if_f c7 hE
      refine lv_iconst (v := 1) hx hb dX11_count_120 (by decide +kernel) ?_
      refine lv_goto (tgt := 125) hx hb dX11_count_121 (by decide) ?_
      obtain rfl := Option.some.inj hE
      exact rt_i hx hb hr hP hS rfl hlocks dX11_count_125
  have hE := if_f c6 hE
  by_cases c8 : x1 = 6
  · have hE := if_t c8 hE
    refine lv_tableIn (tgt := 126) (off := 125) hx hb dX11_count_1 (by rw [c8]; decide +kernel) (by rw [c8]; decide +kernel) (by rw [c8]; decide +kernel) (by decide) ?_
    refine lv_aload_n hx hb dX11_count_126 rfl (lv_at hl 0 rfl) ?_
    refine va_get (D := D) (ci := 9) (v := .ref (g 0)) (C := RX11) (T := TX11) (N := 1) hx hb hts inX11 hown hK hP 28 rfl rfl 0 (by decide) k0 (fun _ h9 => h9) rfl dX11_count_127 ?_
    refine va_getN (D := D) (ci := 2) (v := .int m.2.1) (C := RX3) (T := TX3) (N := 14) hx hb hts inX3 hown hK hP 0 rfl rfl 9 (by decide) (k19 _) (fun _ h9 => h9) rfl dX11_count_130 ?_
    obtain rfl := Option.some.inj hE
    exact rt_i hx hb hr hP hS rfl hlocks dX11_count_133
  have hE := if_f c8 hE
  by_cases c9 : x1 = 7
  · have hE := if_t c9 hE
    refine lv_tableIn (tgt := 134) (off := 133) hx hb dX11_count_1 (by rw [c9]; decide +kernel) (by rw [c9]; decide +kernel) (by rw [c9]; decide +kernel) (by decide) ?_
    refine lv_aload_n hx hb dX11_count_134 rfl (lv_at hl 0 rfl) ?_
    refine va_get (D := D) (ci := 9) (v := .ref (g 0)) (C := RX11) (T := TX11) (N := 1) hx hb hts inX11 hown hK hP 28 rfl rfl 0 (by decide) k0 (fun _ h9 => h9) rfl dX11_count_135 ?_
    refine va_getN (D := D) (ci := 2) (v := .int m.2.2.1) (C := RX3) (T := TX3) (N := 14) hx hb hts inX3 hown hK hP 0 rfl rfl 10 (by decide) (k20 _) (fun _ h9 => h9) rfl dX11_count_138 ?_
    obtain rfl := Option.some.inj hE
    exact rt_i hx hb hr hP hS rfl hlocks dX11_count_141
  have hE := if_f c9 hE
  by_cases c10 : x1 = 8
  · have hE := if_t c10 hE
    refine lv_tableIn (tgt := 142) (off := 141) hx hb dX11_count_1 (by rw [c10]; decide +kernel) (by rw [c10]; decide +kernel) (by rw [c10]; decide +kernel) (by decide) ?_
    refine lv_aload_n hx hb dX11_count_142 rfl (lv_at hl 0 rfl) ?_
    refine va_get (D := D) (ci := 9) (v := .ref (g 0)) (C := RX11) (T := TX11) (N := 1) hx hb hts inX11 hown hK hP 28 rfl rfl 0 (by decide) k0 (fun _ h9 => h9) rfl dX11_count_143 ?_
    refine va_getN (D := D) (ci := 2) (v := .ref (g 1)) (C := RX3) (T := TX3) (N := 14) hx hb hts inX3 hown hK hP 0 rfl rfl 7 (by decide) (k16 _) (fun _ h9 => h9) rfl dX11_count_146 ?_
    refine va_getN (D := D) (ci := 3) (v := .ref (g 16)) (C := RX4) (T := TX4) (N := 6) hx hb hts inX4 hown hK hP 1 rfl rfl 4 (by decide) (k21 _) (fun _ h9 => h9) rfl dX11_count_149 ?_
    refine va_getN (D := D) (ci := 5) (v := .int q.1) (C := RX6) (T := TX6) (N := 3) hx hb hts inX6 hown hK hP 16 rfl rfl 2 (by decide) (k22 _) (fun _ h9 => h9) rfl dX11_count_152 ?_
    obtain rfl := Option.some.inj hE
    exact rt_i hx hb hr hP hS rfl hlocks dX11_count_155
  have hE := if_f c10 hE
  have tc1 := lv_neT c1 (show (0 : Int32).toInt = 0 by decide +kernel)
  have tc2 := lv_neT c2 (show (1 : Int32).toInt = 1 by decide +kernel)
  have tc3 := lv_neT c3 (show (2 : Int32).toInt = 2 by decide +kernel)
  have tc4 := lv_neT c4 (show (3 : Int32).toInt = 3 by decide +kernel)
  have tc5 := lv_neT c5 (show (4 : Int32).toInt = 4 by decide +kernel)
  have tc6 := lv_neT c6 (show (5 : Int32).toInt = 5 by decide +kernel)
  have tc8 := lv_neT c8 (show (6 : Int32).toInt = 6 by decide +kernel)
  have tc9 := lv_neT c9 (show (7 : Int32).toInt = 7 by decide +kernel)
  have tc10 := lv_neT c10 (show (8 : Int32).toInt = 8 by decide +kernel)
  refine lv_tableOut (tgt := 156) hx hb dX11_count_1 (by omega) (by decide) ?_
  refine lv_iconst (v := (-1)) hx hb dX11_count_156 (by decide +kernel) ?_
  obtain rfl := Option.some.inj hE
  exact rt_i hx hb hr hP hS rfl hlocks dX11_count_157
