set_option maxRecDepth 20000 in
theorem hX11_init_X3_init : GoodIn wsX11_init wsX3_init := goodIn_r _ [9, 10, 2, 3, 11, 12, 13, 14, 15, 16, 17, 18, 19, 20, 21, 22, 23, 24, 25, 26, 27, 28, 29, 30, 31, 32, 33, 34, 35, 36, 37, 38, 39, 40, 41, 42, 43, 44, 45, 46, 47, 48, 49, 50, 51, 52, 53, 54, 55, 56, 57, 58, 59, 60, 61, 62, 63, 64, 65, 66, 67, 68, 69, 70, 71, 72, 73, 74, 75, 76, 77, 78, 79, 80, 81, 82, 83, 84, 85, 86, 87, 88, 89, 90, 91, 92, 93, 94, 95, 111, 112, 113, 114, 115, 96, 97, 98, 99, 100, 101, 102, 103, 104, 105, 106, 107, 108, 109, 116, 117, 118, 119, 120, 121, 122, 123, 124, 125, 126, 127, 128, 129, 130, 131, 132, 133, 134, 135, 136, 137, 138, 139, 140, 141, 142, 143, 144] rfl (by decide +kernel)
set_option maxHeartbeats 4000000 in
set_option maxRecDepth 100000 in
theorem c_X11_init (l : Launch) (D : va_G) (cA : Nat → ClassId) (h : Nat) (sz : Nat) : Met l yX11_init wsX11_init ({ frames := 4, cells := 28, slots := 1755, locals := 76 }) (va_Pc [.ref h] (PRE D cA [(h, .inr (9, [.null]))] sz NXp)) (cQn D (fun w1 => ∃ g : Nat → Nat, g 28 = h ∧ w1 = wG g cA (0, 0, 0, 0, (fun _ => 0)) (0, (fun _ => 0)) (0, (fun _ => 0)) (0, (fun _ => 0), (fun _ => 0), (fun _ => 0), (fun _ => 0), (fun _ => 0), (fun _ => 0), (fun _ => 0)) (0, (fun _ => 0), (fun _ => 0)) 0 (0, (fun _ => 0)) (0, (fun _ => 0), (fun _ => 0), (fun _ => 0), (fun _ => 0)) (0, (fun _ => 0)) (0, 0, 0, (-1), 0, 0)) (va_A [(h, .inr (9, [.null]))] sz)) 28 1755 (va_A [(h, .inr (9, [.null]))] sz) := by
  refine Met.ofW (cc := cX11_init) (maxL := 1) (ret := none) (by decide) rfl ?_
  intro PP EE S0 MM args below meth CC S1 B hml hv
  obtain ⟨rfl, hsz, hP, hK, hD0, hX⟩ := hv
  have hx := B.exec
  have hb := B.bytes
  have hr := B.returns
  have hts := atoms_spec (ws := wsX11_init) B.pre
  have hown : S0.vm.findClass RX11 = some MM.cls := findClass_of_methodNamed B.named
  have hlocks := B.notSynchronized
  have hin : meth.name = "<init>" := (name_of_methodNamed B.named B.method).1
  subst hsz
  have hD := hD0.self (sz := S0.heap.size)
  generalize hAe : va_A [(h, .inr (9, [.null]))] S0.heap.size = A at hD ⊢
  have hA : ∀ q : Nat, S0.heap.size ≤ q → A q := fun q h => by rw [← hAe]; exact Or.inr h
  have hS : va_S A S0.heap S0.heap [] := va_S.rf
  have inX11 : ∀ w ∈ wsX110, w ∈ wsX11_init := fun _ h => List.mem_cons_of_mem _ (List.mem_append_left _ (List.mem_append_left _ (List.mem_append_left _ (List.mem_append_left _ (List.mem_append_left _ (List.mem_append_left _ (List.mem_append_left _ (List.mem_append_left _ (List.mem_append_right _ h)))))))))
  have inX3 : ∀ w ∈ wsX30, w ∈ wsX11_init := fun _ h => List.mem_cons_of_mem _ (List.mem_append_left _ (List.mem_append_left _ (List.mem_append_left _ (List.mem_append_left _ (List.mem_append_left _ (List.mem_append_left _ (List.mem_append_left _ (List.mem_append_left _ (List.mem_append_left _ (List.mem_append_right _ h))))))))))
  have k0 := hts (.methodLink RX11 1 objectInit) (List.mem_of_getElem? (i := 1) rfl)
  have k1 := hts (.instanceMethod objectInit) (List.mem_of_getElem? (i := 2) rfl)
  have k2 := hts (.code objectInit ⟨#[0xb1]⟩ 1 none) (List.mem_of_getElem? (i := 3) rfl)
  have k3 := hts (.classLink RX11 7 RX3) (List.mem_of_getElem? (i := 4) rfl)
  have k4 := hts (.instantiable RX3 14) (List.mem_of_getElem? (i := 5) rfl)
  have k5 := hts (.initialized RX3) (List.mem_of_getElem? (i := 6) rfl)
  have k6 := hts (.instanceMethod yX3_init) (List.mem_of_getElem? (i := 8) rfl)
  have k7 := hts (.fieldLink RX11 10 "WordForge" "machine" "LWordForge$Machine;") (List.mem_of_getElem? (i := 7) rfl)
  have hl := lv_entry ([.ref h]) (n := 1) (Nat.le_of_ble_eq_true rfl)
  rw [lg_entry_eq]
  generalize (lg_sl ([.ref h]) ++ List.replicate (1 - (lg_sl ([.ref h])).length) Slot.unset).toArray = ls at hl ⊢
  have hl : lv_has ls 1 [(0, .ref h)] := hl
  refine lv_aload_n hx hb dX11_init_0 rfl (lv_at hl 0 rfl) ?_
  refine W.objInit hx hb hown k0 k1 k2 rfl (by rw [hml]; exact hl.1) rfl dX11_init_1 (Nat.le_of_ble_eq_true rfl) (Nat.le_of_ble_eq_true rfl) ?_
  refine W.eq (g2 := F0 MM 4 ls []) rfl ?_
  refine lv_aload_n hx hb dX11_init_4 rfl (lv_at hl 0 rfl) ?_
  refine va_new (ci := 2) (fs := [.null, .null, .null, .null, .null, .null, .null, .null, .int 0, .int 0, .int 0, .int 0, .int 0, .int 0]) (C := RX3) (T := TX3) (N := 14) hx hb hts inX3 tyX3 tyX3_ok hown k3 k4 k5 hK hP hD hS hA rfl (by decide +kernel) (Nat.le_of_ble_eq_true rfl) (Nat.le_of_ble_eq_true rfl) dX11_init_5 (fun q1 H hP hD hS => ?_)
  have hP : va_P D vwCl [(h, .inr (9, [.null])), (q1, .inr (2, [.null, .null, .null, .null, .null, .null, .null, .null, .int 0, .int 0, .int 0, .int 0, .int 0, .int 0]))] H := hP
  have hD : va_D A [(h, .inr (9, [.null])), (q1, .inr (2, [.null, .null, .null, .null, .null, .null, .null, .null, .int 0, .int 0, .int 0, .int 0, .int 0, .int 0]))] := hD
  refine W.widen (k := 1) (n := 14) (by omega) (by omega) ?_
  refine lv_dup hx hb dX11_init_8 rfl ?_
  refine cj_v (As := []) (rest := [.ref q1, .ref h]) (wr := [(h, .inr (9, [.null]))]) ⟨hx, hb, hml, hown, hts⟩ (c_X3_init l D cA q1 H.size) ⟨va_cnB (host := "WordForge") 0 hts hX11_init_X3_init rfl rfl rfl (hX (.methodLinkNest RX11 9 yX3_init "WordForge") (List.mem_of_getElem? (i := 47) rfl)) k5 (by decide +kernel) ⟨Nat.le_of_ble_eq_true rfl, Nat.le_of_ble_eq_true rfl⟩, rfl, k6⟩ rfl hl.1 rfl (Nat.le_of_ble_eq_true rfl) dX11_init_9 ⟨Nat.le_of_ble_eq_true rfl, Nat.le_of_ble_eq_true rfl⟩ hK hP hD hS hA [1] [0] rfl (by decide +kernel) rfl (by decide +kernel) (by decide +kernel) NXp.blind (NXp.call hX) (fun w1 H2 locs2 hF hP2 hD2 hS2 => ?_)
  obtain ⟨gg, hg0, rfl⟩ := hF
  subst hg0
  have hP : va_P D vwCl ([(h, .inr (9, [.null]))] ++ (wM gg cA (0, 0, 0, 0, (fun _ => 0)) (0, (fun _ => 0)) (0, (fun _ => 0)) (0, (fun _ => 0), (fun _ => 0), (fun _ => 0), (fun _ => 0), (fun _ => 0), (fun _ => 0), (fun _ => 0)) (0, (fun _ => 0), (fun _ => 0)) 0 (0, (fun _ => 0)) (0, (fun _ => 0), (fun _ => 0), (fun _ => 0), (fun _ => 0)) (0, (fun _ => 0)) (0, 0, 0, (-1), 0, 0))) H2 := hP2
  have hD : va_D A ([(h, .inr (9, [.null]))] ++ (wM gg cA (0, 0, 0, 0, (fun _ => 0)) (0, (fun _ => 0)) (0, (fun _ => 0)) (0, (fun _ => 0), (fun _ => 0), (fun _ => 0), (fun _ => 0), (fun _ => 0), (fun _ => 0), (fun _ => 0)) (0, (fun _ => 0), (fun _ => 0)) 0 (0, (fun _ => 0)) (0, (fun _ => 0), (fun _ => 0), (fun _ => 0), (fun _ => 0)) (0, (fun _ => 0)) (0, 0, 0, (-1), 0, 0))) := hD2
  have hS := hS2
  refine W.widen (k := 28) (n := 1755) (by omega) (by omega) ?_
  refine va_putF (D := D) (ci := 9) (v := .ref (gg 0)) (ty := .object "WordForge$Machine") (C := RX11) (T := TX11) (N := 1) hx hb hts inX11 tyX11 tyX11_ok nmX11 hown hK hP hD hS 0 rfl rfl 0 (by decide) k7 (fun _ h9 => h9) rfl hin rfl (by decide +kernel) rfl rfl (Nat.le_of_ble_eq_true rfl) dX11_init_12 (fun H locs hP hD hS => ?_)
  have hP : va_P D vwCl ([(h, .inr (9, [.ref (gg 0)]))] ++ (wM gg cA (0, 0, 0, 0, (fun _ => 0)) (0, (fun _ => 0)) (0, (fun _ => 0)) (0, (fun _ => 0), (fun _ => 0), (fun _ => 0), (fun _ => 0), (fun _ => 0), (fun _ => 0), (fun _ => 0)) (0, (fun _ => 0), (fun _ => 0)) 0 (0, (fun _ => 0)) (0, (fun _ => 0), (fun _ => 0), (fun _ => 0), (fun _ => 0)) (0, (fun _ => 0)) (0, 0, 0, (-1), 0, 0))) H := hP
  have hD : va_D A ([(h, .inr (9, [.ref (gg 0)]))] ++ (wM gg cA (0, 0, 0, 0, (fun _ => 0)) (0, (fun _ => 0)) (0, (fun _ => 0)) (0, (fun _ => 0), (fun _ => 0), (fun _ => 0), (fun _ => 0), (fun _ => 0), (fun _ => 0), (fun _ => 0)) (0, (fun _ => 0), (fun _ => 0)) 0 (0, (fun _ => 0)) (0, (fun _ => 0), (fun _ => 0), (fun _ => 0), (fun _ => 0)) (0, (fun _ => 0)) (0, 0, 0, (-1), 0, 0))) := hD
  have hP := hP.sub (ws' := (wG (fun k => if k = 28 then h else gg k) cA (0, 0, 0, 0, (fun _ => 0)) (0, (fun _ => 0)) (0, (fun _ => 0)) (0, (fun _ => 0), (fun _ => 0), (fun _ => 0), (fun _ => 0), (fun _ => 0), (fun _ => 0), (fun _ => 0)) (0, (fun _ => 0), (fun _ => 0)) 0 (0, (fun _ => 0)) (0, (fun _ => 0), (fun _ => 0), (fun _ => 0), (fun _ => 0)) (0, (fun _ => 0)) (0, 0, 0, (-1), 0, 0))) [1, 2, 3, 4, 5, 6, 7, 8, 9, 10, 11, 12, 13, 14, 15, 16, 17, 18, 19, 20, 21, 22, 23, 24, 25, 26, 27, 28, 0] rfl
  have hD := hD.sub (ws' := (wG (fun k => if k = 28 then h else gg k) cA (0, 0, 0, 0, (fun _ => 0)) (0, (fun _ => 0)) (0, (fun _ => 0)) (0, (fun _ => 0), (fun _ => 0), (fun _ => 0), (fun _ => 0), (fun _ => 0), (fun _ => 0), (fun _ => 0)) (0, (fun _ => 0), (fun _ => 0)) 0 (0, (fun _ => 0)) (0, (fun _ => 0), (fun _ => 0), (fun _ => 0), (fun _ => 0)) (0, (fun _ => 0)) (0, 0, 0, (-1), 0, 0))) [1, 2, 3, 4, 5, 6, 7, 8, 9, 10, 11, 12, 13, 14, 15, 16, 17, 18, 19, 20, 21, 22, 23, 24, 25, 26, 27, 28, 0] (by decide +kernel) rfl
  exact rt_n1 hx hb hr ⟨(fun k => if k = 28 then h else gg k), rfl, rfl⟩ hP hD hS hlocks dX11_init_15
