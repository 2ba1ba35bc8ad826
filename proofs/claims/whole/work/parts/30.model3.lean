set_option maxRecDepth 20000 in
theorem hX12_rest_X12_isWord_323 : GoodIn wsX12_rest (wsV RX12 323 RX12 yX12_isWord wsX12_isWord) := goodIn_r _ [9, 10, 11, 12, 13, 14, 22, 23, 24, 25, 26, 27, 28, 29, 30, 31, 32, 33, 34, 35, 36, 37, 38, 39, 40, 41, 42, 43, 44, 45, 46, 47, 48, 49, 50, 51, 52, 53, 54, 55, 56, 57, 58, 59, 60, 61] rfl (by decide +kernel)
set_option maxRecDepth 20000 in
theorem hX12_rest_X12_call_386 : GoodIn wsX12_rest (wsV RX12 386 RX12 yX12_call wsX12_call) := goodIn_r _ [15, 16, 17, 12, 18, 19, 6, 20, 21, 22, 23, 24, 25, 26, 27, 28, 29, 30, 31, 32, 33, 34, 35, 36, 37, 38, 39, 40, 41, 42, 43, 44, 45, 46, 47, 48, 49, 50, 51, 52, 53, 54, 55, 56, 57, 58, 59, 60, 61] rfl (by decide +kernel)
set_option maxHeartbeats 4000000 in
set_option maxRecDepth 100000 in
theorem c_X12_rest (l : Launch) (D : va_G) (cA : Nat → ClassId) (g : Nat → Nat) (sz : Nat) (x1 : Int32) (t : mT) (s : mS) (r : mR) (c : mC) (y : mY) (d : mD) (k : mK) (q : mP) (o : mO) (m : mM) (u : Int32 × mT × mS × mC × mM) (hE : f_X12_rest x1 t s r c d m = some u) : Met l yX12_rest wsX12_rest ({ frames := 1, cells := 0, slots := 0, locals := 23 }) (va_Pc [.ref (g 0), .int x1] (PRE D cA (wX g cA t s r c y d k q o m) sz (fun _ => True))) (cQi D (wX g cA u.2.1 u.2.2.1 r u.2.2.2.1 y d k q o u.2.2.2.2) (va_A (wX g cA t s r c y d k q o m) sz) u.1) 0 0 (va_A (wX g cA t s r c y d k q o m) sz) := by
  refine Met.ofW (cc := cX12_rest) (maxL := 3) (ret := (some .int)) (by decide) rfl ?_
  intro PP EE S0 MM args below meth CC S1 B hml hv
  obtain ⟨rfl, hsz, hP, hK, hD0, hX⟩ := hv
  have hx := B.exec
  have hb := B.bytes
  have hr := B.returns
  have hts := atoms_spec (ws := wsX12_rest) B.pre
  have hown : S0.vm.findClass RX12 = some MM.cls := findClass_of_methodNamed B.named
  have hlocks := B.notSynchronized
  subst hsz
  have hD := hD0.self (sz := S0.heap.size)
  generalize hAe : va_A (wX g cA t s r c y d k q o m) S0.heap.size = A at hD ⊢
  have hA : ∀ q : Nat, S0.heap.size ≤ q → A q := fun q h => by rw [← hAe]; exact Or.inr h
  have hS : va_S A S0.heap S0.heap [] := va_S.rf
  have k0 := hts (.fieldLink RX12 169 "WordForgeModel" "stack" "[I") (List.mem_of_getElem? (i := 4) rfl)
  have inX12 : ∀ w ∈ wsX120, w ∈ wsX12_rest := fun _ h => List.mem_cons_of_mem _ (List.mem_append_right _ h)
  have k2 := hts (.fieldLink RX12 293 "WordForgeModel" "depth" "I") (List.mem_of_getElem? (i := 5) rfl)
  have k3 := hts (.fieldLink RX12 311 "WordForgeModel" "calls" "I") (List.mem_of_getElem? (i := 6) rfl)
  have k4 := hts (.fieldLink RX12 335 "WordForgeModel" "deep" "I") (List.mem_of_getElem? (i := 7) rfl)
  have k5 := hts (.fieldLink RX12 326 "WordForgeModel" "next" "I") (List.mem_of_getElem? (i := 8) rfl)
  have k6 := hts (.fieldLink RX12 222 "WordForgeModel" "at" "I") (List.mem_of_getElem? (i := 1) rfl)
  have k7 := hts (.fieldLink RX12 219 "WordForgeModel" "size" "I") (List.mem_of_getElem? (i := 2) rfl)
  have k8 := hts (.fieldLink RX12 162 "WordForgeModel" "text" "[I") (List.mem_of_getElem? (i := 3) rfl)
  have hl := lv_entry ([.ref (g 0), .int x1]) (n := 3) (Nat.le_of_ble_eq_true rfl)
  rw [lg_entry_eq]
  generalize (lg_sl ([.ref (g 0), .int x1]) ++ List.replicate (3 - (lg_sl ([.ref (g 0), .int x1])).length) Slot.unset).toArray = ls at hl ⊢
  have hl : lv_has ls 3 [(0, .ref (g 0)), (1, .int x1)] := hl
  have w44 : ∀ (t : mT) (s : mS) (r : mR) (c : mC) (d : mD) (m : mM) (H : Heap) (locs : List Loc) (ls : Array Slot), va_P D vwCl (wX g cA t s r c y d k q o m) H → va_D A (wX g cA t s r c y d k q o m) → va_S A S0.heap H locs → lv_has ls 3 [(0, .ref (g 0))] → b_X12_rest_44  t s r c d m = some u → W PP l EE (headSpec wsX12_rest ({ frames := 1, cells := 0, slots := 0, locals := 23 })).room S0 MM (#[.ref (g 0), .int x1] : Array Value) below meth CC H locs 0 0 (MQ below (cQi D (wX g cA u.2.1 u.2.2.1 r u.2.2.2.1 y d k q o u.2.2.2.2) A u.1) (#[.ref (g 0), .int x1] : Array Value) S0 0 0 A) (F0 MM 44 ls []) := by
    intro t s r c d m
    intro H locs ls hP hD hS hl hE
    unfold b_X12_rest_44 at hE
    refine lv_aload_n hx hb dX12_rest_44 rfl (lv_at hl 0 rfl) ?_
    refine va_get (D := D) (ci := 10) (v := .int t.2.1) (C := RX12) (T := TX12) (N := 40) hx hb hts inX12 hown hK hP 0 rfl rfl 5 (by decide) k6 (fun _ h9 => h9) rfl dX12_rest_45 ?_
    refine lv_aload_n hx hb dX12_rest_48 rfl (lv_at hl 0 rfl) ?_
    refine va_get (D := D) (ci := 10) (v := .int t.1) (C := RX12) (T := TX12) (N := 40) hx hb hts inX12 hown hK hP 0 rfl rfl 4 (by decide) k7 (fun _ h9 => h9) rfl dX12_rest_49 ?_
    refine lv_icmp_ge (tgt := 65) hx hb dX12_rest_52 (by decide) (fun c13 => ?_) (fun c13 => ?_)
    · have hE := if_t c13 hE
      refine lv_iconst (v := 0) hx hb dX12_rest_65 (by decide +kernel) ?_
      obtain rfl := Option.some.inj hE
      exact rt_i hx hb hr hP hS rfl hlocks dX12_rest_66
    · have hE := if_f c13 hE
      refine lv_aload_n hx hb dX12_rest_55 rfl (lv_at hl 0 rfl) ?_
      refine lv_dup hx hb dX12_rest_56 rfl ?_
      refine va_get (D := D) (ci := 10) (v := .int t.2.1) (C := RX12) (T := TX12) (N := 40) hx hb hts inX12 hown hK hP 0 rfl rfl 5 (by decide) k6 (fun _ h9 => h9) rfl dX12_rest_57 ?_
      refine lv_iconst (v := 1) hx hb dX12_rest_60 (by decide +kernel) ?_
      refine lv_iadd hx hb dX12_rest_61 ?_
      refine va_put (D := D) (ci := 10) (v := .int (t.2.1 + 1)) (ty := .int) (C := RX12) (T := TX12) (N := 40) hx hb hts inX12 tyX12 tyX12_ok nmX12 hown hK hP hD hS 0 rfl rfl 5 (by decide) k6 (fun _ h9 => h9) rfl (by decide +kernel) rfl rfl (Nat.le_of_ble_eq_true rfl) dX12_rest_62 (fun H locs hP hD hS => ?_)
      have hP : va_P D vwCl (wX g cA ((t.1, t.2.1 + 1, t.2.2.1, t.2.2.2.1, t.2.2.2.2)) s r c y d k q o m) H := hP
      have hD : va_D A (wX g cA ((t.1, t.2.1 + 1, t.2.2.1, t.2.2.2.1, t.2.2.2.2)) s r c y d k q o m) := hD
      refine lv_iconst (v := 0) hx hb dX12_rest_65 (by decide +kernel) ?_
      obtain rfl := Option.some.inj hE
      exact rt_i hx hb hr hP hS rfl hlocks dX12_rest_66
  have w6 : ∀ (n : Nat), ∀ (t : mT) (s : mS) (r : mR) (c : mC) (d : mD) (m : mM) (H : Heap) (locs : List Loc) (ls : Array Slot), va_P D vwCl (wX g cA t s r c y d k q o m) H → va_D A (wX g cA t s r c y d k q o m) → va_S A S0.heap H locs → lv_has ls 3 [(0, .ref (g 0))] → b_X12_rest_6 n t s r c d m = some u → W PP l EE (headSpec wsX12_rest ({ frames := 1, cells := 0, slots := 0, locals := 23 })).room S0 MM (#[.ref (g 0), .int x1] : Array Value) below meth CC H locs 0 0 (MQ below (cQi D (wX g cA u.2.1 u.2.2.1 r u.2.2.2.1 y d k q o u.2.2.2.2) A u.1) (#[.ref (g 0), .int x1] : Array Value) S0 0 0 A) (F0 MM 6 ls []) := by
    intro  n
    induction n with
    | zero => intros; rename_i hE; exact absurd hE (by simp [b_X12_rest_6])
    | succ n ih6 =>
      intro t s r c d m
      intro H locs ls hP hD hS hl hE
      unfold b_X12_rest_6 at hE
      refine lv_aload_n hx hb dX12_rest_6 rfl (lv_at hl 0 rfl) ?_
      refine va_get (D := D) (ci := 10) (v := .int t.2.1) (C := RX12) (T := TX12) (N := 40) hx hb hts inX12 hown hK hP 0 rfl rfl 5 (by decide) k6 (fun _ h9 => h9) rfl dX12_rest_7 ?_
      refine lv_aload_n hx hb dX12_rest_10 rfl (lv_at hl 0 rfl) ?_
      refine va_get (D := D) (ci := 10) (v := .int t.1) (C := RX12) (T := TX12) (N := 40) hx hb hts inX12 hown hK hP 0 rfl rfl 4 (by decide) k7 (fun _ h9 => h9) rfl dX12_rest_11 ?_
      refine lv_icmp_ge (tgt := 44) hx hb dX12_rest_14 (by decide) (fun c10 => ?_) (fun c10 => ?_)
      · have hE := if_t c10 hE
        exact w44  t s r c d m H locs ls hP hD hS (lv_sub hl [0] rfl) hE
      · have hE := if_f c10 hE
        refine lv_aload_n hx hb dX12_rest_17 rfl (lv_at hl 0 rfl) ?_
        refine va_get (D := D) (ci := 10) (v := .ref (g 3)) (C := RX12) (T := TX12) (N := 40) hx hb hts inX12 hown hK hP 0 rfl rfl 3 (by decide) k8 (fun _ h9 => h9) rfl dX12_rest_18 ?_
        refine lv_aload_n hx hb dX12_rest_21 rfl (lv_at hl 0 rfl) ?_
        refine va_get (D := D) (ci := 10) (v := .int t.2.1) (C := RX12) (T := TX12) (N := 40) hx hb hts inX12 hown hK hP 0 rfl rfl 5 (by decide) k6 (fun _ h9 => h9) rfl dX12_rest_22 ?_
        have ⟨c11, hE⟩ := ck_some hE
        refine va_iald hx hb hK hP 3 0 rfl rfl c11 dX12_rest_25 ?_
        refine lv_bipush (v := 41) hx hb dX12_rest_26 (by decide +kernel) ?_
        refine lv_icmp_eq (tgt := 44) hx hb dX12_rest_28 (by decide) (fun c12 => ?_) (fun c12 => ?_)
        · have hE := if_t c12 hE
          exact w44  t s r c d m H locs ls hP hD hS (lv_sub hl [0] rfl) hE
        · have hE := if_f c12 hE
          refine lv_aload_n hx hb dX12_rest_31 rfl (lv_at hl 0 rfl) ?_
          refine lv_dup hx hb dX12_rest_32 rfl ?_
          refine va_get (D := D) (ci := 10) (v := .int t.2.1) (C := RX12) (T := TX12) (N := 40) hx hb hts inX12 hown hK hP 0 rfl rfl 5 (by decide) k6 (fun _ h9 => h9) rfl dX12_rest_33 ?_
          refine lv_iconst (v := 1) hx hb dX12_rest_36 (by decide +kernel) ?_
          refine lv_iadd hx hb dX12_rest_37 ?_
          refine va_put (D := D) (ci := 10) (v := .int (t.2.1 + 1)) (ty := .int) (C := RX12) (T := TX12) (N := 40) hx hb hts inX12 tyX12 tyX12_ok nmX12 hown hK hP hD hS 0 rfl rfl 5 (by decide) k6 (fun _ h9 => h9) rfl (by decide +kernel) rfl rfl (Nat.le_of_ble_eq_true rfl) dX12_rest_38 (fun H locs hP hD hS => ?_)
          have hP : va_P D vwCl (wX g cA ((t.1, t.2.1 + 1, t.2.2.1, t.2.2.2.1, t.2.2.2.2)) s r c y d k q o m) H := hP
          have hD : va_D A (wX g cA ((t.1, t.2.1 + 1, t.2.2.1, t.2.2.2.1, t.2.2.2.2)) s r c y d k q o m) := hD
          refine lv_goto (tgt := 6) hx hb dX12_rest_41 (by decide) ?_
          exact ih6 ((t.1, t.2.1 + 1, t.2.2.1, t.2.2.2.1, t.2.2.2.2)) s r c d m H locs ls hP hD hS (lv_sub hl [0] rfl) hE
  unfold f_X12_rest at hE
  suffices main : ∀ (H : Heap) (locs : List Loc) (ls : Array Slot), va_P D vwCl (wX g cA t s r c y d k q o m) H → va_D A (wX g cA t s r c y d k q o m) → va_S A S0.heap H locs → lv_has ls 3 [(0, .ref (g 0)), (1, .int x1)] → W PP l EE (headSpec wsX12_rest ({ frames := 1, cells := 0, slots := 0, locals := 23 })).room S0 MM (#[.ref (g 0), .int x1] : Array Value) below meth CC H locs 0 0 (MQ below (cQi D (wX g cA u.2.1 u.2.2.1 r u.2.2.2.1 y d k q o u.2.2.2.2) A u.1) (#[.ref (g 0), .int x1] : Array Value) S0 0 0 A) (F0 MM 0 ls []) from main _ _ _ hP hD hS hl
  intro H locs ls hP hD hS hl
  refine lv_iload_n hx hb dX12_rest_0 rfl (lv_at hl 1 rfl) ?_
  refine lv_bipush (v := 81) hx hb dX12_rest_1 (by decide +kernel) ?_
  refine lv_icmp_ne (tgt := 67) hx hb dX12_rest_3 (by decide) (fun c1 => ?_) (fun c1 => ?_)
  · have hE := if_f c1 hE
    refine lv_aload_n hx hb dX12_rest_67 rfl (lv_at hl 0 rfl) ?_
    refine va_get (D := D) (ci := 10) (v := .ref (g 5)) (C := RX12) (T := TX12) (N := 40) hx hb hts inX12 hown hK hP 0 rfl rfl 8 (by decide) k0 (fun _ h9 => h9) rfl dX12_rest_68 ?_
    refine lv_aload_n hx hb dX12_rest_71 rfl (lv_at hl 0 rfl) ?_
    refine va_get (D := D) (ci := 10) (v := .int s.1) (C := RX12) (T := TX12) (N := 40) hx hb hts inX12 hown hK hP 0 rfl rfl 9 (by decide) k2 (fun _ h9 => h9) rfl dX12_rest_72 ?_
    refine lv_iconst (v := 1) hx hb dX12_rest_75 (by decide +kernel) ?_
    refine lv_isub hx hb dX12_rest_76 ?_
    have ⟨c2, hE⟩ := ck_some hE
    refine va_iald hx hb hK hP 5 0 rfl rfl c2 dX12_rest_77 ?_
    refine lv_istore_n (lv' := [(2, .int (s.2 ((s.1 - 1).toNatClampNeg))), (0, .ref (g 0)), (1, .int x1)]) hx hb dX12_rest_78 rfl hl (by decide) rfl (fun ls hl => ?_)
    refine lv_iload_n hx hb dX12_rest_79 rfl (lv_at hl 2 rfl) ?_
    refine lv_bipush (v := 79) hx hb dX12_rest_80 (by decide +kernel) ?_
    refine lv_icmp_ne (tgt := 97) hx hb dX12_rest_82 (by decide) (fun c3 => ?_) (fun c3 => ?_)
    · have hE := if_f c3 hE
      refine lv_aload_n hx hb dX12_rest_97 rfl (lv_at hl 1 rfl) ?_
      refine lv_iload_n hx hb dX12_rest_98 rfl (lv_at hl 0 rfl) ?_
      obtain ⟨u4, h5, hE⟩ := bd_some hE
      refine cw_i (As := [.int (s.2 ((s.1 - 1).toNatClampNeg))]) (rest := []) (r := u4) (wc := (wX g cA t s r c y d k q o m)) ⟨hx, hb, hml, hown, hts⟩ (c_X12_isWord l D cA g H.size (s.2 ((s.1 - 1).toNatClampNeg)) t s r c y d k q o m u4 h5) (cwV 1 hts hX12_rest_X12_isWord_323 rfl rfl rfl (by decide +kernel) ⟨Nat.le_of_ble_eq_true rfl, Nat.le_of_ble_eq_true rfl⟩) rfl hl.1 rfl (Nat.le_of_ble_eq_true rfl) dX12_rest_99 ⟨Nat.zero_le _, Nat.zero_le _⟩ hK hP hD hS hA (va_recv hK hP (ci := 10) (q0 := 0) rfl rfl) [g 0, g 1, g 2, g 3, g 4, g 5, g 6, g 7, g 8, g 9, g 10, g 11, g 12, g 13, g 14, g 15, g 16, g 17, g 18, g 19] rfl rfl (fun _ _ _ _ h => h) (fun _ _ _ => trivial) (fun H locs hP hD hS => ?_)
      have hP : va_P D vwCl (wX g cA t s r c y d k q o m) H := hP
      have hD : va_D A (wX g cA t s r c y d k q o m) := hD
      refine lv_if_ne (tgt := 108) hx hb dX12_rest_102 (by decide) (fun c6 => ?_) (fun c6 => ?_)
      · have hE := if_f c6 hE
        refine lv_aload_n hx hb dX12_rest_108 rfl (lv_at hl 1 rfl) ?_
        refine va_get (D := D) (ci := 10) (v := .int c.1) (C := RX12) (T := TX12) (N := 40) hx hb hts inX12 hown hK hP 0 rfl rfl 15 (by decide) k3 (fun _ h9 => h9) rfl dX12_rest_109 ?_
        refine lv_bipush (v := 30) hx hb dX12_rest_112 (by decide +kernel) ?_
        refine lv_icmp_ne (tgt := 120) hx hb dX12_rest_114 (by decide) (fun c7 => ?_) (fun c7 => ?_)
        · have hE := if_f c7 hE
          refine lv_aload_n hx hb dX12_rest_120 rfl (lv_at hl 1 rfl) ?_
          refine lv_dup hx hb dX12_rest_121 rfl ?_
          refine va_get (D := D) (ci := 10) (v := .int s.1) (C := RX12) (T := TX12) (N := 40) hx hb hts inX12 hown hK hP 0 rfl rfl 9 (by decide) k2 (fun _ h9 => h9) rfl dX12_rest_122 ?_
          refine lv_iconst (v := 1) hx hb dX12_rest_125 (by decide +kernel) ?_
          refine lv_isub hx hb dX12_rest_126 ?_
          refine va_put (D := D) (ci := 10) (v := .int (s.1 - 1)) (ty := .int) (C := RX12) (T := TX12) (N := 40) hx hb hts inX12 tyX12 tyX12_ok nmX12 hown hK hP hD hS 0 rfl rfl 9 (by decide) k2 (fun _ h9 => h9) rfl (by decide +kernel) rfl rfl (Nat.le_of_ble_eq_true rfl) dX12_rest_127 (fun H locs hP hD hS => ?_)
          have hP : va_P D vwCl (wX g cA t ((s.1 - 1, s.2)) r c y d k q o m) H := hP
          have hD : va_D A (wX g cA t ((s.1 - 1, s.2)) r c y d k q o m) := hD
          refine lv_aload_n hx hb dX12_rest_130 rfl (lv_at hl 1 rfl) ?_
          refine lv_iconst (v := 0) hx hb dX12_rest_131 (by decide +kernel) ?_
          refine lv_aload_n hx hb dX12_rest_132 rfl (lv_at hl 1 rfl) ?_
          refine va_get (D := D) (ci := 10) (v := .int (s.1 - 1)) (C := RX12) (T := TX12) (N := 40) hx hb hts inX12 hown hK hP 0 rfl rfl 9 (by decide) k2 (fun _ h9 => h9) rfl dX12_rest_133 ?_
          refine lv_aload_n hx hb dX12_rest_136 rfl (lv_at hl 1 rfl) ?_
          refine va_get (D := D) (ci := 10) (v := .int r.1) (C := RX12) (T := TX12) (N := 40) hx hb hts inX12 hown hK hP 0 rfl rfl 11 (by decide) k4 (fun _ h9 => h9) rfl dX12_rest_137 ?_
          obtain ⟨u8, h9, hE⟩ := bd_some hE
          refine cw_i (As := [.int 0, .int (s.1 - 1), .int r.1]) (rest := []) (r := u8.1) (wc := (wX g cA t (((s.1 - 1, s.2))) r c y d k q o m)) ⟨hx, hb, hml, hown, hts⟩ (c_X12_call l D cA g H.size 0 (s.1 - 1) r.1 t ((s.1 - 1, s.2)) r c y d k q o m u8 h9) (cwV 3 hts hX12_rest_X12_call_386 rfl rfl rfl (by decide +kernel) ⟨Nat.le_of_ble_eq_true rfl, Nat.le_of_ble_eq_true rfl⟩) rfl hl.1 rfl (Nat.le_of_ble_eq_true rfl) dX12_rest_140 ⟨Nat.zero_le _, Nat.zero_le _⟩ hK hP hD hS hA (va_recv hK hP (ci := 10) (q0 := 0) rfl rfl) [g 0, g 1, g 2, g 3, g 4, g 5, g 6, g 7, g 8, g 9, g 10, g 11, g 12, g 13, g 14, g 15, g 16, g 17, g 18, g 19] rfl rfl (fun _ _ _ _ h => h) (fun _ _ _ => trivial) (fun H locs hP hD hS => ?_)
          have hP : va_P D vwCl (wX g cA t ((s.1 - 1, s.2)) r u8.2 y d k q o m) H := hP
          have hD : va_D A (wX g cA t ((s.1 - 1, s.2)) r u8.2 y d k q o m) := hD
          refine lv_pop hx hb dX12_rest_143 rfl ?_
          refine lv_aload_n hx hb dX12_rest_144 rfl (lv_at hl 1 rfl) ?_
          refine lv_iload_n hx hb dX12_rest_145 rfl (lv_at hl 0 rfl) ?_
          refine va_put (D := D) (ci := 10) (v := .int (s.2 ((s.1 - 1).toNatClampNeg))) (ty := .int) (C := RX12) (T := TX12) (N := 40) hx hb hts inX12 tyX12 tyX12_ok nmX12 hown hK hP hD hS 0 rfl rfl 37 (by decide) k5 (fun _ h9 => h9) rfl (by decide +kernel) rfl rfl (Nat.le_of_ble_eq_true rfl) dX12_rest_146 (fun H locs hP hD hS => ?_)
          have hP : va_P D vwCl (wX g cA t ((s.1 - 1, s.2)) r u8.2 y d k q o ((m.1, m.2.1, m.2.2.1, m.2.2.2.1, s.2 ((s.1 - 1).toNatClampNeg), m.2.2.2.2.2.1, m.2.2.2.2.2.2))) H := hP
          have hD : va_D A (wX g cA t ((s.1 - 1, s.2)) r u8.2 y d k q o ((m.1, m.2.1, m.2.2.1, m.2.2.2.1, s.2 ((s.1 - 1).toNatClampNeg), m.2.2.2.2.2.1, m.2.2.2.2.2.2))) := hD
          refine lv_iconst (v := 0) hx hb dX12_rest_149 (by decide +kernel) ?_
          obtain rfl := Option.some.inj hE
          exact rt_i hx hb hr hP hS rfl hlocks dX12_rest_150
        · have hE := if_t c7 hE
          refine lv_bipush (v := (-5)) hx hb dX12_rest_117 (by decide +kernel) ?_
          obtain rfl := Option.some.inj hE
          exact rt_i hx hb hr hP hS rfl hlocks dX12_rest_119
      · have hE := if_t c6 hE
        refine lv_bipush (v := (-9)) hx hb dX12_rest_105 (by decide +kernel) ?_
        obtain rfl := Option.some.inj hE
        exact rt_i hx hb hr hP hS rfl hlocks dX12_rest_107
    · have hE := if_t c3 hE
      refine lv_aload_n hx hb dX12_rest_85 rfl (lv_at hl 1 rfl) ?_
      refine lv_dup hx hb dX12_rest_86 rfl ?_
      refine va_get (D := D) (ci := 10) (v := .int s.1) (C := RX12) (T := TX12) (N := 40) hx hb hts inX12 hown hK hP 0 rfl rfl 9 (by decide) k2 (fun _ h9 => h9) rfl dX12_rest_87 ?_
      refine lv_iconst (v := 1) hx hb dX12_rest_90 (by decide +kernel) ?_
      refine lv_isub hx hb dX12_rest_91 ?_
      refine va_put (D := D) (ci := 10) (v := .int (s.1 - 1)) (ty := .int) (C := RX12) (T := TX12) (N := 40) hx hb hts inX12 tyX12 tyX12_ok nmX12 hown hK hP hD hS 0 rfl rfl 9 (by decide) k2 (fun _ h9 => h9) rfl (by decide +kernel) rfl rfl (Nat.le_of_ble_eq_true rfl) dX12_rest_92 (fun H locs hP hD hS => ?_)
      have hP : va_P D vwCl (wX g cA t ((s.1 - 1, s.2)) r c y d k q o m) H := hP
      have hD : va_D A (wX g cA t ((s.1 - 1, s.2)) r c y d k q o m) := hD
      refine lv_iload_n hx hb dX12_rest_95 rfl (lv_at hl 0 rfl) ?_
      obtain rfl := Option.some.inj hE
      exact rt_i hx hb hr hP hS rfl hlocks dX12_rest_96
  · have hE := if_t c1 hE
    exact w6 FU t s r c d m H locs ls hP hD hS (lv_sub hl [0] rfl) hE
set_option maxRecDepth 20000 in
theorem hX12_done_X12_madeWord_347 : GoodIn wsX12_done (wsV RX12 347 RX12 yX12_madeWord wsX12_madeWord) := goodIn_r _ [6, 7, 8, 9, 10, 11, 1, 12, 4, 13, 14, 15, 16, 17, 9, 18, 19, 2, 20, 21, 22, 23, 24, 25, 177, 178, 179, 180, 181, 182, 183, 184, 185, 186, 187, 188, 189, 190, 191, 192, 193, 194, 195, 196, 197, 198, 199, 200, 201, 202, 203, 204, 205, 206, 207, 208, 209, 210, 211, 212, 213, 214, 215, 216] rfl (by decide +kernel)
set_option maxRecDepth 20000 in
theorem hX12_done_X12_isStarred_350 : GoodIn wsX12_done (wsS RX12 350 yX12_isStarred wsX12_isStarred) := goodIn_r _ [26, 27, 9, 28] rfl (by decide +kernel)
set_option maxRecDepth 20000 in
theorem hX12_done_X12_wants_353 : GoodIn wsX12_done (wsS RX12 353 yX12_wants wsX12_wants) := goodIn_r _ [29, 30, 9, 31] rfl (by decide +kernel)
set_option maxRecDepth 20000 in
theorem hX12_done_X12_wantsStore_356 : GoodIn wsX12_done (wsS RX12 356 yX12_wantsStore wsX12_wantsStore) := goodIn_r _ [32, 33, 9, 34] rfl (by decide +kernel)
set_option maxRecDepth 20000 in
theorem hX12_done_X12_inner_359 : GoodIn wsX12_done (wsV RX12 359 RX12 yX12_inner wsX12_inner) := goodIn_r _ [35, 36, 37, 9, 38, 1, 19, 5, 39, 40, 11, 14, 4, 13, 41, 42, 43, 9, 44, 25, 21, 22, 23, 24, 45, 46, 47, 48, 177, 178, 179, 180, 181, 182, 183, 184, 185, 186, 187, 188, 189, 190, 191, 192, 193, 194, 195, 196, 197, 198, 199, 200, 201, 202, 203, 204, 205, 206, 207, 208, 209, 210, 211, 212, 213, 214, 215, 216] rfl (by decide +kernel)
set_option maxRecDepth 20000 in
theorem hX12_done_X12_moves_362 : GoodIn wsX12_done (wsV RX12 362 RX12 yX12_moves wsX12_moves) := goodIn_r _ [49, 50, 51, 9, 52, 4, 25, 21, 22, 23, 9, 24, 53, 54, 55, 56, 57, 58, 59, 60, 5, 39, 41, 42, 43, 44, 177, 178, 179, 180, 181, 182, 183, 184, 185, 186, 187, 188, 189, 190, 191, 192, 193, 194, 195, 196, 197, 198, 199, 200, 201, 202, 203, 204, 205, 206, 207, 208, 209, 210, 211, 212, 213, 214, 215, 216] rfl (by decide +kernel)
set_option maxRecDepth 20000 in
theorem hX12_done_X12_reckons_365 : GoodIn wsX12_done (wsV RX12 365 RX12 yX12_reckons wsX12_reckons) := goodIn_r _ [61, 62, 63, 9, 64, 25, 4, 177, 178, 179, 180, 181, 182, 183, 184, 185, 186, 187, 188, 189, 190, 191, 192, 193, 194, 195, 196, 197, 198, 199, 200, 201, 202, 203, 204, 205, 206, 207, 208, 209, 210, 211, 212, 213, 214, 215, 216] rfl (by decide +kernel)
set_option maxRecDepth 20000 in
theorem hX12_done_X12_compares_368 : GoodIn wsX12_done (wsV RX12 368 RX12 yX12_compares wsX12_compares) := goodIn_r _ [65, 66, 67, 9, 68, 69, 41, 42, 43, 9, 44, 4, 25, 70, 71, 72, 73, 21, 22, 23, 24, 177, 178, 179, 180, 181, 182, 183, 184, 185, 186, 187, 188, 189, 190, 191, 192, 193, 194, 195, 196, 197, 198, 199, 200, 201, 202, 203, 204, 205, 206, 207, 208, 209, 210, 211, 212, 213, 214, 215, 216] rfl (by decide +kernel)
set_option maxRecDepth 20000 in
theorem hX12_done_X12_keeps_371 : GoodIn wsX12_done (wsV RX12 371 RX12 yX12_keeps wsX12_keeps) := goodIn_r _ [74, 75, 76, 9, 77, 4, 25, 13, 78, 41, 42, 43, 9, 44, 79, 80, 81, 82, 21, 22, 23, 24, 83, 84, 85, 86, 87, 88, 89, 90, 91, 92, 93, 177, 178, 179, 180, 181, 182, 183, 184, 185, 186, 187, 188, 189, 190, 191, 192, 193, 194, 195, 196, 197, 198, 199, 200, 201, 202, 203, 204, 205, 206, 207, 208, 209, 210, 211, 212, 213, 214, 215, 216] rfl (by decide +kernel)
set_option maxRecDepth 20000 in
theorem hX12_done_X12_makes_374 : GoodIn wsX12_done (wsV RX12 374 RX12 yX12_makes wsX12_makes) := goodIn_r _ [94, 95, 96, 9, 97, 98, 78, 99, 40, 100, 3, 101, 79, 80, 81, 9, 82, 13, 102, 103, 104, 105, 12, 11, 14, 106, 107, 108, 109, 110, 111, 112, 113, 114, 115, 116, 117, 118, 119, 120, 121, 122, 123, 124, 125, 41, 42, 43, 44, 4, 25, 177, 178, 179, 180, 181, 182, 183, 184, 185, 186, 187, 188, 189, 190, 191, 192, 193, 194, 195, 196, 197, 198, 199, 200, 201, 202, 203, 204, 205, 206, 207, 208, 209, 210, 211, 212, 213, 214, 215, 216] rfl (by decide +kernel)
set_option maxRecDepth 20000 in
theorem hX12_done_X12_tells_377 : GoodIn wsX12_done (wsV RX12 377 RX12 yX12_tells wsX12_tells) := goodIn_r _ [126, 127, 128, 9, 129, 25, 4, 40, 130, 100, 3, 78, 112, 113, 114, 9, 115, 107, 116, 117, 118, 119, 120, 121, 110, 122, 123, 124, 125, 109, 131, 132, 133, 134, 135, 136, 137, 138, 139, 140, 141, 142, 143, 99, 106, 108, 144, 145, 146, 147, 21, 22, 23, 24, 41, 42, 43, 44, 148, 149, 150, 151, 101, 79, 80, 81, 82, 13, 177, 178, 179, 180, 181, 182, 183, 184, 185, 186, 187, 188, 189, 190, 191, 192, 193, 194, 195, 196, 197, 198, 199, 200, 201, 202, 203, 204, 205, 206, 207, 208, 209, 210, 211, 212, 213, 214, 215, 216] rfl (by decide +kernel)
set_option maxRecDepth 20000 in
theorem hX12_done_X12_shapes_380 : GoodIn wsX12_done (wsV RX12 380 RX12 yX12_shapes wsX12_shapes) := goodIn_r _ [152, 153, 154, 9, 155, 98, 78, 156, 13, 157, 158, 9, 159, 160, 161, 162, 163, 164, 165, 166, 167, 168, 79, 80, 81, 82, 169, 170, 171, 172, 177, 178, 179, 180, 181, 182, 183, 184, 185, 186, 187, 188, 189, 190, 191, 192, 193, 194, 195, 196, 197, 198, 199, 200, 201, 202, 203, 204, 205, 206, 207, 208, 209, 210, 211, 212, 213, 214, 215, 216] rfl (by decide +kernel)
set_option maxRecDepth 20000 in
theorem hX12_done_X12_rest_383 : GoodIn wsX12_done (wsV RX12 383 RX12 yX12_rest wsX12_rest) := goodIn_r _ [173, 174, 175, 9, 176, 120, 121, 109, 25, 4, 1, 5, 130, 144, 145, 146, 9, 147, 40, 15, 16, 17, 18, 19, 2, 20, 177, 178, 179, 180, 181, 182, 183, 184, 185, 186, 187, 188, 189, 190, 191, 192, 193, 194, 195, 196, 197, 198, 199, 200, 201, 202, 203, 204, 205, 206, 207, 208, 209, 210, 211, 212, 213, 214, 215, 216] rfl (by decide +kernel)
set_option maxHeartbeats 4000000 in
set_option maxRecDepth 100000 in
theorem c_X12_done (l : Launch) (D : va_G) (cA : Nat → ClassId) (g : Nat → Nat) (sz : Nat) (x1 : Int32) (t : mT) (s : mS) (r : mR) (c : mC) (y : mY) (d : mD) (k : mK) (q : mP) (o : mO) (m : mM) (u : Int32 × mT × mS × mR × mC × mY × mD × mK × mP × mO × mM) (hE : f_X12_done x1 t s r c y d k q o m = some u) : Met l yX12_done wsX12_done ({ frames := 5, cells := 0, slots := 0, locals := 105 }) (va_Pc [.ref (g 0), .int x1] (PRE D cA (wX g cA t s r c y d k q o m) sz (fun _ => True))) (cQi D (wX g cA u.2.1 u.2.2.1 u.2.2.2.1 u.2.2.2.2.1 u.2.2.2.2.2.1 u.2.2.2.2.2.2.1 u.2.2.2.2.2.2.2.1 u.2.2.2.2.2.2.2.2.1 u.2.2.2.2.2.2.2.2.2.1 u.2.2.2.2.2.2.2.2.2.2) (va_A (wX g cA t s r c y d k q o m) sz) u.1) 0 0 (va_A (wX g cA t s r c y d k q o m) sz) := by
  refine Met.ofW (cc := cX12_done) (maxL := 3) (ret := (some .int)) (by decide) rfl ?_
  intro PP EE S0 MM args below meth CC S1 B hml hv
  obtain ⟨rfl, hsz, hP, hK, hD0, hX⟩ := hv
  have hx := B.exec
  have hb := B.bytes
  have hr := B.returns
  have hts := atoms_spec (ws := wsX12_done) B.pre
  have hown : S0.vm.findClass RX12 = some MM.cls := findClass_of_methodNamed B.named
  have hlocks := B.notSynchronized
  subst hsz
  have hD := hD0.self (sz := S0.heap.size)
  generalize hAe : va_A (wX g cA t s r c y d k q o m) S0.heap.size = A at hD ⊢
  have hA : ∀ q : Nat, S0.heap.size ≤ q → A q := fun q h => by rw [← hAe]; exact Or.inr h
  have hS : va_S A S0.heap S0.heap [] := va_S.rf
  have k0 := hts (.fieldLink RX12 311 "WordForgeModel" "calls" "I") (List.mem_of_getElem? (i := 1) rfl)
  have inX12 : ∀ w ∈ wsX120, w ∈ wsX12_done := fun _ h => List.mem_cons_of_mem _ (List.mem_append_right _ h)
  have k2 := hts (.fieldLink RX12 178 "WordForgeModel" "hadStack" "[I") (List.mem_of_getElem? (i := 2) rfl)
  have k3 := hts (.fieldLink RX12 270 "WordForgeModel" "compiling" "Z") (List.mem_of_getElem? (i := 3) rfl)
  have k4 := hts (.fieldLink RX12 293 "WordForgeModel" "depth" "I") (List.mem_of_getElem? (i := 4) rfl)
  have k5 := hts (.fieldLink RX12 335 "WordForgeModel" "deep" "I") (List.mem_of_getElem? (i := 5) rfl)
  have hl := lv_entry ([.ref (g 0), .int x1]) (n := 3) (Nat.le_of_ble_eq_true rfl)
  rw [lg_entry_eq]
  generalize (lg_sl ([.ref (g 0), .int x1]) ++ List.replicate (3 - (lg_sl ([.ref (g 0), .int x1])).length) Slot.unset).toArray = ls at hl ⊢
  have hl : lv_has ls 3 [(0, .ref (g 0)), (1, .int x1)] := hl
  have w69 : ∀ (y1 : Int32) (t : mT) (s : mS) (r : mR) (c : mC) (y : mY) (d : mD) (k : mK) (q : mP) (o : mO) (m : mM) (H : Heap) (locs : List Loc) (ls : Array Slot), va_P D vwCl (wX g cA t s r c y d k q o m) H → va_D A (wX g cA t s r c y d k q o m) → va_S A S0.heap H locs → lv_has ls 3 [(0, .ref (g 0)), (1, .int y1)] → b_X12_done_69  y1 t s r c y d k q o m = some u → W PP l EE (headSpec wsX12_done ({ frames := 5, cells := 0, slots := 0, locals := 105 })).room S0 MM (#[.ref (g 0), .int x1] : Array Value) below meth CC H locs 0 0 (MQ below (cQi D (wX g cA u.2.1 u.2.2.1 u.2.2.2.1 u.2.2.2.2.1 u.2.2.2.2.2.1 u.2.2.2.2.2.2.1 u.2.2.2.2.2.2.2.1 u.2.2.2.2.2.2.2.2.1 u.2.2.2.2.2.2.2.2.2.1 u.2.2.2.2.2.2.2.2.2.2) A u.1) (#[.ref (g 0), .int x1] : Array Value) S0 0 0 A) (F0 MM 69 ls []) := by
    intro y1 t s r c y d k q o m
    intro H locs ls hP hD hS hl hE
    unfold b_X12_done_69 at hE
    refine lv_aload_n hx hb dX12_done_69 rfl (lv_at hl 0 rfl) ?_
    refine va_get (D := D) (ci := 10) (v := .int s.1) (C := RX12) (T := TX12) (N := 40) hx hb hts inX12 hown hK hP 0 rfl rfl 9 (by decide) k4 (fun _ h9 => h9) rfl dX12_done_70 ?_
    refine lv_iload_n hx hb dX12_done_73 rfl (lv_at hl 1 rfl) ?_
    obtain ⟨u13, h14, hE⟩ := bd_some hE
    refine cs_i (As := [.int y1]) (rest := [.int s.1]) (r := u13) ⟨hx, hb, hml, hown, hts⟩ (c_X12_wants l y1 H.size u13 h14) (cwS 1 hts hX12_done_X12_wants_353 rfl rfl rfl (by decide +kernel) ⟨Nat.le_of_ble_eq_true rfl, Nat.le_of_ble_eq_true rfl⟩) rfl hl.1 rfl (Nat.le_of_ble_eq_true rfl) dX12_done_74 ⟨Nat.zero_le _, Nat.zero_le _⟩ hP hD hS hA (fun H locs hP hD hS => ?_)
    refine lv_icmp_ge (tgt := 83) hx hb dX12_done_77 (by decide) (fun c15 => ?_) (fun c15 => ?_)
    · have hE := if_t c15 hE
      refine lv_aload_n hx hb dX12_done_83 rfl (lv_at hl 0 rfl) ?_
      refine va_get (D := D) (ci := 10) (v := .int r.1) (C := RX12) (T := TX12) (N := 40) hx hb hts inX12 hown hK hP 0 rfl rfl 11 (by decide) k5 (fun _ h9 => h9) rfl dX12_done_84 ?_
      refine lv_iload_n hx hb dX12_done_87 rfl (lv_at hl 1 rfl) ?_
      obtain ⟨u16, h17, hE⟩ := bd_some hE
      refine cs_i (As := [.int y1]) (rest := [.int r.1]) (r := u16) ⟨hx, hb, hml, hown, hts⟩ (c_X12_wantsStore l y1 H.size u16 h17) (cwS 1 hts hX12_done_X12_wantsStore_356 rfl rfl rfl (by decide +kernel) ⟨Nat.le_of_ble_eq_true rfl, Nat.le_of_ble_eq_true rfl⟩) rfl hl.1 rfl (Nat.le_of_ble_eq_true rfl) dX12_done_88 ⟨Nat.zero_le _, Nat.zero_le _⟩ hP hD hS hA (fun H locs hP hD hS => ?_)
      refine lv_icmp_ge (tgt := 97) hx hb dX12_done_91 (by decide) (fun c18 => ?_) (fun c18 => ?_)
      · have hE := if_t c18 hE
        refine lv_iload_n hx hb dX12_done_97 rfl (lv_at hl 1 rfl) ?_
        refine lv_bipush (v := 8) hx hb dX12_done_98 (by decide +kernel) ?_
        refine lv_icmp_ge (tgt := 109) hx hb dX12_done_100 (by decide) (fun c19 => ?_) (fun c19 => ?_)
        · have hE := if_t c19 hE
          refine lv_iload_n hx hb dX12_done_109 rfl (lv_at hl 1 rfl) ?_
          refine lv_bipush (v := 23) hx hb dX12_done_110 (by decide +kernel) ?_
          refine lv_icmp_ge (tgt := 121) hx hb dX12_done_112 (by decide) (fun c20 => ?_) (fun c20 => ?_)
          · have hE := if_t c20 hE
            refine lv_iload_n hx hb dX12_done_121 rfl (lv_at hl 1 rfl) ?_
            refine lv_bipush (v := 36) hx hb dX12_done_122 (by decide +kernel) ?_
            refine lv_icmp_ge (tgt := 133) hx hb dX12_done_124 (by decide) (fun c21 => ?_) (fun c21 => ?_)
            · have hE := if_t c21 hE
              refine lv_iload_n hx hb dX12_done_133 rfl (lv_at hl 1 rfl) ?_
              refine lv_bipush (v := 44) hx hb dX12_done_134 (by decide +kernel) ?_
              refine lv_icmp_ge (tgt := 145) hx hb dX12_done_136 (by decide) (fun c22 => ?_) (fun c22 => ?_)
              · have hE := if_t c22 hE
                refine lv_iload_n hx hb dX12_done_145 rfl (lv_at hl 1 rfl) ?_
                refine lv_bipush (v := 53) hx hb dX12_done_146 (by decide +kernel) ?_
                refine lv_icmp_ge (tgt := 157) hx hb dX12_done_148 (by decide) (fun c23 => ?_) (fun c23 => ?_)
                · have hE := if_t c23 hE
                  refine lv_iload_n hx hb dX12_done_157 rfl (lv_at hl 1 rfl) ?_
                  refine lv_bipush (v := 60) hx hb dX12_done_158 (by decide +kernel) ?_
                  refine lv_icmp_ge (tgt := 169) hx hb dX12_done_160 (by decide) (fun c24 => ?_) (fun c24 => ?_)
                  · have hE := if_t c24 hE
                    refine lv_iload_n hx hb dX12_done_169 rfl (lv_at hl 1 rfl) ?_
                    refine lv_bipush (v := 69) hx hb dX12_done_170 (by decide +kernel) ?_
                    refine lv_icmp_ge (tgt := 181) hx hb dX12_done_172 (by decide) (fun c25 => ?_) (fun c25 => ?_)
                    · have hE := if_t c25 hE
                      refine lv_iload_n hx hb dX12_done_181 rfl (lv_at hl 1 rfl) ?_
                      refine lv_bipush (v := 79) hx hb dX12_done_182 (by decide +kernel) ?_
                      refine lv_icmp_ge (tgt := 195) hx hb dX12_done_184 (by decide) (fun c26 => ?_) (fun c26 => ?_)
                      · have hE := if_t c26 hE
                        refine lv_aload_n hx hb dX12_done_195 rfl (lv_at hl 0 rfl) ?_
                        refine lv_iload_n hx hb dX12_done_196 rfl (lv_at hl 1 rfl) ?_
                        obtain ⟨u27, h28, hE⟩ := bd_some hE
                        refine cw_i (As := [.int y1]) (rest := []) (r := u27.1) (wc := (wX g cA t s r c y d k q o m)) ⟨hx, hb, hml, hown, hts⟩ (c_X12_rest l D cA g H.size y1 t s r c y d k q o m u27 h28) (cwV 1 hts hX12_done_X12_rest_383 rfl rfl rfl (by decide +kernel) ⟨Nat.le_of_ble_eq_true rfl, Nat.le_of_ble_eq_true rfl⟩) rfl hl.1 rfl (Nat.le_of_ble_eq_true rfl) dX12_done_197 ⟨Nat.zero_le _, Nat.zero_le _⟩ hK hP hD hS hA (va_recv hK hP (ci := 10) (q0 := 0) rfl rfl) [g 0, g 1, g 2, g 3, g 4, g 5, g 6, g 7, g 8, g 9, g 10, g 11, g 12, g 13, g 14, g 15, g 16, g 17, g 18, g 19] rfl rfl (fun _ _ _ _ h => h) (fun _ _ _ => trivial) (fun H locs hP hD hS => ?_)
                        have hP : va_P D vwCl (wX g cA u27.2.1 u27.2.2.1 r u27.2.2.2.1 y d k q o u27.2.2.2.2) H := hP
                        have hD : va_D A (wX g cA u27.2.1 u27.2.2.1 r u27.2.2.2.1 y d k q o u27.2.2.2.2) := hD
                        obtain rfl := Option.some.inj hE
                        exact rt_i hx hb hr hP hS rfl hlocks dX12_done_200
                      · have hE := if_f c26 hE
                        refine lv_aload_n hx hb dX12_done_187 rfl (lv_at hl 0 rfl) ?_
                        refine lv_iload_n hx hb dX12_done_188 rfl (lv_at hl 1 rfl) ?_
                        obtain ⟨u29, h30, hE⟩ := bd_some hE
                        refine cw_i (As := [.int y1]) (rest := []) (r := u29.1) (wc := (wX g cA t s r c y d k q o m)) ⟨hx, hb, hml, hown, hts⟩ (c_X12_shapes l D cA g H.size y1 t s r c y d k q o m u29 h30) (cwV 1 hts hX12_done_X12_shapes_380 rfl rfl rfl (by decide +kernel) ⟨Nat.le_of_ble_eq_true rfl, Nat.le_of_ble_eq_true rfl⟩) rfl hl.1 rfl (Nat.le_of_ble_eq_true rfl) dX12_done_189 ⟨Nat.zero_le _, Nat.zero_le _⟩ hK hP hD hS hA (va_recv hK hP (ci := 10) (q0 := 0) rfl rfl) [g 0, g 1, g 2, g 3, g 4, g 5, g 6, g 7, g 8, g 9, g 10, g 11, g 12, g 13, g 14, g 15, g 16, g 17, g 18, g 19] rfl rfl (fun _ _ _ _ h => h) (fun _ _ _ => trivial) (fun H locs hP hD hS => ?_)
                        have hP : va_P D vwCl (wX g cA t s r c u29.2.1 d k u29.2.2 o m) H := hP
                        have hD : va_D A (wX g cA t s r c u29.2.1 d k u29.2.2 o m) := hD
                        refine lv_goto (tgt := 200) hx hb dX12_done_192 (by decide) ?_
                        obtain rfl := Option.some.inj hE
                        exact rt_i hx hb hr hP hS rfl hlocks dX12_done_200
                    · have hE := if_f c25 hE
                      refine lv_aload_n hx hb dX12_done_175 rfl (lv_at hl 0 rfl) ?_
                      refine lv_iload_n hx hb dX12_done_176 rfl (lv_at hl 1 rfl) ?_
                      obtain ⟨u31, h32, hE⟩ := bd_some hE
                      refine cw_i (As := [.int y1]) (rest := []) (r := u31.1) (wc := (wX g cA t s r c y d k q o m)) ⟨hx, hb, hml, hown, hts⟩ (c_X12_tells l D cA g H.size y1 t s r c y d k q o m u31 h32) (cwV 1 hts hX12_done_X12_tells_377 rfl rfl rfl (by decide +kernel) ⟨Nat.le_of_ble_eq_true rfl, Nat.le_of_ble_eq_true rfl⟩) rfl hl.1 rfl (Nat.le_of_ble_eq_true rfl) dX12_done_177 ⟨Nat.zero_le _, Nat.zero_le _⟩ hK hP hD hS hA (va_recv hK hP (ci := 10) (q0 := 0) rfl rfl) [g 0, g 1, g 2, g 3, g 4, g 5, g 6, g 7, g 8, g 9, g 10, g 11, g 12, g 13, g 14, g 15, g 16, g 17, g 18, g 19] rfl rfl (fun _ _ _ _ h => h) (fun _ _ _ => trivial) (fun H locs hP hD hS => ?_)
                      have hP : va_P D vwCl (wX g cA u31.2.1 u31.2.2.1 r c u31.2.2.2.1 d u31.2.2.2.2.1 q o u31.2.2.2.2.2) H := hP
                      have hD : va_D A (wX g cA u31.2.1 u31.2.2.1 r c u31.2.2.2.1 d u31.2.2.2.2.1 q o u31.2.2.2.2.2) := hD
                      obtain rfl := Option.some.inj hE
                      exact rt_i hx hb hr hP hS rfl hlocks dX12_done_180
                  · have hE := if_f c24 hE
                    refine lv_aload_n hx hb dX12_done_163 rfl (lv_at hl 0 rfl) ?_
                    refine lv_iload_n hx hb dX12_done_164 rfl (lv_at hl 1 rfl) ?_
                    obtain ⟨u33, h34, hE⟩ := bd_some hE
                    refine cw_i (As := [.int y1]) (rest := []) (r := u33.1) (wc := (wX g cA t s r c y d k q o m)) ⟨hx, hb, hml, hown, hts⟩ (c_X12_makes l D cA g H.size y1 t s r c y d k q o m u33 h34) (cwV 1 hts hX12_done_X12_makes_374 rfl rfl rfl (by decide +kernel) ⟨Nat.le_of_ble_eq_true rfl, Nat.le_of_ble_eq_true rfl⟩) rfl hl.1 rfl (Nat.le_of_ble_eq_true rfl) dX12_done_165 ⟨Nat.zero_le _, Nat.zero_le _⟩ hK hP hD hS hA (va_recv hK hP (ci := 10) (q0 := 0) rfl rfl) [g 0, g 1, g 2, g 3, g 4, g 5, g 6, g 7, g 8, g 9, g 10, g 11, g 12, g 13, g 14, g 15, g 16, g 17, g 18, g 19] rfl rfl (fun _ _ _ _ h => h) (fun _ _ _ => trivial) (fun H locs hP hD hS => ?_)
                    have hP : va_P D vwCl (wX g cA u33.2.1 u33.2.2.1 r c u33.2.2.2.1 u33.2.2.2.2.1 u33.2.2.2.2.2 q o m) H := hP
                    have hD : va_D A (wX g cA u33.2.1 u33.2.2.1 r c u33.2.2.2.1 u33.2.2.2.2.1 u33.2.2.2.2.2 q o m) := hD
                    obtain rfl := Option.some.inj hE
                    exact rt_i hx hb hr hP hS rfl hlocks dX12_done_168
                · have hE := if_f c23 hE
                  refine lv_aload_n hx hb dX12_done_151 rfl (lv_at hl 0 rfl) ?_
                  refine lv_iload_n hx hb dX12_done_152 rfl (lv_at hl 1 rfl) ?_
                  obtain ⟨u35, h36, hE⟩ := bd_some hE
                  refine cw_i (As := [.int y1]) (rest := []) (r := u35.1) (wc := (wX g cA t s r c y d k q o m)) ⟨hx, hb, hml, hown, hts⟩ (c_X12_keeps l D cA g H.size y1 t s r c y d k q o m u35 h36) (cwV 1 hts hX12_done_X12_keeps_371 rfl rfl rfl (by decide +kernel) ⟨Nat.le_of_ble_eq_true rfl, Nat.le_of_ble_eq_true rfl⟩) rfl hl.1 rfl (Nat.le_of_ble_eq_true rfl) dX12_done_153 ⟨Nat.zero_le _, Nat.zero_le _⟩ hK hP hD hS hA (va_recv hK hP (ci := 10) (q0 := 0) rfl rfl) [g 0, g 1, g 2, g 3, g 4, g 5, g 6, g 7, g 8, g 9, g 10, g 11, g 12, g 13, g 14, g 15, g 16, g 17, g 18, g 19] rfl rfl (fun _ _ _ _ h => h) (fun _ _ _ => trivial) (fun H locs hP hD hS => ?_)
                  have hP : va_P D vwCl (wX g cA t u35.2.1 r c u35.2.2.1 d k q u35.2.2.2 m) H := hP
                  have hD : va_D A (wX g cA t u35.2.1 r c u35.2.2.1 d k q u35.2.2.2 m) := hD
                  obtain rfl := Option.some.inj hE
                  exact rt_i hx hb hr hP hS rfl hlocks dX12_done_156
              · have hE := if_f c22 hE
                refine lv_aload_n hx hb dX12_done_139 rfl (lv_at hl 0 rfl) ?_
                refine lv_iload_n hx hb dX12_done_140 rfl (lv_at hl 1 rfl) ?_
                obtain ⟨u37, h38, hE⟩ := bd_some hE
                refine cw_i (As := [.int y1]) (rest := []) (r := u37.1) (wc := (wX g cA t s r c y d k q o m)) ⟨hx, hb, hml, hown, hts⟩ (c_X12_compares l D cA g H.size y1 t s r c y d k q o m u37 h38) (cwV 1 hts hX12_done_X12_compares_368 rfl rfl rfl (by decide +kernel) ⟨Nat.le_of_ble_eq_true rfl, Nat.le_of_ble_eq_true rfl⟩) rfl hl.1 rfl (Nat.le_of_ble_eq_true rfl) dX12_done_141 ⟨Nat.zero_le _, Nat.zero_le _⟩ hK hP hD hS hA (va_recv hK hP (ci := 10) (q0 := 0) rfl rfl) [g 0, g 1, g 2, g 3, g 4, g 5, g 6, g 7, g 8, g 9, g 10, g 11, g 12, g 13, g 14, g 15, g 16, g 17, g 18, g 19] rfl rfl (fun _ _ _ _ h => h) (fun _ _ _ => trivial) (fun H locs hP hD hS => ?_)
                have hP : va_P D vwCl (wX g cA t u37.2 r c y d k q o m) H := hP
                have hD : va_D A (wX g cA t u37.2 r c y d k q o m) := hD
                obtain rfl := Option.some.inj hE
                exact rt_i hx hb hr hP hS rfl hlocks dX12_done_144
            · have hE := if_f c21 hE
              refine lv_aload_n hx hb dX12_done_127 rfl (lv_at hl 0 rfl) ?_
              refine lv_iload_n hx hb dX12_done_128 rfl (lv_at hl 1 rfl) ?_
              obtain ⟨u39, h40, hE⟩ := bd_some hE
              refine cw_i (As := [.int y1]) (rest := []) (r := u39.1) (wc := (wX g cA t s r c y d k q o m)) ⟨hx, hb, hml, hown, hts⟩ (c_X12_reckons l D cA g H.size y1 t s r c y d k q o m u39 h40) (cwV 1 hts hX12_done_X12_reckons_365 rfl rfl rfl (by decide +kernel) ⟨Nat.le_of_ble_eq_true rfl, Nat.le_of_ble_eq_true rfl⟩) rfl hl.1 rfl (Nat.le_of_ble_eq_true rfl) dX12_done_129 ⟨Nat.zero_le _, Nat.zero_le _⟩ hK hP hD hS hA (va_recv hK hP (ci := 10) (q0 := 0) rfl rfl) [g 0, g 1, g 2, g 3, g 4, g 5, g 6, g 7, g 8, g 9, g 10, g 11, g 12, g 13, g 14, g 15, g 16, g 17, g 18, g 19] rfl rfl (fun _ _ _ _ h => h) (fun _ _ _ => trivial) (fun H locs hP hD hS => ?_)
              have hP : va_P D vwCl (wX g cA t u39.2 r c y d k q o m) H := hP
              have hD : va_D A (wX g cA t u39.2 r c y d k q o m) := hD
              obtain rfl := Option.some.inj hE
              exact rt_i hx hb hr hP hS rfl hlocks dX12_done_132
          · have hE := if_f c20 hE
            refine lv_aload_n hx hb dX12_done_115 rfl (lv_at hl 0 rfl) ?_
            refine lv_iload_n hx hb dX12_done_116 rfl (lv_at hl 1 rfl) ?_
            obtain ⟨u41, h42, hE⟩ := bd_some hE
            refine cw_i (As := [.int y1]) (rest := []) (r := u41.1) (wc := (wX g cA t s r c y d k q o m)) ⟨hx, hb, hml, hown, hts⟩ (c_X12_moves l D cA g H.size y1 t s r c y d k q o m u41 h42) (cwV 1 hts hX12_done_X12_moves_362 rfl rfl rfl (by decide +kernel) ⟨Nat.le_of_ble_eq_true rfl, Nat.le_of_ble_eq_true rfl⟩) rfl hl.1 rfl (Nat.le_of_ble_eq_true rfl) dX12_done_117 ⟨Nat.zero_le _, Nat.zero_le _⟩ hK hP hD hS hA (va_recv hK hP (ci := 10) (q0 := 0) rfl rfl) [g 0, g 1, g 2, g 3, g 4, g 5, g 6, g 7, g 8, g 9, g 10, g 11, g 12, g 13, g 14, g 15, g 16, g 17, g 18, g 19] rfl rfl (fun _ _ _ _ h => h) (fun _ _ _ => trivial) (fun H locs hP hD hS => ?_)
            have hP : va_P D vwCl (wX g cA t u41.2.1 u41.2.2 c y d k q o m) H := hP
            have hD : va_D A (wX g cA t u41.2.1 u41.2.2 c y d k q o m) := hD
            obtain rfl := Option.some.inj hE
            exact rt_i hx hb hr hP hS rfl hlocks dX12_done_120
        · have hE := if_f c19 hE
          refine lv_aload_n hx hb dX12_done_103 rfl (lv_at hl 0 rfl) ?_
          refine lv_iload_n hx hb dX12_done_104 rfl (lv_at hl 1 rfl) ?_
          obtain ⟨u43, h44, hE⟩ := bd_some hE
          refine cw_i (As := [.int y1]) (rest := []) (r := u43.1) (wc := (wX g cA t s r c y d k q o m)) ⟨hx, hb, hml, hown, hts⟩ (c_X12_inner l D cA g H.size y1 t s r c y d k q o m u43 h44) (cwV 1 hts hX12_done_X12_inner_359 rfl rfl rfl (by decide +kernel) ⟨Nat.le_of_ble_eq_true rfl, Nat.le_of_ble_eq_true rfl⟩) rfl hl.1 rfl (Nat.le_of_ble_eq_true rfl) dX12_done_105 ⟨Nat.zero_le _, Nat.zero_le _⟩ hK hP hD hS hA (va_recv hK hP (ci := 10) (q0 := 0) rfl rfl) [g 0, g 1, g 2, g 3, g 4, g 5, g 6, g 7, g 8, g 9, g 10, g 11, g 12, g 13, g 14, g 15, g 16, g 17, g 18, g 19] rfl rfl (fun _ _ _ _ h => h) (fun _ _ _ => trivial) (fun H locs hP hD hS => ?_)
          have hP : va_P D vwCl (wX g cA t u43.2.1 u43.2.2.1 u43.2.2.2.1 y u43.2.2.2.2 k q o m) H := hP
          have hD : va_D A (wX g cA t u43.2.1 u43.2.2.1 u43.2.2.2.1 y u43.2.2.2.2 k q o m) := hD
          obtain rfl := Option.some.inj hE
          exact rt_i hx hb hr hP hS rfl hlocks dX12_done_108
      · have hE := if_f c18 hE
        refine lv_bipush (v := (-6)) hx hb dX12_done_94 (by decide +kernel) ?_
        obtain rfl := Option.some.inj hE
        exact rt_i hx hb hr hP hS rfl hlocks dX12_done_96
    · have hE := if_f c15 hE
      refine lv_bipush (v := (-4)) hx hb dX12_done_80 (by decide +kernel) ?_
      obtain rfl := Option.some.inj hE
      exact rt_i hx hb hr hP hS rfl hlocks dX12_done_82
  have w52 : ∀ (y1 : Int32) (t : mT) (s : mS) (r : mR) (c : mC) (y : mY) (d : mD) (k : mK) (q : mP) (o : mO) (m : mM) (H : Heap) (locs : List Loc) (ls : Array Slot), va_P D vwCl (wX g cA t s r c y d k q o m) H → va_D A (wX g cA t s r c y d k q o m) → va_S A S0.heap H locs → lv_has ls 3 [(0, .ref (g 0)), (1, .int y1)] → b_X12_done_52  y1 t s r c y d k q o m = some u → W PP l EE (headSpec wsX12_done ({ frames := 5, cells := 0, slots := 0, locals := 105 })).room S0 MM (#[.ref (g 0), .int x1] : Array Value) below meth CC H locs 0 0 (MQ below (cQi D (wX g cA u.2.1 u.2.2.1 u.2.2.2.1 u.2.2.2.2.1 u.2.2.2.2.2.1 u.2.2.2.2.2.2.1 u.2.2.2.2.2.2.2.1 u.2.2.2.2.2.2.2.2.1 u.2.2.2.2.2.2.2.2.2.1 u.2.2.2.2.2.2.2.2.2.2) A u.1) (#[.ref (g 0), .int x1] : Array Value) S0 0 0 A) (F0 MM 52 ls []) := by
    intro y1 t s r c y d k q o m
    intro H locs ls hP hD hS hl hE
    unfold b_X12_done_52 at hE
    refine lv_iload_n hx hb dX12_done_52 rfl (lv_at hl 1 rfl) ?_
    obtain ⟨u9, h10, hE⟩ := bd_some hE
    refine cs_i (As := [.int y1]) (rest := []) (r := u9) ⟨hx, hb, hml, hown, hts⟩ (c_X12_isStarred l y1 H.size u9 h10) (cwS 1 hts hX12_done_X12_isStarred_350 rfl rfl rfl (by decide +kernel) ⟨Nat.le_of_ble_eq_true rfl, Nat.le_of_ble_eq_true rfl⟩) rfl hl.1 rfl (Nat.le_of_ble_eq_true rfl) dX12_done_53 ⟨Nat.zero_le _, Nat.zero_le _⟩ hP hD hS hA (fun H locs hP hD hS => ?_)
    refine lv_if_eq (tgt := 69) hx hb dX12_done_56 (by decide) (fun c11 => ?_) (fun c11 => ?_)
    · have hE := if_t c11 hE
      exact w69  y1 t s r c y d k q o m H locs ls hP hD hS (lv_sub hl [0, 1] rfl) hE
    · have hE := if_f c11 hE
      refine lv_aload_n hx hb dX12_done_59 rfl (lv_at hl 0 rfl) ?_
      refine va_get (D := D) (ci := 10) (v := .int k) (C := RX12) (T := TX12) (N := 40) hx hb hts inX12 hown hK hP 0 rfl rfl 28 (by decide) k3 (fun _ h9 => h9) rfl dX12_done_60 ?_
      refine lv_if_ne (tgt := 69) hx hb dX12_done_63 (by decide) (fun c12 => ?_) (fun c12 => ?_)
      · have hE := if_f c12 hE
        exact w69  y1 t s r c y d k q o m H locs ls hP hD hS (lv_sub hl [0, 1] rfl) hE
      · have hE := if_t c12 hE
        refine lv_bipush (v := (-14)) hx hb dX12_done_66 (by decide +kernel) ?_
        obtain rfl := Option.some.inj hE
        exact rt_i hx hb hr hP hS rfl hlocks dX12_done_68
  have w41 : ∀ (y1 : Int32) (z0 : Int32) (t : mT) (s : mS) (r : mR) (c : mC) (y : mY) (d : mD) (k : mK) (q : mP) (o : mO) (m : mM) (H : Heap) (locs : List Loc) (ls : Array Slot), va_P D vwCl (wX g cA t s r c y d k q o m) H → va_D A (wX g cA t s r c y d k q o m) → va_S A S0.heap H locs → lv_has ls 3 [(0, .ref (g 0)), (1, .int y1)] → b_X12_done_41  y1 z0 t s r c y d k q o m = some u → W PP l EE (headSpec wsX12_done ({ frames := 5, cells := 0, slots := 0, locals := 105 })).room S0 MM (#[.ref (g 0), .int x1] : Array Value) below meth CC H locs 0 0 (MQ below (cQi D (wX g cA u.2.1 u.2.2.1 u.2.2.2.1 u.2.2.2.2.1 u.2.2.2.2.2.1 u.2.2.2.2.2.2.1 u.2.2.2.2.2.2.2.1 u.2.2.2.2.2.2.2.2.1 u.2.2.2.2.2.2.2.2.2.1 u.2.2.2.2.2.2.2.2.2.2) A u.1) (#[.ref (g 0), .int x1] : Array Value) S0 0 0 A) (F0 MM 41 ls [.int z0]) := by
    intro y1 z0 t s r c y d k q o m
    intro H locs ls hP hD hS hl hE
    unfold b_X12_done_41 at hE
    refine lv_istore_n (lv' := [(2, .int z0), (0, .ref (g 0)), (1, .int y1)]) hx hb dX12_done_41 rfl hl (by decide) rfl (fun ls hl => ?_)
    refine lv_iload_n hx hb dX12_done_42 rfl (lv_at hl 2 rfl) ?_
    refine lv_bipush (v := 8) hx hb dX12_done_43 (by decide +kernel) ?_
    refine lv_icmp_ge (tgt := 52) hx hb dX12_done_45 (by decide) (fun c7 => ?_) (fun c7 => ?_)
    · have hE := if_t c7 hE
      exact w52  y1 t s r c y d k q o m H locs ls hP hD hS (lv_sub hl [1, 2] rfl) hE
    · have hE := if_f c7 hE
      refine lv_iload_n hx hb dX12_done_48 rfl (lv_at hl 0 rfl) ?_
      refine lv_if_eq (tgt := 66) hx hb dX12_done_49 (by decide) (fun c8 => ?_) (fun c8 => ?_)
      · have hE := if_t c8 hE
        refine lv_bipush (v := (-14)) hx hb dX12_done_66 (by decide +kernel) ?_
        obtain rfl := Option.some.inj hE
        exact rt_i hx hb hr hP hS rfl hlocks dX12_done_68
      · have hE := if_f c8 hE
        exact w52  y1 t s r c y d k q o m H locs ls hP hD hS (lv_sub hl [1, 2] rfl) hE
  have w40 : ∀ (y1 : Int32) (t : mT) (s : mS) (r : mR) (c : mC) (y : mY) (d : mD) (k : mK) (q : mP) (o : mO) (m : mM) (H : Heap) (locs : List Loc) (ls : Array Slot), va_P D vwCl (wX g cA t s r c y d k q o m) H → va_D A (wX g cA t s r c y d k q o m) → va_S A S0.heap H locs → lv_has ls 3 [(0, .ref (g 0)), (1, .int y1)] → b_X12_done_40  y1 t s r c y d k q o m = some u → W PP l EE (headSpec wsX12_done ({ frames := 5, cells := 0, slots := 0, locals := 105 })).room S0 MM (#[.ref (g 0), .int x1] : Array Value) below meth CC H locs 0 0 (MQ below (cQi D (wX g cA u.2.1 u.2.2.1 u.2.2.2.1 u.2.2.2.2.1 u.2.2.2.2.2.1 u.2.2.2.2.2.2.1 u.2.2.2.2.2.2.2.1 u.2.2.2.2.2.2.2.2.1 u.2.2.2.2.2.2.2.2.2.1 u.2.2.2.2.2.2.2.2.2.2) A u.1) (#[.ref (g 0), .int x1] : Array Value) S0 0 0 A) (F0 MM 40 ls []) := by
    intro y1 t s r c y d k q o m
    intro H locs ls hP hD hS hl hE
    unfold b_X12_done_40 at hE
    refine lv_iconst (v := 0) hx hb dX12_done_40 (by decide +kernel) ?_
    exact w41  y1 0 t s r c y d k q o m H locs ls hP hD hS (lv_sub hl [0, 1] rfl) hE
  unfold f_X12_done at hE
  suffices main : ∀ (H : Heap) (locs : List Loc) (ls : Array Slot), va_P D vwCl (wX g cA t s r c y d k q o m) H → va_D A (wX g cA t s r c y d k q o m) → va_S A S0.heap H locs → lv_has ls 3 [(0, .ref (g 0)), (1, .int x1)] → W PP l EE (headSpec wsX12_done ({ frames := 5, cells := 0, slots := 0, locals := 105 })).room S0 MM (#[.ref (g 0), .int x1] : Array Value) below meth CC H locs 0 0 (MQ below (cQi D (wX g cA u.2.1 u.2.2.1 u.2.2.2.1 u.2.2.2.2.1 u.2.2.2.2.2.1 u.2.2.2.2.2.2.1 u.2.2.2.2.2.2.2.1 u.2.2.2.2.2.2.2.2.1 u.2.2.2.2.2.2.2.2.2.1 u.2.2.2.2.2.2.2.2.2.2) A u.1) (#[.ref (g 0), .int x1] : Array Value) S0 0 0 A) (F0 MM 0 ls []) from main _ _ _ hP hD hS hl
  intro H locs ls hP hD hS hl
  refine lv_iload_n hx hb dX12_done_0 rfl (lv_at hl 1 rfl) ?_
  refine lv_bipush (v := 82) hx hb dX12_done_1 (by decide +kernel) ?_
  refine lv_icmp_lt (tgt := 15) hx hb dX12_done_3 (by decide) (fun c1 => ?_) (fun c1 => ?_)
  · have hE := if_t c1 hE
    refine lv_aload_n hx hb dX12_done_15 rfl (lv_at hl 0 rfl) ?_
    refine va_get (D := D) (ci := 10) (v := .int c.1) (C := RX12) (T := TX12) (N := 40) hx hb hts inX12 hown hK hP 0 rfl rfl 15 (by decide) k0 (fun _ h9 => h9) rfl dX12_done_16 ?_
    refine lv_if_le (tgt := 40) hx hb dX12_done_19 (by decide) (fun c2 => ?_) (fun c2 => ?_)
    · have hE := if_t c2 hE
      exact w40  x1 t s r c y d k q o m H locs ls hP hD hS (lv_sub hl [0, 1] rfl) hE
    · have hE := if_f c2 hE
      refine lv_aload_n hx hb dX12_done_22 rfl (lv_at hl 0 rfl) ?_
      refine va_get (D := D) (ci := 10) (v := .ref (g 8)) (C := RX12) (T := TX12) (N := 40) hx hb hts inX12 hown hK hP 0 rfl rfl 13 (by decide) k2 (fun _ h9 => h9) rfl dX12_done_23 ?_
      refine lv_aload_n hx hb dX12_done_26 rfl (lv_at hl 0 rfl) ?_
      refine va_get (D := D) (ci := 10) (v := .int c.1) (C := RX12) (T := TX12) (N := 40) hx hb hts inX12 hown hK hP 0 rfl rfl 15 (by decide) k0 (fun _ h9 => h9) rfl dX12_done_27 ?_
      refine lv_iconst (v := 1) hx hb dX12_done_30 (by decide +kernel) ?_
      refine lv_isub hx hb dX12_done_31 ?_
      have ⟨c3, hE⟩ := ck_some hE
      refine va_iald hx hb hK hP 8 0 rfl rfl c3 dX12_done_32 ?_
      refine lv_if_ge (tgt := 40) hx hb dX12_done_33 (by decide) (fun c4 => ?_) (fun c4 => ?_)
      · have hE := if_t c4 hE
        exact w40  x1 t s r c y d k q o m H locs ls hP hD hS (lv_sub hl [0, 1] rfl) hE
      · have hE := if_f c4 hE
        refine lv_iconst (v := 1) hx hb dX12_done_36 (by decide +kernel) ?_
        refine lv_goto (tgt := 41) hx hb dX12_done_37 (by decide) ?_
        exact w41  x1 1 t s r c y d k q o m H locs ls hP hD hS (lv_sub hl [0, 1] rfl) hE
  · have hE := if_f c1 hE
    refine lv_aload_n hx hb dX12_done_6 rfl (lv_at hl 0 rfl) ?_
    refine lv_iload_n hx hb dX12_done_7 rfl (lv_at hl 1 rfl) ?_
    refine lv_bipush (v := 82) hx hb dX12_done_8 (by decide +kernel) ?_
    refine lv_isub hx hb dX12_done_10 ?_
    obtain ⟨u5, h6, hE⟩ := bd_some hE
    refine cw_i (As := [.int (x1 - 82)]) (rest := []) (r := u5.1) (wc := (wX g cA t s r c y d k q o m)) ⟨hx, hb, hml, hown, hts⟩ (c_X12_madeWord l D cA g H.size (x1 - 82) t s r c y d k q o m u5 h6) (cwV 1 hts hX12_done_X12_madeWord_347 rfl rfl rfl (by decide +kernel) ⟨Nat.le_of_ble_eq_true rfl, Nat.le_of_ble_eq_true rfl⟩) rfl hl.1 rfl (Nat.le_of_ble_eq_true rfl) dX12_done_11 ⟨Nat.zero_le _, Nat.zero_le _⟩ hK hP hD hS hA (va_recv hK hP (ci := 10) (q0 := 0) rfl rfl) [g 0, g 1, g 2, g 3, g 4, g 5, g 6, g 7, g 8, g 9, g 10, g 11, g 12, g 13, g 14, g 15, g 16, g 17, g 18, g 19] rfl rfl (fun _ _ _ _ h => h) (fun _ _ _ => trivial) (fun H locs hP hD hS => ?_)
    have hP : va_P D vwCl (wX g cA t u5.2.1 r u5.2.2 y d k q o m) H := hP
    have hD : va_D A (wX g cA t u5.2.1 r u5.2.2 y d k q o m) := hD
    obtain rfl := Option.some.inj hE
    exact rt_i hx hb hr hP hS rfl hlocks dX12_done_14
set_option maxRecDepth 20000 in
theorem hX12_carry_X12_ends_329 : GoodIn wsX12_carry (wsV RX12 329 RX12 yX12_ends wsX12_ends) := goodIn_r _ [4, 5, 6, 7, 8, 9, 10, 11, 12, 13, 14, 15, 16, 17, 18, 19, 194, 195, 196, 197, 198, 199, 200, 201, 202, 203, 204, 205, 206, 207, 208, 209, 210, 211, 212, 213, 214, 215, 216, 217, 218, 219, 220, 221, 222, 223, 224, 225, 226, 227, 228, 229, 230, 231, 232, 233] rfl (by decide +kernel)
set_option maxRecDepth 20000 in
theorem hX12_carry_X12_done_332 : GoodIn wsX12_carry (wsV RX12 332 RX12 yX12_done wsX12_done) := goodIn_r _ [20, 21, 22, 7, 23, 13, 24, 15, 11, 12, 25, 26, 27, 7, 28, 29, 30, 31, 32, 33, 34, 35, 36, 37, 38, 39, 40, 41, 42, 43, 44, 45, 46, 47, 48, 49, 50, 51, 52, 53, 54, 55, 56, 57, 17, 58, 59, 60, 61, 62, 63, 64, 65, 66, 67, 68, 69, 70, 71, 72, 73, 74, 75, 76, 77, 78, 79, 80, 81, 82, 83, 84, 85, 86, 87, 88, 89, 90, 91, 92, 93, 94, 19, 95, 96, 97, 98, 99, 100, 101, 102, 103, 104, 105, 106, 107, 108, 109, 110, 111, 112, 113, 14, 114, 16, 115, 116, 117, 118, 119, 120, 121, 122, 123, 124, 18, 125, 126, 127, 128, 129, 130, 131, 132, 133, 134, 135, 136, 137, 138, 139, 140, 141, 142, 1, 143, 144, 145, 146, 147, 148, 149, 150, 151, 152, 153, 154, 155, 156, 157, 158, 159, 160, 161, 162, 163, 164, 165, 166, 167, 168, 169, 170, 171, 172, 173, 174, 175, 176, 177, 178, 179, 180, 181, 182, 183, 184, 185, 186, 187, 188, 194, 195, 196, 197, 198, 199, 200, 201, 202, 203, 204, 205, 206, 207, 208, 209, 210, 211, 212, 213, 214, 215, 216, 217, 218, 219, 220, 221, 222, 223, 224, 225, 226, 227, 228, 229, 230, 231, 232, 233] rfl (by decide +kernel)
set_option maxRecDepth 20000 in
theorem hX12_carry_X12_meet_283 : GoodIn wsX12_carry (wsV RX12 283 RX12 yX12_meet wsX12_meet) := goodIn_r _ [189, 190, 191, 7, 192, 13, 24, 11, 43, 12, 38, 57, 193, 4, 5, 6, 7, 8, 9, 10, 14, 15, 16, 17, 18, 19, 39, 40, 41, 42, 194, 195, 196, 197, 198, 199, 200, 201, 202, 203, 204, 205, 206, 207, 208, 209, 210, 211, 212, 213, 214, 215, 216, 217, 218, 219, 220, 221, 222, 223, 224, 225, 226, 227, 228, 229, 230, 231, 232, 233] rfl (by decide +kernel)
set_option maxHeartbeats 4000000 in
set_option maxRecDepth 100000 in
theorem c_X12_carry (l : Launch) (D : va_G) (cA : Nat → ClassId) (g : Nat → Nat) (sz : Nat) (x1 : Int32) (t : mT) (s : mS) (r : mR) (c : mC) (y : mY) (d : mD) (k : mK) (q : mP) (o : mO) (m : mM) (u : mT × mS × mR × mC × mY × mD × mK × mP × mO × mM) (hE : f_X12_carry x1 t s r c y d k q o m = some u) : Met l yX12_carry wsX12_carry ({ frames := 6, cells := 0, slots := 0, locals := 127 }) (va_Pc [.ref (g 0), .int x1] (PRE D cA (wX g cA t s r c y d k q o m) sz (fun _ => True))) (cQv D (wX g cA u.1 u.2.1 u.2.2.1 u.2.2.2.1 u.2.2.2.2.1 u.2.2.2.2.2.1 u.2.2.2.2.2.2.1 u.2.2.2.2.2.2.2.1 u.2.2.2.2.2.2.2.2.1 u.2.2.2.2.2.2.2.2.2) (va_A (wX g cA t s r c y d k q o m) sz)) 0 0 (va_A (wX g cA t s r c y d k q o m) sz) := by
  refine Met.ofW (cc := cX12_carry) (maxL := 4) (ret := none) (by decide) rfl ?_
  intro PP EE S0 MM args below meth CC S1 B hml hv
  obtain ⟨rfl, hsz, hP, hK, hD0, hX⟩ := hv
  have hx := B.exec
  have hb := B.bytes
  have hr := B.returns
  have hts := atoms_spec (ws := wsX12_carry) B.pre
  have hown : S0.vm.findClass RX12 = some MM.cls := findClass_of_methodNamed B.named
  have hlocks := B.notSynchronized
  subst hsz
  have hD := hD0.self (sz := S0.heap.size)
  generalize hAe : va_A (wX g cA t s r c y d k q o m) S0.heap.size = A at hD ⊢
  have hA : ∀ q : Nat, S0.heap.size ≤ q → A q := fun q h => by rw [← hAe]; exact Or.inr h
  have hS : va_S A S0.heap S0.heap [] := va_S.rf
  have k0 := hts (.fieldLink RX12 326 "WordForgeModel" "next" "I") (List.mem_of_getElem? (i := 1) rfl)
  have inX12 : ∀ w ∈ wsX120, w ∈ wsX12_carry := fun _ h => List.mem_cons_of_mem _ (List.mem_append_right _ h)
  have k2 := hts (.fieldLink RX12 299 "WordForgeModel" "left" "I") (List.mem_of_getElem? (i := 2) rfl)
  have k3 := hts (.fieldLink RX12 302 "WordForgeModel" "steps" "I") (List.mem_of_getElem? (i := 3) rfl)
  have hl := lv_entry ([.ref (g 0), .int x1]) (n := 4) (Nat.le_of_ble_eq_true rfl)
  rw [lg_entry_eq]
  generalize (lg_sl ([.ref (g 0), .int x1]) ++ List.replicate (4 - (lg_sl ([.ref (g 0), .int x1])).length) Slot.unset).toArray = ls at hl ⊢
  have hl : lv_has ls 4 [(0, .ref (g 0)), (1, .int x1)] := hl
  have w4 : ∀ (n : Nat), ∀ (y2 : Int32) (y3 : Int32) (t : mT) (s : mS) (r : mR) (c : mC) (y : mY) (d : mD) (k : mK) (q : mP) (o : mO) (m : mM) (H : Heap) (locs : List Loc) (ls : Array Slot), va_P D vwCl (wX g cA t s r c y d k q o m) H → va_D A (wX g cA t s r c y d k q o m) → va_S A S0.heap H locs → lv_has ls 4 [(0, .ref (g 0)), (2, .int y2), (3, .int y3)] → b_X12_carry_4 n y2 y3 t s r c y d k q o m = some u → W PP l EE (headSpec wsX12_carry ({ frames := 6, cells := 0, slots := 0, locals := 127 })).room S0 MM (#[.ref (g 0), .int x1] : Array Value) below meth CC H locs 0 0 (MQ below (cQv D (wX g cA u.1 u.2.1 u.2.2.1 u.2.2.2.1 u.2.2.2.2.1 u.2.2.2.2.2.1 u.2.2.2.2.2.2.1 u.2.2.2.2.2.2.2.1 u.2.2.2.2.2.2.2.2.1 u.2.2.2.2.2.2.2.2.2) A) (#[.ref (g 0), .int x1] : Array Value) S0 0 0 A) (F0 MM 4 ls []) := by
    intro  n
    induction n with
    | zero => intros; rename_i hE; exact absurd hE (by simp [b_X12_carry_4])
    | succ n ih4 =>
      intro y2 y3 t s r c y d k q o m
      intro H locs ls hP hD hS hl hE
      unfold b_X12_carry_4 at hE
      refine lv_iload_n hx hb dX12_carry_4 rfl (lv_at hl 2 rfl) ?_
      refine lv_sipush (v := 3000) hx hb dX12_carry_5 (by decide +kernel) ?_
      refine lv_icmp_gt (tgt := 74) hx hb dX12_carry_8 (by decide) (fun c1 => ?_) (fun c1 => ?_)
      · have hE := if_t c1 hE
        obtain rfl := Option.some.inj hE
        exact rt_v hx hb hr hP hS hlocks dX12_carry_74
      · have hE := if_f c1 hE
        refine lv_iload_n hx hb dX12_carry_11 rfl (lv_at hl 1 rfl) ?_
        refine lv_if_lt (tgt := 74) hx hb dX12_carry_12 (by decide) (fun c2 => ?_) (fun c2 => ?_)
        · have hE := if_t c2 hE
          obtain rfl := Option.some.inj hE
          exact rt_v hx hb hr hP hS hlocks dX12_carry_74
        · have hE := if_f c2 hE
          refine lv_aload_n hx hb dX12_carry_15 rfl (lv_at hl 0 rfl) ?_
          refine lv_iconst (v := (-1)) hx hb dX12_carry_16 (by decide +kernel) ?_
          refine va_put (D := D) (ci := 10) (v := .int ((-1))) (ty := .int) (C := RX12) (T := TX12) (N := 40) hx hb hts inX12 tyX12 tyX12_ok nmX12 hown hK hP hD hS 0 rfl rfl 37 (by decide) k0 (fun _ h9 => h9) rfl (by decide +kernel) rfl rfl (Nat.le_of_ble_eq_true rfl) dX12_carry_17 (fun H locs hP hD hS => ?_)
          have hP : va_P D vwCl (wX g cA t s r c y d k q o ((m.1, m.2.1, m.2.2.1, m.2.2.2.1, (-1), m.2.2.2.2.2.1, m.2.2.2.2.2.2))) H := hP
          have hD : va_D A (wX g cA t s r c y d k q o ((m.1, m.2.1, m.2.2.1, m.2.2.2.1, (-1), m.2.2.2.2.2.1, m.2.2.2.2.2.2))) := hD
          refine lv_aload_n hx hb dX12_carry_20 rfl (lv_at hl 0 rfl) ?_
          refine va_get (D := D) (ci := 10) (v := .int m.2.1) (C := RX12) (T := TX12) (N := 40) hx hb hts inX12 hown hK hP 0 rfl rfl 34 (by decide) k2 (fun _ h9 => h9) rfl dX12_carry_21 ?_
          refine lv_if_ne (tgt := 34) hx hb dX12_carry_24 (by decide) (fun c3 => ?_) (fun c3 => ?_)
          · have hE := if_f c3 hE
            refine lv_aload_n hx hb dX12_carry_34 rfl (lv_at hl 0 rfl) ?_
            refine lv_dup hx hb dX12_carry_35 rfl ?_
            refine va_get (D := D) (ci := 10) (v := .int m.2.1) (C := RX12) (T := TX12) (N := 40) hx hb hts inX12 hown hK hP 0 rfl rfl 34 (by decide) k2 (fun _ h9 => h9) rfl dX12_carry_36 ?_
            refine lv_iconst (v := 1) hx hb dX12_carry_39 (by decide +kernel) ?_
            refine lv_isub hx hb dX12_carry_40 ?_
            refine va_put (D := D) (ci := 10) (v := .int (m.2.1 - 1)) (ty := .int) (C := RX12) (T := TX12) (N := 40) hx hb hts inX12 tyX12 tyX12_ok nmX12 hown hK hP hD hS 0 rfl rfl 34 (by decide) k2 (fun _ h9 => h9) rfl (by decide +kernel) rfl rfl (Nat.le_of_ble_eq_true rfl) dX12_carry_41 (fun H locs hP hD hS => ?_)
            have hP : va_P D vwCl (wX g cA t s r c y d k q o ((m.1, m.2.1 - 1, m.2.2.1, m.2.2.2.1, (-1), m.2.2.2.2.2.1, m.2.2.2.2.2.2))) H := hP
            have hD : va_D A (wX g cA t s r c y d k q o ((m.1, m.2.1 - 1, m.2.2.1, m.2.2.2.1, (-1), m.2.2.2.2.2.1, m.2.2.2.2.2.2))) := hD
            refine lv_aload_n hx hb dX12_carry_44 rfl (lv_at hl 0 rfl) ?_
            refine lv_dup hx hb dX12_carry_45 rfl ?_
            refine va_get (D := D) (ci := 10) (v := .int m.2.2.1) (C := RX12) (T := TX12) (N := 40) hx hb hts inX12 hown hK hP 0 rfl rfl 35 (by decide) k3 (fun _ h9 => h9) rfl dX12_carry_46 ?_
            refine lv_iconst (v := 1) hx hb dX12_carry_49 (by decide +kernel) ?_
            refine lv_iadd hx hb dX12_carry_50 ?_
            refine va_put (D := D) (ci := 10) (v := .int (m.2.2.1 + 1)) (ty := .int) (C := RX12) (T := TX12) (N := 40) hx hb hts inX12 tyX12 tyX12_ok nmX12 hown hK hP hD hS 0 rfl rfl 35 (by decide) k3 (fun _ h9 => h9) rfl (by decide +kernel) rfl rfl (Nat.le_of_ble_eq_true rfl) dX12_carry_51 (fun H locs hP hD hS => ?_)
            have hP : va_P D vwCl (wX g cA t s r c y d k q o ((m.1, m.2.1 - 1, m.2.2.1 + 1, m.2.2.2.1, (-1), m.2.2.2.2.2.1, m.2.2.2.2.2.2))) H := hP
            have hD : va_D A (wX g cA t s r c y d k q o ((m.1, m.2.1 - 1, m.2.2.1 + 1, m.2.2.2.1, (-1), m.2.2.2.2.2.1, m.2.2.2.2.2.2))) := hD
            refine lv_aload_n hx hb dX12_carry_54 rfl (lv_at hl 0 rfl) ?_
            refine lv_aload_n hx hb dX12_carry_55 rfl (lv_at hl 0 rfl) ?_
            refine lv_iload_n hx hb dX12_carry_56 rfl (lv_at hl 1 rfl) ?_
            obtain ⟨u4, h5, hE⟩ := bd_some hE
            refine cw_i (As := [.int y2]) (rest := [.ref (g 0)]) (r := u4.1) (wc := (wX g cA t s r c y d k q o (((m.1, m.2.1 - 1, m.2.2.1 + 1, m.2.2.2.1, (-1), m.2.2.2.2.2.1, m.2.2.2.2.2.2))))) ⟨hx, hb, hml, hown, hts⟩ (c_X12_done l D cA g H.size y2 t s r c y d k q o ((m.1, m.2.1 - 1, m.2.2.1 + 1, m.2.2.2.1, (-1), m.2.2.2.2.2.1, m.2.2.2.2.2.2)) u4 h5) (cwV 1 hts hX12_carry_X12_done_332 rfl rfl rfl (by decide +kernel) ⟨Nat.le_of_ble_eq_true rfl, Nat.le_of_ble_eq_true rfl⟩) rfl hl.1 rfl (Nat.le_of_ble_eq_true rfl) dX12_carry_57 ⟨Nat.zero_le _, Nat.zero_le _⟩ hK hP hD hS hA (va_recv hK hP (ci := 10) (q0 := 0) rfl rfl) [g 0, g 1, g 2, g 3, g 4, g 5, g 6, g 7, g 8, g 9, g 10, g 11, g 12, g 13, g 14, g 15, g 16, g 17, g 18, g 19] rfl rfl (fun _ _ _ _ h => h) (fun _ _ _ => trivial) (fun H locs hP hD hS => ?_)
            have hP : va_P D vwCl (wX g cA u4.2.1 u4.2.2.1 u4.2.2.2.1 u4.2.2.2.2.1 u4.2.2.2.2.2.1 u4.2.2.2.2.2.2.1 u4.2.2.2.2.2.2.2.1 u4.2.2.2.2.2.2.2.2.1 u4.2.2.2.2.2.2.2.2.2.1 u4.2.2.2.2.2.2.2.2.2.2) H := hP
            have hD : va_D A (wX g cA u4.2.1 u4.2.2.1 u4.2.2.2.1 u4.2.2.2.2.1 u4.2.2.2.2.2.1 u4.2.2.2.2.2.2.1 u4.2.2.2.2.2.2.2.1 u4.2.2.2.2.2.2.2.2.1 u4.2.2.2.2.2.2.2.2.2.1 u4.2.2.2.2.2.2.2.2.2.2) := hD
            obtain ⟨u6, h7, hE⟩ := bd_some hE
            refine cw_v (As := [.int u4.1]) (rest := []) (wc := (wX g cA u4.2.1 u4.2.2.1 u4.2.2.2.1 u4.2.2.2.2.1 u4.2.2.2.2.2.1 u4.2.2.2.2.2.2.1 u4.2.2.2.2.2.2.2.1 u4.2.2.2.2.2.2.2.2.1 u4.2.2.2.2.2.2.2.2.2.1 u4.2.2.2.2.2.2.2.2.2.2)) ⟨hx, hb, hml, hown, hts⟩ (c_X12_meet l D cA g H.size u4.1 u4.2.1 u4.2.2.1 u4.2.2.2.1 u4.2.2.2.2.1 u4.2.2.2.2.2.1 u4.2.2.2.2.2.2.1 u4.2.2.2.2.2.2.2.1 u4.2.2.2.2.2.2.2.2.1 u4.2.2.2.2.2.2.2.2.2.1 u4.2.2.2.2.2.2.2.2.2.2 u6 h7) (cwV 1 hts hX12_carry_X12_meet_283 rfl rfl rfl (by decide +kernel) ⟨Nat.le_of_ble_eq_true rfl, Nat.le_of_ble_eq_true rfl⟩) rfl hl.1 rfl (Nat.le_of_ble_eq_true rfl) dX12_carry_60 ⟨Nat.zero_le _, Nat.zero_le _⟩ hK hP hD hS hA (va_recv hK hP (ci := 10) (q0 := 0) rfl rfl) [g 0, g 1, g 2, g 3, g 4, g 5, g 6, g 7, g 8, g 9, g 10, g 11, g 12, g 13, g 14, g 15, g 16, g 17, g 18, g 19] rfl rfl (fun _ _ _ _ h => h) (fun _ _ _ => trivial) (fun H locs hP hD hS => ?_)
            have hP : va_P D vwCl (wX g cA u4.2.1 u6.1 u6.2.1 u6.2.2.1 u6.2.2.2.1 u6.2.2.2.2.1 u6.2.2.2.2.2.1 u6.2.2.2.2.2.2.1 u4.2.2.2.2.2.2.2.2.2.1 u6.2.2.2.2.2.2.2) H := hP
            have hD : va_D A (wX g cA u4.2.1 u6.1 u6.2.1 u6.2.2.1 u6.2.2.2.1 u6.2.2.2.2.1 u6.2.2.2.2.2.1 u6.2.2.2.2.2.2.1 u4.2.2.2.2.2.2.2.2.2.1 u6.2.2.2.2.2.2.2) := hD
            refine lv_aload_n hx hb dX12_carry_63 rfl (lv_at hl 0 rfl) ?_
            refine va_get (D := D) (ci := 10) (v := .int u6.2.2.2.2.2.2.2.2.2.2.2.1) (C := RX12) (T := TX12) (N := 40) hx hb hts inX12 hown hK hP 0 rfl rfl 37 (by decide) k0 (fun _ h9 => h9) rfl dX12_carry_64 ?_
            refine lv_istore_n (lv' := [(2, .int u6.2.2.2.2.2.2.2.2.2.2.2.1), (0, .ref (g 0)), (3, .int y3)]) hx hb dX12_carry_67 rfl hl (by decide) rfl (fun ls hl => ?_)
            refine lv_iinc (v := y3 + 1) (lv' := [(3, .int (y3 + 1)), (2, .int u6.2.2.2.2.2.2.2.2.2.2.2.1), (0, .ref (g 0))]) hx hb dX12_carry_68 hl (k := 2) rfl rfl (by decide) rfl (fun ls hl => ?_)
            refine lv_goto (tgt := 4) hx hb dX12_carry_71 (by decide) ?_
            exact ih4 u6.2.2.2.2.2.2.2.2.2.2.2.1 (y3 + 1) u4.2.1 u6.1 u6.2.1 u6.2.2.1 u6.2.2.2.1 u6.2.2.2.2.1 u6.2.2.2.2.2.1 u6.2.2.2.2.2.2.1 u4.2.2.2.2.2.2.2.2.2.1 u6.2.2.2.2.2.2.2 H locs ls hP hD hS (lv_sub hl [2, 1, 0] rfl) hE
          · have hE := if_t c3 hE
            refine lv_aload_n hx hb dX12_carry_27 rfl (lv_at hl 0 rfl) ?_
            refine lv_bipush (v := (-28)) hx hb dX12_carry_28 (by decide +kernel) ?_
            obtain ⟨u8, h9, hE⟩ := bd_some hE
            refine cw_v (As := [.int ((-28))]) (rest := []) (wc := (wX g cA t s r c y d k q o (((m.1, m.2.1, m.2.2.1, m.2.2.2.1, (-1), m.2.2.2.2.2.1, m.2.2.2.2.2.2))))) ⟨hx, hb, hml, hown, hts⟩ (c_X12_ends l D cA g H.size ((-28)) t s r c y d k q o ((m.1, m.2.1, m.2.2.1, m.2.2.2.1, (-1), m.2.2.2.2.2.1, m.2.2.2.2.2.2)) u8 h9) (cwV 1 hts hX12_carry_X12_ends_329 rfl rfl rfl (by decide +kernel) ⟨Nat.le_of_ble_eq_true rfl, Nat.le_of_ble_eq_true rfl⟩) rfl hl.1 rfl (Nat.le_of_ble_eq_true rfl) dX12_carry_30 ⟨Nat.zero_le _, Nat.zero_le _⟩ hK hP hD hS hA (va_recv hK hP (ci := 10) (q0 := 0) rfl rfl) [g 0, g 1, g 2, g 3, g 4, g 5, g 6, g 7, g 8, g 9, g 10, g 11, g 12, g 13, g 14, g 15, g 16, g 17, g 18, g 19] rfl rfl (fun _ _ _ _ h => h) (fun _ _ _ => trivial) (fun H locs hP hD hS => ?_)
            have hP : va_P D vwCl (wX g cA t u8.1 u8.2.1 u8.2.2.1 u8.2.2.2.1 u8.2.2.2.2.1 u8.2.2.2.2.2.1 u8.2.2.2.2.2.2.1 o u8.2.2.2.2.2.2.2) H := hP
            have hD : va_D A (wX g cA t u8.1 u8.2.1 u8.2.2.1 u8.2.2.2.1 u8.2.2.2.2.1 u8.2.2.2.2.2.1 u8.2.2.2.2.2.2.1 o u8.2.2.2.2.2.2.2) := hD
            obtain rfl := Option.some.inj hE
            exact rt_v hx hb hr hP hS hlocks dX12_carry_33
  unfold f_X12_carry at hE
  suffices main : ∀ (H : Heap) (locs : List Loc) (ls : Array Slot), va_P D vwCl (wX g cA t s r c y d k q o m) H → va_D A (wX g cA t s r c y d k q o m) → va_S A S0.heap H locs → lv_has ls 4 [(0, .ref (g 0)), (1, .int x1)] → W PP l EE (headSpec wsX12_carry ({ frames := 6, cells := 0, slots := 0, locals := 127 })).room S0 MM (#[.ref (g 0), .int x1] : Array Value) below meth CC H locs 0 0 (MQ below (cQv D (wX g cA u.1 u.2.1 u.2.2.1 u.2.2.2.1 u.2.2.2.2.1 u.2.2.2.2.2.1 u.2.2.2.2.2.2.1 u.2.2.2.2.2.2.2.1 u.2.2.2.2.2.2.2.2.1 u.2.2.2.2.2.2.2.2.2) A) (#[.ref (g 0), .int x1] : Array Value) S0 0 0 A) (F0 MM 0 ls []) from main _ _ _ hP hD hS hl
  intro H locs ls hP hD hS hl
  refine lv_iload_n hx hb dX12_carry_0 rfl (lv_at hl 1 rfl) ?_
  refine lv_istore_n (lv' := [(2, .int x1), (0, .ref (g 0)), (1, .int x1)]) hx hb dX12_carry_1 rfl hl (by decide) rfl (fun ls hl => ?_)
  refine lv_iconst (v := 0) hx hb dX12_carry_2 (by decide +kernel) ?_
  refine lv_istore_n (lv' := [(3, .int 0), (2, .int x1), (0, .ref (g 0)), (1, .int x1)]) hx hb dX12_carry_3 rfl hl (by decide) rfl (fun ls hl => ?_)
  exact w4 FU x1 0 t s r c y d k q o m H locs ls hP hD hS (lv_sub hl [2, 1, 0] rfl) hE
set_option maxRecDepth 20000 in
theorem hX12_interpret_X12_takes_235 : GoodIn wsX12_interpret (wsV RX12 235 RX12 yX12_takes wsX12_takes) := goodIn_r _ [7, 8, 9, 10, 11, 12, 13, 14, 5, 15, 16, 17, 10, 18, 19, 205, 206, 207, 208, 209, 210, 211, 212, 213, 214, 215, 216, 217, 218, 219, 220, 221, 222, 223, 224, 225, 226, 227, 228, 229, 230, 231, 232, 233, 234, 235, 236, 237, 238, 239, 240, 241, 242, 243, 244] rfl (by decide +kernel)
set_option maxRecDepth 20000 in
theorem hX12_interpret_X12_meaning_266 : GoodIn wsX12_interpret (wsV RX12 266 RX12 yX12_meaning wsX12_meaning) := goodIn_r _ [20, 21, 22, 10, 23, 5, 24, 19, 14, 25, 26, 27, 28, 29, 30, 31, 32, 10, 33, 34, 35, 36, 205, 206, 207, 208, 209, 210, 211, 212, 213, 214, 215, 216, 217, 218, 219, 220, 221, 222, 223, 224, 225, 226, 227, 228, 229, 230, 231, 232, 233, 234, 235, 236, 237, 238, 239, 240, 241, 242, 243, 244] rfl (by decide +kernel)
set_option maxRecDepth 20000 in
theorem hX12_interpret_X12_isImmediate_273 : GoodIn wsX12_interpret (wsV RX12 273 RX12 yX12_isImmediate wsX12_isImmediate) := goodIn_r _ [37, 38, 39, 10, 40, 41, 205, 206, 207, 208, 209, 210, 211, 212, 213, 214, 215, 216, 217, 218, 219, 220, 221, 222, 223, 224, 225, 226, 227, 228, 229, 230, 231, 232, 233, 234, 235, 236, 237, 238, 239, 240, 241, 242, 243, 244] rfl (by decide +kernel)
set_option maxRecDepth 20000 in
theorem hX12_interpret_X12_append_279 : GoodIn wsX12_interpret (wsV RX12 279 RX12 yX12_append wsX12_append) := goodIn_r _ [42, 43, 44, 10, 45, 46, 4, 205, 206, 207, 208, 209, 210, 211, 212, 213, 214, 215, 216, 217, 218, 219, 220, 221, 222, 223, 224, 225, 226, 227, 228, 229, 230, 231, 232, 233, 234, 235, 236, 237, 238, 239, 240, 241, 242, 243, 244] rfl (by decide +kernel)
set_option maxRecDepth 20000 in
theorem hX12_interpret_X12_meet_283 : GoodIn wsX12_interpret (wsV RX12 283 RX12 yX12_meet wsX12_meet) := goodIn_r _ [47, 48, 49, 10, 50, 51, 52, 6, 53, 54, 55, 56, 57, 58, 59, 60, 10, 61, 1, 2, 62, 3, 63, 24, 64, 4, 65, 66, 67, 68, 205, 206, 207, 208, 209, 210, 211, 212, 213, 214, 215, 216, 217, 218, 219, 220, 221, 222, 223, 224, 225, 226, 227, 228, 229, 230, 231, 232, 233, 234, 235, 236, 237, 238, 239, 240, 241, 242, 243, 244] rfl (by decide +kernel)
set_option maxRecDepth 20000 in
theorem hX12_interpret_X12_carry_287 : GoodIn wsX12_interpret (wsV RX12 287 RX12 yX12_carry wsX12_carry) := goodIn_r _ [69, 70, 71, 10, 72, 73, 74, 75, 58, 59, 60, 10, 61, 1, 2, 6, 54, 51, 62, 3, 63, 24, 64, 4, 76, 77, 78, 79, 52, 80, 81, 82, 83, 84, 85, 46, 86, 87, 88, 89, 90, 91, 55, 65, 66, 67, 68, 53, 92, 93, 94, 95, 96, 97, 98, 99, 100, 101, 102, 103, 104, 56, 105, 106, 107, 108, 109, 110, 111, 112, 113, 114, 115, 116, 117, 118, 119, 120, 121, 122, 123, 124, 125, 126, 127, 128, 129, 130, 131, 132, 133, 134, 135, 136, 137, 138, 139, 140, 141, 42, 43, 44, 45, 142, 143, 144, 145, 146, 147, 148, 149, 150, 151, 152, 153, 154, 155, 156, 34, 41, 157, 158, 159, 160, 35, 5, 36, 19, 14, 161, 162, 163, 164, 7, 8, 9, 11, 12, 13, 15, 16, 17, 18, 165, 166, 167, 168, 20, 21, 22, 23, 25, 26, 27, 28, 29, 30, 31, 32, 33, 169, 170, 171, 172, 37, 38, 39, 40, 173, 174, 175, 176, 177, 178, 179, 180, 181, 182, 183, 184, 185, 186, 187, 188, 189, 190, 191, 192, 193, 194, 195, 196, 197, 47, 48, 49, 50, 57, 205, 206, 207, 208, 209, 210, 211, 212, 213, 214, 215, 216, 217, 218, 219, 220, 221, 222, 223, 224, 225, 226, 227, 228, 229, 230, 231, 232, 233, 234, 235, 236, 237, 238, 239, 240, 241, 242, 243, 244] rfl (by decide +kernel)
set_option maxRecDepth 20000 in
theorem hX12_interpret_X12_isNumber_290 : GoodIn wsX12_interpret (wsV RX12 290 RX12 yX12_isNumber wsX12_isNumber) := goodIn_r _ [198, 199, 200, 10, 201, 14, 19, 5, 146, 202, 203, 204, 1, 205, 206, 207, 208, 209, 210, 211, 212, 213, 214, 215, 216, 217, 218, 219, 220, 221, 222, 223, 224, 225, 226, 227, 228, 229, 230, 231, 232, 233, 234, 235, 236, 237, 238, 239, 240, 241, 242, 243, 244] rfl (by decide +kernel)
set_option maxRecDepth 20000 in
theorem hX12_interpret_X12_push_296 : GoodIn wsX12_interpret (wsV RX12 296 RX12 yX12_push wsX12_push) := goodIn_r _ [65, 66, 67, 10, 68, 53, 6, 205, 206, 207, 208, 209, 210, 211, 212, 213, 214, 215, 216, 217, 218, 219, 220, 221, 222, 223, 224, 225, 226, 227, 228, 229, 230, 231, 232, 233, 234, 235, 236, 237, 238, 239, 240, 241, 242, 243, 244] rfl (by decide +kernel)
set_option maxHeartbeats 4000000 in
set_option maxRecDepth 100000 in
theorem c_X12_interpret (l : Launch) (D : va_G) (cA : Nat → ClassId) (g : Nat → Nat) (sz : Nat) (t : mT) (s : mS) (r : mR) (c : mC) (y : mY) (d : mD) (k : mK) (q : mP) (o : mO) (m : mM) (u : mT × mS × mR × mC × mY × mD × mK × mP × mO × mM) (hE : f_X12_interpret t s r c y d k q o m = some u) : Met l yX12_interpret wsX12_interpret ({ frames := 7, cells := 0, slots := 0, locals := 150 }) (va_Pc [.ref (g 0)] (PRE D cA (wX g cA t s r c y d k q o m) sz (fun _ => True))) (cQv D (wX g cA u.1 u.2.1 u.2.2.1 u.2.2.2.1 u.2.2.2.2.1 u.2.2.2.2.2.1 u.2.2.2.2.2.2.1 u.2.2.2.2.2.2.2.1 u.2.2.2.2.2.2.2.2.1 u.2.2.2.2.2.2.2.2.2) (va_A (wX g cA t s r c y d k q o m) sz)) 0 0 (va_A (wX g cA t s r c y d k q o m) sz) := by
  refine Met.ofW (cc := cX12_interpret) (maxL := 2) (ret := none) (by decide) rfl ?_
  intro PP EE S0 MM args below meth CC S1 B hml hv
  obtain ⟨rfl, hsz, hP, hK, hD0, hX⟩ := hv
  have hx := B.exec
  have hb := B.bytes
  have hr := B.returns
  have hts := atoms_spec (ws := wsX12_interpret) B.pre
  have hown : S0.vm.findClass RX12 = some MM.cls := findClass_of_methodNamed B.named
  have hlocks := B.notSynchronized
  subst hsz
  have hD := hD0.self (sz := S0.heap.size)
  generalize hAe : va_A (wX g cA t s r c y d k q o m) S0.heap.size = A at hD ⊢
  have hA : ∀ q : Nat, S0.heap.size ≤ q → A q := fun q h => by rw [← hAe]; exact Or.inr h
  have hS : va_S A S0.heap S0.heap [] := va_S.rf
  have k0 := hts (.fieldLink RX12 270 "WordForgeModel" "compiling" "Z") (List.mem_of_getElem? (i := 3) rfl)
  have inX12 : ∀ w ∈ wsX120, w ∈ wsX12_interpret := fun _ h => List.mem_cons_of_mem _ (List.mem_append_right _ h)
  have k2 := hts (.fieldLink RX12 276 "WordForgeModel" "here" "I") (List.mem_of_getElem? (i := 4) rfl)
  have k3 := hts (.fieldLink RX12 259 "WordForgeModel" "result" "I") (List.mem_of_getElem? (i := 1) rfl)
  have k4 := hts (.fieldLink RX12 262 "WordForgeModel" "ended" "Z") (List.mem_of_getElem? (i := 2) rfl)
  have k5 := hts (.fieldLink RX12 293 "WordForgeModel" "depth" "I") (List.mem_of_getElem? (i := 6) rfl)
  have k6 := hts (.fieldLink RX12 232 "WordForgeModel" "length" "I") (List.mem_of_getElem? (i := 5) rfl)
  have hl := lv_entry ([.ref (g 0)]) (n := 2) (Nat.le_of_ble_eq_true rfl)
  rw [lg_entry_eq]
  generalize (lg_sl ([.ref (g 0)]) ++ List.replicate (2 - (lg_sl ([.ref (g 0)])).length) Slot.unset).toArray = ls at hl ⊢
  have hl : lv_has ls 2 [(0, .ref (g 0))] := hl
  have w63 : ∀ (z0 : Int32) (t : mT) (s : mS) (r : mR) (c : mC) (y : mY) (d : mD) (k : mK) (q : mP) (o : mO) (m : mM) (H : Heap) (locs : List Loc) (ls : Array Slot), va_P D vwCl (wX g cA t s r c y d k q o m) H → va_D A (wX g cA t s r c y d k q o m) → va_S A S0.heap H locs → lv_has ls 2 [] → b_X12_interpret_63  z0 t s r c y d k q o m = some u → W PP l EE (headSpec wsX12_interpret ({ frames := 7, cells := 0, slots := 0, locals := 150 })).room S0 MM (#[.ref (g 0)] : Array Value) below meth CC H locs 0 0 (MQ below (cQv D (wX g cA u.1 u.2.1 u.2.2.1 u.2.2.2.1 u.2.2.2.2.1 u.2.2.2.2.2.1 u.2.2.2.2.2.2.1 u.2.2.2.2.2.2.2.1 u.2.2.2.2.2.2.2.2.1 u.2.2.2.2.2.2.2.2.2) A) (#[.ref (g 0)] : Array Value) S0 0 0 A) (F0 MM 63 ls [.int z0, .ref (g 0)]) := by
    intro z0 t s r c y d k q o m
    intro H locs ls hP hD hS hl hE
    unfold b_X12_interpret_63 at hE
    obtain ⟨u30, h31, hE⟩ := bd_some hE
    refine cw_v (As := [.int z0]) (rest := []) (wc := (wX g cA t s r c y d k q o m)) ⟨hx, hb, hml, hown, hts⟩ (c_X12_meet l D cA g H.size z0 t s r c y d k q o m u30 h31) (cwV 1 hts hX12_interpret_X12_meet_283 rfl rfl rfl (by decide +kernel) ⟨Nat.le_of_ble_eq_true rfl, Nat.le_of_ble_eq_true rfl⟩) rfl hl.1 rfl (Nat.le_of_ble_eq_true rfl) dX12_interpret_63 ⟨Nat.zero_le _, Nat.zero_le _⟩ hK hP hD hS hA (va_recv hK hP (ci := 10) (q0 := 0) rfl rfl) [g 0, g 1, g 2, g 3, g 4, g 5, g 6, g 7, g 8, g 9, g 10, g 11, g 12, g 13, g 14, g 15, g 16, g 17, g 18, g 19] rfl rfl (fun _ _ _ _ h => h) (fun _ _ _ => trivial) (fun H locs hP hD hS => ?_)
    have hP : va_P D vwCl (wX g cA t u30.1 u30.2.1 u30.2.2.1 u30.2.2.2.1 u30.2.2.2.2.1 u30.2.2.2.2.2.1 u30.2.2.2.2.2.2.1 o u30.2.2.2.2.2.2.2) H := hP
    have hD : va_D A (wX g cA t u30.1 u30.2.1 u30.2.2.1 u30.2.2.2.1 u30.2.2.2.2.1 u30.2.2.2.2.2.1 u30.2.2.2.2.2.2.1 o u30.2.2.2.2.2.2.2) := hD
    refine lv_goto (tgt := 180) hx hb dX12_interpret_66 (by decide) ?_
    obtain rfl := Option.some.inj hE
    exact rt_v hx hb hr hP hS hlocks dX12_interpret_180
  have w105 : ∀ (z0 : Int32) (t : mT) (s : mS) (r : mR) (c : mC) (y : mY) (d : mD) (k : mK) (q : mP) (o : mO) (m : mM) (H : Heap) (locs : List Loc) (ls : Array Slot), va_P D vwCl (wX g cA t s r c y d k q o m) H → va_D A (wX g cA t s r c y d k q o m) → va_S A S0.heap H locs → lv_has ls 2 [] → b_X12_interpret_105  z0 t s r c y d k q o m = some u → W PP l EE (headSpec wsX12_interpret ({ frames := 7, cells := 0, slots := 0, locals := 150 })).room S0 MM (#[.ref (g 0)] : Array Value) below meth CC H locs 0 0 (MQ below (cQv D (wX g cA u.1 u.2.1 u.2.2.1 u.2.2.2.1 u.2.2.2.2.1 u.2.2.2.2.2.1 u.2.2.2.2.2.2.1 u.2.2.2.2.2.2.2.1 u.2.2.2.2.2.2.2.2.1 u.2.2.2.2.2.2.2.2.2) A) (#[.ref (g 0)] : Array Value) S0 0 0 A) (F0 MM 105 ls [.int z0, .ref (g 0)]) := by
    intro z0 t s r c y d k q o m
    intro H locs ls hP hD hS hl hE
    unfold b_X12_interpret_105 at hE
    obtain ⟨u36, h37, hE⟩ := bd_some hE
    refine cw_v (As := [.int z0]) (rest := []) (wc := (wX g cA t s r c y d k q o m)) ⟨hx, hb, hml, hown, hts⟩ (c_X12_meet l D cA g H.size z0 t s r c y d k q o m u36 h37) (cwV 1 hts hX12_interpret_X12_meet_283 rfl rfl rfl (by decide +kernel) ⟨Nat.le_of_ble_eq_true rfl, Nat.le_of_ble_eq_true rfl⟩) rfl hl.1 rfl (Nat.le_of_ble_eq_true rfl) dX12_interpret_105 ⟨Nat.zero_le _, Nat.zero_le _⟩ hK hP hD hS hA (va_recv hK hP (ci := 10) (q0 := 0) rfl rfl) [g 0, g 1, g 2, g 3, g 4, g 5, g 6, g 7, g 8, g 9, g 10, g 11, g 12, g 13, g 14, g 15, g 16, g 17, g 18, g 19] rfl rfl (fun _ _ _ _ h => h) (fun _ _ _ => trivial) (fun H locs hP hD hS => ?_)
    have hP : va_P D vwCl (wX g cA t u36.1 u36.2.1 u36.2.2.1 u36.2.2.2.1 u36.2.2.2.2.1 u36.2.2.2.2.2.1 u36.2.2.2.2.2.2.1 o u36.2.2.2.2.2.2.2) H := hP
    have hD : va_D A (wX g cA t u36.1 u36.2.1 u36.2.2.1 u36.2.2.2.1 u36.2.2.2.2.1 u36.2.2.2.2.2.1 u36.2.2.2.2.2.2.1 o u36.2.2.2.2.2.2.2) := hD
    refine lv_goto (tgt := 180) hx hb dX12_interpret_108 (by decide) ?_
    obtain rfl := Option.some.inj hE
    exact rt_v hx hb hr hP hS hlocks dX12_interpret_180
  have w148 : ∀ (z0 : Int32) (t : mT) (s : mS) (r : mR) (c : mC) (y : mY) (d : mD) (k : mK) (q : mP) (o : mO) (m : mM) (H : Heap) (locs : List Loc) (ls : Array Slot), va_P D vwCl (wX g cA t s r c y d k q o m) H → va_D A (wX g cA t s r c y d k q o m) → va_S A S0.heap H locs → lv_has ls 2 [] → b_X12_interpret_148  z0 t s r c y d k q o m = some u → W PP l EE (headSpec wsX12_interpret ({ frames := 7, cells := 0, slots := 0, locals := 150 })).room S0 MM (#[.ref (g 0)] : Array Value) below meth CC H locs 0 0 (MQ below (cQv D (wX g cA u.1 u.2.1 u.2.2.1 u.2.2.2.1 u.2.2.2.2.1 u.2.2.2.2.2.1 u.2.2.2.2.2.2.1 u.2.2.2.2.2.2.2.1 u.2.2.2.2.2.2.2.2.1 u.2.2.2.2.2.2.2.2.2) A) (#[.ref (g 0)] : Array Value) S0 0 0 A) (F0 MM 148 ls [.int z0, .ref (g 0)]) := by
    intro z0 t s r c y d k q o m
    intro H locs ls hP hD hS hl hE
    unfold b_X12_interpret_148 at hE
    obtain ⟨u34, h35, hE⟩ := bd_some hE
    refine cw_v (As := [.int z0]) (rest := []) (wc := (wX g cA t s r c y d k q o m)) ⟨hx, hb, hml, hown, hts⟩ (c_X12_meet l D cA g H.size z0 t s r c y d k q o m u34 h35) (cwV 1 hts hX12_interpret_X12_meet_283 rfl rfl rfl (by decide +kernel) ⟨Nat.le_of_ble_eq_true rfl, Nat.le_of_ble_eq_true rfl⟩) rfl hl.1 rfl (Nat.le_of_ble_eq_true rfl) dX12_interpret_148 ⟨Nat.zero_le _, Nat.zero_le _⟩ hK hP hD hS hA (va_recv hK hP (ci := 10) (q0 := 0) rfl rfl) [g 0, g 1, g 2, g 3, g 4, g 5, g 6, g 7, g 8, g 9, g 10, g 11, g 12, g 13, g 14, g 15, g 16, g 17, g 18, g 19] rfl rfl (fun _ _ _ _ h => h) (fun _ _ _ => trivial) (fun H locs hP hD hS => ?_)
    have hP : va_P D vwCl (wX g cA t u34.1 u34.2.1 u34.2.2.1 u34.2.2.2.1 u34.2.2.2.2.1 u34.2.2.2.2.2.1 u34.2.2.2.2.2.2.1 o u34.2.2.2.2.2.2.2) H := hP
    have hD : va_D A (wX g cA t u34.1 u34.2.1 u34.2.2.1 u34.2.2.2.1 u34.2.2.2.2.1 u34.2.2.2.2.2.1 u34.2.2.2.2.2.2.1 o u34.2.2.2.2.2.2.2) := hD
    refine lv_goto (tgt := 180) hx hb dX12_interpret_151 (by decide) ?_
    obtain rfl := Option.some.inj hE
    exact rt_v hx hb hr hP hS hlocks dX12_interpret_180
  have w177 : ∀ (z0 : Int32) (t : mT) (s : mS) (r : mR) (c : mC) (y : mY) (d : mD) (k : mK) (q : mP) (o : mO) (m : mM) (H : Heap) (locs : List Loc) (ls : Array Slot), va_P D vwCl (wX g cA t s r c y d k q o m) H → va_D A (wX g cA t s r c y d k q o m) → va_S A S0.heap H locs → lv_has ls 2 [] → b_X12_interpret_177  z0 t s r c y d k q o m = some u → W PP l EE (headSpec wsX12_interpret ({ frames := 7, cells := 0, slots := 0, locals := 150 })).room S0 MM (#[.ref (g 0)] : Array Value) below meth CC H locs 0 0 (MQ below (cQv D (wX g cA u.1 u.2.1 u.2.2.1 u.2.2.2.1 u.2.2.2.2.1 u.2.2.2.2.2.1 u.2.2.2.2.2.2.1 u.2.2.2.2.2.2.2.1 u.2.2.2.2.2.2.2.2.1 u.2.2.2.2.2.2.2.2.2) A) (#[.ref (g 0)] : Array Value) S0 0 0 A) (F0 MM 177 ls [.int z0, .ref (g 0)]) := by
    intro z0 t s r c y d k q o m
    intro H locs ls hP hD hS hl hE
    unfold b_X12_interpret_177 at hE
    obtain ⟨u32, h33, hE⟩ := bd_some hE
    refine cw_v (As := [.int z0]) (rest := []) (wc := (wX g cA t s r c y d k q o m)) ⟨hx, hb, hml, hown, hts⟩ (c_X12_meet l D cA g H.size z0 t s r c y d k q o m u32 h33) (cwV 1 hts hX12_interpret_X12_meet_283 rfl rfl rfl (by decide +kernel) ⟨Nat.le_of_ble_eq_true rfl, Nat.le_of_ble_eq_true rfl⟩) rfl hl.1 rfl (Nat.le_of_ble_eq_true rfl) dX12_interpret_177 ⟨Nat.zero_le _, Nat.zero_le _⟩ hK hP hD hS hA (va_recv hK hP (ci := 10) (q0 := 0) rfl rfl) [g 0, g 1, g 2, g 3, g 4, g 5, g 6, g 7, g 8, g 9, g 10, g 11, g 12, g 13, g 14, g 15, g 16, g 17, g 18, g 19] rfl rfl (fun _ _ _ _ h => h) (fun _ _ _ => trivial) (fun H locs hP hD hS => ?_)
    have hP : va_P D vwCl (wX g cA t u32.1 u32.2.1 u32.2.2.1 u32.2.2.2.1 u32.2.2.2.2.1 u32.2.2.2.2.2.1 u32.2.2.2.2.2.2.1 o u32.2.2.2.2.2.2.2) H := hP
    have hD : va_D A (wX g cA t u32.1 u32.2.1 u32.2.2.1 u32.2.2.2.1 u32.2.2.2.2.1 u32.2.2.2.2.2.1 u32.2.2.2.2.2.2.1 o u32.2.2.2.2.2.2.2) := hD
    obtain rfl := Option.some.inj hE
    exact rt_v hx hb hr hP hS hlocks dX12_interpret_180
  have w69 : ∀ (y1 : Int32) (t : mT) (s : mS) (r : mR) (c : mC) (y : mY) (d : mD) (k : mK) (q : mP) (o : mO) (m : mM) (H : Heap) (locs : List Loc) (ls : Array Slot), va_P D vwCl (wX g cA t s r c y d k q o m) H → va_D A (wX g cA t s r c y d k q o m) → va_S A S0.heap H locs → lv_has ls 2 [(0, .ref (g 0)), (1, .int y1)] → b_X12_interpret_69  y1 t s r c y d k q o m = some u → W PP l EE (headSpec wsX12_interpret ({ frames := 7, cells := 0, slots := 0, locals := 150 })).room S0 MM (#[.ref (g 0)] : Array Value) below meth CC H locs 0 0 (MQ below (cQv D (wX g cA u.1 u.2.1 u.2.2.1 u.2.2.2.1 u.2.2.2.2.1 u.2.2.2.2.2.1 u.2.2.2.2.2.2.1 u.2.2.2.2.2.2.2.1 u.2.2.2.2.2.2.2.2.1 u.2.2.2.2.2.2.2.2.2) A) (#[.ref (g 0)] : Array Value) S0 0 0 A) (F0 MM 69 ls []) := by
    intro y1 t s r c y d k q o m
    intro H locs ls hP hD hS hl hE
    unfold b_X12_interpret_69 at hE
    refine lv_iload_n hx hb dX12_interpret_69 rfl (lv_at hl 1 rfl) ?_
    refine lv_if_lt (tgt := 81) hx hb dX12_interpret_70 (by decide) (fun c14 => ?_) (fun c14 => ?_)
    · have hE := if_t c14 hE
      refine lv_aload_n hx hb dX12_interpret_81 rfl (lv_at hl 0 rfl) ?_
      obtain ⟨u15, h16, hE⟩ := bd_some hE
      refine cw_i (As := []) (rest := []) (r := u15.1) (wc := (wX g cA t s r c y d k q o m)) ⟨hx, hb, hml, hown, hts⟩ (c_X12_isNumber l D cA g H.size t s r c y d k q o m u15 h16) (cwV 0 hts hX12_interpret_X12_isNumber_290 rfl rfl rfl (by decide +kernel) ⟨Nat.le_of_ble_eq_true rfl, Nat.le_of_ble_eq_true rfl⟩) rfl hl.1 rfl (Nat.le_of_ble_eq_true rfl) dX12_interpret_82 ⟨Nat.zero_le _, Nat.zero_le _⟩ hK hP hD hS hA (va_recv hK hP (ci := 10) (q0 := 0) rfl rfl) [g 0, g 1, g 2, g 3, g 4, g 5, g 6, g 7, g 8, g 9, g 10, g 11, g 12, g 13, g 14, g 15, g 16, g 17, g 18, g 19] rfl rfl (fun _ _ _ _ h => h) (fun _ _ _ => trivial) (fun H locs hP hD hS => ?_)
      have hP : va_P D vwCl (wX g cA t s r c y d k q o u15.2) H := hP
      have hD : va_D A (wX g cA t s r c y d k q o u15.2) := hD
      refine lv_if_ne (tgt := 111) hx hb dX12_interpret_85 (by decide) (fun c17 => ?_) (fun c17 => ?_)
      · have hE := if_f c17 hE
        refine lv_aload_n hx hb dX12_interpret_111 rfl (lv_at hl 0 rfl) ?_
        refine va_get (D := D) (ci := 10) (v := .int k) (C := RX12) (T := TX12) (N := 40) hx hb hts inX12 hown hK hP 0 rfl rfl 28 (by decide) k0 (fun _ h9 => h9) rfl dX12_interpret_112 ?_
        refine lv_if_eq (tgt := 154) hx hb dX12_interpret_115 (by decide) (fun c18 => ?_) (fun c18 => ?_)
        · have hE := if_t c18 hE
          refine lv_aload_n hx hb dX12_interpret_154 rfl (lv_at hl 0 rfl) ?_
          refine lv_aload_n hx hb dX12_interpret_155 rfl (lv_at hl 0 rfl) ?_
          refine va_get (D := D) (ci := 10) (v := .int s.1) (C := RX12) (T := TX12) (N := 40) hx hb hts inX12 hown hK hP 0 rfl rfl 9 (by decide) k5 (fun _ h9 => h9) rfl dX12_interpret_156 ?_
          refine lv_bipush (v := 30) hx hb dX12_interpret_159 (by decide +kernel) ?_
          refine lv_icmp_ne (tgt := 169) hx hb dX12_interpret_161 (by decide) (fun c19 => ?_) (fun c19 => ?_)
          · have hE := if_f c19 hE
            refine lv_aload_n hx hb dX12_interpret_169 rfl (lv_at hl 0 rfl) ?_
            refine lv_aload_n hx hb dX12_interpret_170 rfl (lv_at hl 0 rfl) ?_
            refine va_get (D := D) (ci := 10) (v := .int u15.2.2.2.2.2.2.1) (C := RX12) (T := TX12) (N := 40) hx hb hts inX12 hown hK hP 0 rfl rfl 38 (by decide) k3 (fun _ h9 => h9) rfl dX12_interpret_171 ?_
            obtain ⟨u20, h21, hE⟩ := bd_some hE
            refine cw_i (As := [.int u15.2.2.2.2.2.2.1]) (rest := [.ref (g 0)]) (r := u20.1) (wc := (wX g cA t s r c y d k q o u15.2)) ⟨hx, hb, hml, hown, hts⟩ (c_X12_push l D cA g H.size u15.2.2.2.2.2.2.1 t s r c y d k q o u15.2 u20 h21) (cwV 1 hts hX12_interpret_X12_push_296 rfl rfl rfl (by decide +kernel) ⟨Nat.le_of_ble_eq_true rfl, Nat.le_of_ble_eq_true rfl⟩) rfl hl.1 rfl (Nat.le_of_ble_eq_true rfl) dX12_interpret_174 ⟨Nat.zero_le _, Nat.zero_le _⟩ hK hP hD hS hA (va_recv hK hP (ci := 10) (q0 := 0) rfl rfl) [g 0, g 1, g 2, g 3, g 4, g 5, g 6, g 7, g 8, g 9, g 10, g 11, g 12, g 13, g 14, g 15, g 16, g 17, g 18, g 19] rfl rfl (fun _ _ _ _ h => h) (fun _ _ _ => trivial) (fun H locs hP hD hS => ?_)
            have hP : va_P D vwCl (wX g cA t u20.2 r c y d k q o u15.2) H := hP
            have hD : va_D A (wX g cA t u20.2 r c y d k q o u15.2) := hD
            exact w177  u20.1 t u20.2 r c y d k q o u15.2 H locs ls hP hD hS (lv_sub hl [] rfl) hE
          · have hE := if_t c19 hE
            refine lv_bipush (v := (-3)) hx hb dX12_interpret_164 (by decide +kernel) ?_
            refine lv_goto (tgt := 177) hx hb dX12_interpret_166 (by decide) ?_
            exact w177  ((-3)) t s r c y d k q o u15.2 H locs ls hP hD hS (lv_sub hl [] rfl) hE
        · have hE := if_f c18 hE
          refine lv_aload_n hx hb dX12_interpret_118 rfl (lv_at hl 0 rfl) ?_
          refine lv_aload_n hx hb dX12_interpret_119 rfl (lv_at hl 0 rfl) ?_
          refine va_get (D := D) (ci := 10) (v := .int y.1) (C := RX12) (T := TX12) (N := 40) hx hb hts inX12 hown hK hP 0 rfl rfl 17 (by decide) k2 (fun _ h9 => h9) rfl dX12_interpret_120 ?_
          refine lv_sipush (v := 398) hx hb dX12_interpret_123 (by decide +kernel) ?_
          refine lv_icmp_le (tgt := 134) hx hb dX12_interpret_126 (by decide) (fun c22 => ?_) (fun c22 => ?_)
          · have hE := if_t c22 hE
            refine lv_aload_n hx hb dX12_interpret_134 rfl (lv_at hl 0 rfl) ?_
            refine lv_iconst (v := 1) hx hb dX12_interpret_135 (by decide +kernel) ?_
            obtain ⟨u23, h24, hE⟩ := bd_some hE
            refine cw_i (As := [.int 1]) (rest := [.ref (g 0)]) (r := u23.1) (wc := (wX g cA t s r c y d k q o u15.2)) ⟨hx, hb, hml, hown, hts⟩ (c_X12_append l D cA g H.size 1 t s r c y d k q o u15.2 u23 h24) (cwV 1 hts hX12_interpret_X12_append_279 rfl rfl rfl (by decide +kernel) ⟨Nat.le_of_ble_eq_true rfl, Nat.le_of_ble_eq_true rfl⟩) rfl hl.1 rfl (Nat.le_of_ble_eq_true rfl) dX12_interpret_136 ⟨Nat.zero_le _, Nat.zero_le _⟩ hK hP hD hS hA (va_recv hK hP (ci := 10) (q0 := 0) rfl rfl) [g 0, g 1, g 2, g 3, g 4, g 5, g 6, g 7, g 8, g 9, g 10, g 11, g 12, g 13, g 14, g 15, g 16, g 17, g 18, g 19] rfl rfl (fun _ _ _ _ h => h) (fun _ _ _ => trivial) (fun H locs hP hD hS => ?_)
            have hP : va_P D vwCl (wX g cA t s r c u23.2 d k q o u15.2) H := hP
            have hD : va_D A (wX g cA t s r c u23.2 d k q o u15.2) := hD
            refine lv_aload_n hx hb dX12_interpret_139 rfl (lv_at hl 0 rfl) ?_
            refine lv_aload_n hx hb dX12_interpret_140 rfl (lv_at hl 0 rfl) ?_
            refine va_get (D := D) (ci := 10) (v := .int u15.2.2.2.2.2.2.1) (C := RX12) (T := TX12) (N := 40) hx hb hts inX12 hown hK hP 0 rfl rfl 38 (by decide) k3 (fun _ h9 => h9) rfl dX12_interpret_141 ?_
            obtain ⟨u25, h26, hE⟩ := bd_some hE
            refine cw_i (As := [.int u15.2.2.2.2.2.2.1]) (rest := [.int u23.1, .ref (g 0)]) (r := u25.1) (wc := (wX g cA t s r c u23.2 d k q o u15.2)) ⟨hx, hb, hml, hown, hts⟩ (c_X12_append l D cA g H.size u15.2.2.2.2.2.2.1 t s r c u23.2 d k q o u15.2 u25 h26) (cwV 1 hts hX12_interpret_X12_append_279 rfl rfl rfl (by decide +kernel) ⟨Nat.le_of_ble_eq_true rfl, Nat.le_of_ble_eq_true rfl⟩) rfl hl.1 rfl (Nat.le_of_ble_eq_true rfl) dX12_interpret_144 ⟨Nat.zero_le _, Nat.zero_le _⟩ hK hP hD hS hA (va_recv hK hP (ci := 10) (q0 := 0) rfl rfl) [g 0, g 1, g 2, g 3, g 4, g 5, g 6, g 7, g 8, g 9, g 10, g 11, g 12, g 13, g 14, g 15, g 16, g 17, g 18, g 19] rfl rfl (fun _ _ _ _ h => h) (fun _ _ _ => trivial) (fun H locs hP hD hS => ?_)
            have hP : va_P D vwCl (wX g cA t s r c u25.2 d k q o u15.2) H := hP
            have hD : va_D A (wX g cA t s r c u25.2 d k q o u15.2) := hD
            refine lv_iadd hx hb dX12_interpret_147 ?_
            exact w148  (u23.1 + u25.1) t s r c u25.2 d k q o u15.2 H locs ls hP hD hS (lv_sub hl [] rfl) hE
          · have hE := if_f c22 hE
            refine lv_bipush (v := (-8)) hx hb dX12_interpret_129 (by decide +kernel) ?_
            refine lv_goto (tgt := 148) hx hb dX12_interpret_131 (by decide) ?_
            exact w148  ((-8)) t s r c y d k q o u15.2 H locs ls hP hD hS (lv_sub hl [] rfl) hE
      · have hE := if_t c17 hE
        refine lv_aload_n hx hb dX12_interpret_88 rfl (lv_at hl 0 rfl) ?_
        refine lv_aload_n hx hb dX12_interpret_89 rfl (lv_at hl 0 rfl) ?_
        refine va_get (D := D) (ci := 10) (v := .int t.2.2.2.1) (C := RX12) (T := TX12) (N := 40) hx hb hts inX12 hown hK hP 0 rfl rfl 33 (by decide) k6 (fun _ h9 => h9) rfl dX12_interpret_90 ?_
        refine lv_bipush (v := 9) hx hb dX12_interpret_93 (by decide +kernel) ?_
        refine lv_icmp_le (tgt := 103) hx hb dX12_interpret_95 (by decide) (fun c27 => ?_) (fun c27 => ?_)
        · have hE := if_t c27 hE
          refine lv_bipush (v := (-13)) hx hb dX12_interpret_103 (by decide +kernel) ?_
          exact w105  ((-13)) t s r c y d k q o u15.2 H locs ls hP hD hS (lv_sub hl [] rfl) hE
        · have hE := if_f c27 hE
          refine lv_bipush (v := (-19)) hx hb dX12_interpret_98 (by decide +kernel) ?_
          refine lv_goto (tgt := 105) hx hb dX12_interpret_100 (by decide) ?_
          exact w105  ((-19)) t s r c y d k q o u15.2 H locs ls hP hD hS (lv_sub hl [] rfl) hE
    · have hE := if_f c14 hE
      refine lv_aload_n hx hb dX12_interpret_73 rfl (lv_at hl 0 rfl) ?_
      refine lv_iload_n hx hb dX12_interpret_74 rfl (lv_at hl 1 rfl) ?_
      obtain ⟨u28, h29, hE⟩ := bd_some hE
      refine cw_v (As := [.int y1]) (rest := []) (wc := (wX g cA t s r c y d k q o m)) ⟨hx, hb, hml, hown, hts⟩ (c_X12_carry l D cA g H.size y1 t s r c y d k q o m u28 h29) (cwV 1 hts hX12_interpret_X12_carry_287 rfl rfl rfl (by decide +kernel) ⟨Nat.le_of_ble_eq_true rfl, Nat.le_of_ble_eq_true rfl⟩) rfl hl.1 rfl (Nat.le_of_ble_eq_true rfl) dX12_interpret_75 ⟨Nat.zero_le _, Nat.zero_le _⟩ hK hP hD hS hA (va_recv hK hP (ci := 10) (q0 := 0) rfl rfl) [g 0, g 1, g 2, g 3, g 4, g 5, g 6, g 7, g 8, g 9, g 10, g 11, g 12, g 13, g 14, g 15, g 16, g 17, g 18, g 19] rfl rfl (fun _ _ _ _ h => h) (fun _ _ _ => trivial) (fun H locs hP hD hS => ?_)
      have hP : va_P D vwCl (wX g cA u28.1 u28.2.1 u28.2.2.1 u28.2.2.2.1 u28.2.2.2.2.1 u28.2.2.2.2.2.1 u28.2.2.2.2.2.2.1 u28.2.2.2.2.2.2.2.1 u28.2.2.2.2.2.2.2.2.1 u28.2.2.2.2.2.2.2.2.2) H := hP
      have hD : va_D A (wX g cA u28.1 u28.2.1 u28.2.2.1 u28.2.2.2.1 u28.2.2.2.2.1 u28.2.2.2.2.2.1 u28.2.2.2.2.2.2.1 u28.2.2.2.2.2.2.2.1 u28.2.2.2.2.2.2.2.2.1 u28.2.2.2.2.2.2.2.2.2) := hD
      refine lv_goto (tgt := 180) hx hb dX12_interpret_78 (by decide) ?_
      obtain rfl := Option.some.inj hE
      exact rt_v hx hb hr hP hS hlocks dX12_interpret_180
  unfold f_X12_interpret at hE
  suffices main : ∀ (H : Heap) (locs : List Loc) (ls : Array Slot), va_P D vwCl (wX g cA t s r c y d k q o m) H → va_D A (wX g cA t s r c y d k q o m) → va_S A S0.heap H locs → lv_has ls 2 [(0, .ref (g 0))] → W PP l EE (headSpec wsX12_interpret ({ frames := 7, cells := 0, slots := 0, locals := 150 })).room S0 MM (#[.ref (g 0)] : Array Value) below meth CC H locs 0 0 (MQ below (cQv D (wX g cA u.1 u.2.1 u.2.2.1 u.2.2.2.1 u.2.2.2.2.1 u.2.2.2.2.2.1 u.2.2.2.2.2.2.1 u.2.2.2.2.2.2.2.1 u.2.2.2.2.2.2.2.2.1 u.2.2.2.2.2.2.2.2.2) A) (#[.ref (g 0)] : Array Value) S0 0 0 A) (F0 MM 0 ls []) from main _ _ _ hP hD hS hl
  intro H locs ls hP hD hS hl
  refine lv_aload_n hx hb dX12_interpret_0 rfl (lv_at hl 0 rfl) ?_
  obtain ⟨u1, h2, hE⟩ := bd_some hE
  refine cw_i (As := []) (rest := []) (r := u1.1) (wc := (wX g cA t s r c y d k q o m)) ⟨hx, hb, hml, hown, hts⟩ (c_X12_takes l D cA g H.size t s r c y d k q o m u1 h2) (cwV 0 hts hX12_interpret_X12_takes_235 rfl rfl rfl (by decide +kernel) ⟨Nat.le_of_ble_eq_true rfl, Nat.le_of_ble_eq_true rfl⟩) rfl hl.1 rfl (Nat.le_of_ble_eq_true rfl) dX12_interpret_1 ⟨Nat.zero_le _, Nat.zero_le _⟩ hK hP hD hS hA (va_recv hK hP (ci := 10) (q0 := 0) rfl rfl) [g 0, g 1, g 2, g 3, g 4, g 5, g 6, g 7, g 8, g 9, g 10, g 11, g 12, g 13, g 14, g 15, g 16, g 17, g 18, g 19] rfl rfl (fun _ _ _ _ h => h) (fun _ _ _ => trivial) (fun H locs hP hD hS => ?_)
  have hP : va_P D vwCl (wX g cA u1.2 s r c y d k q o m) H := hP
  have hD : va_D A (wX g cA u1.2 s r c y d k q o m) := hD
  refine lv_if_ne (tgt := 18) hx hb dX12_interpret_4 (by decide) (fun c3 => ?_) (fun c3 => ?_)
  · have hE := if_f c3 hE
    refine lv_aload_n hx hb dX12_interpret_18 rfl (lv_at hl 0 rfl) ?_
    obtain ⟨u4, h5, hE⟩ := bd_some hE
    refine cw_i (As := []) (rest := []) (r := u4) (wc := (wX g cA u1.2 s r c y d k q o m)) ⟨hx, hb, hml, hown, hts⟩ (c_X12_meaning l D cA g H.size u1.2 s r c y d k q o m u4 h5) (cwV 0 hts hX12_interpret_X12_meaning_266 rfl rfl rfl (by decide +kernel) ⟨Nat.le_of_ble_eq_true rfl, Nat.le_of_ble_eq_true rfl⟩) rfl hl.1 rfl (Nat.le_of_ble_eq_true rfl) dX12_interpret_19 ⟨Nat.zero_le _, Nat.zero_le _⟩ hK hP hD hS hA (va_recv hK hP (ci := 10) (q0 := 0) rfl rfl) [g 0, g 1, g 2, g 3, g 4, g 5, g 6, g 7, g 8, g 9, g 10, g 11, g 12, g 13, g 14, g 15, g 16, g 17, g 18, g 19] rfl rfl (fun _ _ _ _ h => h) (fun _ _ _ => trivial) (fun H locs hP hD hS => ?_)
    have hP : va_P D vwCl (wX g cA u1.2 s r c y d k q o m) H := hP
    have hD : va_D A (wX g cA u1.2 s r c y d k q o m) := hD
    refine lv_istore_n (lv' := [(1, .int u4), (0, .ref (g 0))]) hx hb dX12_interpret_22 rfl hl (by decide) rfl (fun ls hl => ?_)
    refine lv_iload_n hx hb dX12_interpret_23 rfl (lv_at hl 0 rfl) ?_
    refine lv_if_lt (tgt := 69) hx hb dX12_interpret_24 (by decide) (fun c6 => ?_) (fun c6 => ?_)
    · have hE := if_t c6 hE
      exact w69  u4 u1.2 s r c y d k q o m H locs ls hP hD hS (lv_sub hl [1, 0] rfl) hE
    · have hE := if_f c6 hE
      refine lv_aload_n hx hb dX12_interpret_27 rfl (lv_at hl 1 rfl) ?_
      refine va_get (D := D) (ci := 10) (v := .int k) (C := RX12) (T := TX12) (N := 40) hx hb hts inX12 hown hK hP 0 rfl rfl 28 (by decide) k0 (fun _ h9 => h9) rfl dX12_interpret_28 ?_
      refine lv_if_eq (tgt := 69) hx hb dX12_interpret_31 (by decide) (fun c7 => ?_) (fun c7 => ?_)
      · have hE := if_t c7 hE
        exact w69  u4 u1.2 s r c y d k q o m H locs ls hP hD hS (lv_sub hl [1, 0] rfl) hE
      · have hE := if_f c7 hE
        refine lv_aload_n hx hb dX12_interpret_34 rfl (lv_at hl 1 rfl) ?_
        refine lv_iload_n hx hb dX12_interpret_35 rfl (lv_at hl 0 rfl) ?_
        obtain ⟨u8, h9, hE⟩ := bd_some hE
        refine cw_i (As := [.int u4]) (rest := []) (r := u8) (wc := (wX g cA u1.2 s r c y d k q o m)) ⟨hx, hb, hml, hown, hts⟩ (c_X12_isImmediate l D cA g H.size u4 u1.2 s r c y d k q o m u8 h9) (cwV 1 hts hX12_interpret_X12_isImmediate_273 rfl rfl rfl (by decide +kernel) ⟨Nat.le_of_ble_eq_true rfl, Nat.le_of_ble_eq_true rfl⟩) rfl hl.1 rfl (Nat.le_of_ble_eq_true rfl) dX12_interpret_36 ⟨Nat.zero_le _, Nat.zero_le _⟩ hK hP hD hS hA (va_recv hK hP (ci := 10) (q0 := 0) rfl rfl) [g 0, g 1, g 2, g 3, g 4, g 5, g 6, g 7, g 8, g 9, g 10, g 11, g 12, g 13, g 14, g 15, g 16, g 17, g 18, g 19] rfl rfl (fun _ _ _ _ h => h) (fun _ _ _ => trivial) (fun H locs hP hD hS => ?_)
        have hP : va_P D vwCl (wX g cA u1.2 s r c y d k q o m) H := hP
        have hD : va_D A (wX g cA u1.2 s r c y d k q o m) := hD
        refine lv_if_ne (tgt := 69) hx hb dX12_interpret_39 (by decide) (fun c10 => ?_) (fun c10 => ?_)
        · have hE := if_f c10 hE
          exact w69  u4 u1.2 s r c y d k q o m H locs ls hP hD hS (lv_sub hl [1, 0] rfl) hE
        · have hE := if_t c10 hE
          refine lv_aload_n hx hb dX12_interpret_42 rfl (lv_at hl 1 rfl) ?_
          refine lv_aload_n hx hb dX12_interpret_43 rfl (lv_at hl 1 rfl) ?_
          refine va_get (D := D) (ci := 10) (v := .int y.1) (C := RX12) (T := TX12) (N := 40) hx hb hts inX12 hown hK hP 0 rfl rfl 17 (by decide) k2 (fun _ h9 => h9) rfl dX12_interpret_44 ?_
          refine lv_sipush (v := 400) hx hb dX12_interpret_47 (by decide +kernel) ?_
          refine lv_icmp_ne (tgt := 58) hx hb dX12_interpret_50 (by decide) (fun c11 => ?_) (fun c11 => ?_)
          · have hE := if_f c11 hE
            refine lv_aload_n hx hb dX12_interpret_58 rfl (lv_at hl 1 rfl) ?_
            refine lv_iload_n hx hb dX12_interpret_59 rfl (lv_at hl 0 rfl) ?_
            obtain ⟨u12, h13, hE⟩ := bd_some hE
            refine cw_i (As := [.int u4]) (rest := [.ref (g 0)]) (r := u12.1) (wc := (wX g cA u1.2 s r c y d k q o m)) ⟨hx, hb, hml, hown, hts⟩ (c_X12_append l D cA g H.size u4 u1.2 s r c y d k q o m u12 h13) (cwV 1 hts hX12_interpret_X12_append_279 rfl rfl rfl (by decide +kernel) ⟨Nat.le_of_ble_eq_true rfl, Nat.le_of_ble_eq_true rfl⟩) rfl hl.1 rfl (Nat.le_of_ble_eq_true rfl) dX12_interpret_60 ⟨Nat.zero_le _, Nat.zero_le _⟩ hK hP hD hS hA (va_recv hK hP (ci := 10) (q0 := 0) rfl rfl) [g 0, g 1, g 2, g 3, g 4, g 5, g 6, g 7, g 8, g 9, g 10, g 11, g 12, g 13, g 14, g 15, g 16, g 17, g 18, g 19] rfl rfl (fun _ _ _ _ h => h) (fun _ _ _ => trivial) (fun H locs hP hD hS => ?_)
            have hP : va_P D vwCl (wX g cA u1.2 s r c u12.2 d k q o m) H := hP
            have hD : va_D A (wX g cA u1.2 s r c u12.2 d k q o m) := hD
            exact w63  u12.1 u1.2 s r c u12.2 d k q o m H locs ls hP hD hS (lv_sub hl [] rfl) hE
          · have hE := if_t c11 hE
            refine lv_bipush (v := (-8)) hx hb dX12_interpret_53 (by decide +kernel) ?_
            refine lv_goto (tgt := 63) hx hb dX12_interpret_55 (by decide) ?_
            exact w63  ((-8)) u1.2 s r c y d k q o m H locs ls hP hD hS (lv_sub hl [] rfl) hE
  · have hE := if_t c3 hE
    refine lv_aload_n hx hb dX12_interpret_7 rfl (lv_at hl 0 rfl) ?_
    refine lv_iconst (v := 0) hx hb dX12_interpret_8 (by decide +kernel) ?_
    refine va_put (D := D) (ci := 10) (v := .int 0) (ty := .int) (C := RX12) (T := TX12) (N := 40) hx hb hts inX12 tyX12 tyX12_ok nmX12 hown hK hP hD hS 0 rfl rfl 38 (by decide) k3 (fun _ h9 => h9) rfl (by decide +kernel) rfl rfl (Nat.le_of_ble_eq_true rfl) dX12_interpret_9 (fun H locs hP hD hS => ?_)
    have hP : va_P D vwCl (wX g cA u1.2 s r c y d k q o ((m.1, m.2.1, m.2.2.1, m.2.2.2.1, m.2.2.2.2.1, 0, m.2.2.2.2.2.2))) H := hP
    have hD : va_D A (wX g cA u1.2 s r c y d k q o ((m.1, m.2.1, m.2.2.1, m.2.2.2.1, m.2.2.2.2.1, 0, m.2.2.2.2.2.2))) := hD
    refine lv_aload_n hx hb dX12_interpret_12 rfl (lv_at hl 0 rfl) ?_
    refine lv_iconst (v := 1) hx hb dX12_interpret_13 (by decide +kernel) ?_
    refine va_put (D := D) (ci := 10) (v := .int 1) (ty := .boolean) (C := RX12) (T := TX12) (N := 40) hx hb hts inX12 tyX12 tyX12_ok nmX12 hown hK hP hD hS 0 rfl rfl 39 (by decide) k4 (fun _ h9 => h9) rfl (by decide +kernel) (by decide +kernel) (by decide +kernel) (Nat.le_of_ble_eq_true rfl) dX12_interpret_14 (fun H locs hP hD hS => ?_)
    have hP : va_P D vwCl (wX g cA u1.2 s r c y d k q o ((m.1, m.2.1, m.2.2.1, m.2.2.2.1, m.2.2.2.2.1, 0, 1))) H := hP
    have hD : va_D A (wX g cA u1.2 s r c y d k q o ((m.1, m.2.1, m.2.2.1, m.2.2.2.1, m.2.2.2.2.1, 0, 1))) := hD
    obtain rfl := Option.some.inj hE
    exact rt_v hx hb hr hP hS hlocks dX12_interpret_17
set_option maxRecDepth 20000 in
theorem hX12_comesBack_X12_push_296 : GoodIn wsX12_comesBack (wsV RX12 296 RX12 yX12_push wsX12_push) := goodIn_r _ [3, 4, 5, 6, 7, 8, 2, 30, 31, 32, 33, 34, 35, 36, 37, 38, 39, 40, 41, 42, 43, 44, 45, 46, 47, 48, 49, 50, 51, 52, 53, 54, 55, 56, 57, 58, 59, 60, 61, 62, 63, 64, 65, 66, 67, 68, 69] rfl (by decide +kernel)
set_option maxRecDepth 20000 in
theorem hX12_comesBack_X12_meet_283 : GoodIn wsX12_comesBack (wsV RX12 283 RX12 yX12_meet wsX12_meet) := goodIn_r _ [9, 10, 11, 6, 12, 1, 13, 2, 8, 14, 15, 16, 17, 18, 19, 20, 6, 21, 22, 23, 24, 25, 26, 27, 28, 29, 3, 4, 5, 7, 30, 31, 32, 33, 34, 35, 36, 37, 38, 39, 40, 41, 42, 43, 44, 45, 46, 47, 48, 49, 50, 51, 52, 53, 54, 55, 56, 57, 58, 59, 60, 61, 62, 63, 64, 65, 66, 67, 68, 69] rfl (by decide +kernel)
set_option maxHeartbeats 4000000 in
set_option maxRecDepth 100000 in
theorem c_X12_comesBack (l : Launch) (D : va_G) (cA : Nat → ClassId) (g : Nat → Nat) (sz : Nat) (t : mT) (s : mS) (r : mR) (c : mC) (y : mY) (d : mD) (k : mK) (q : mP) (o : mO) (m : mM) (u : mS × mR × mC × mY × mD × mK × mP × mM) (hE : f_X12_comesBack s r c y d k q m = some u) : Met l yX12_comesBack wsX12_comesBack ({ frames := 2, cells := 0, slots := 0, locals := 44 }) (va_Pc [.ref (g 0)] (PRE D cA (wX g cA t s r c y d k q o m) sz (fun _ => True))) (cQv D (wX g cA t u.1 u.2.1 u.2.2.1 u.2.2.2.1 u.2.2.2.2.1 u.2.2.2.2.2.1 u.2.2.2.2.2.2.1 o u.2.2.2.2.2.2.2) (va_A (wX g cA t s r c y d k q o m) sz)) 0 0 (va_A (wX g cA t s r c y d k q o m) sz) := by
  refine Met.ofW (cc := cX12_comesBack) (maxL := 1) (ret := none) (by decide) rfl ?_
  intro PP EE S0 MM args below meth CC S1 B hml hv
  obtain ⟨rfl, hsz, hP, hK, hD0, hX⟩ := hv
  have hx := B.exec
  have hb := B.bytes
  have hr := B.returns
  have hts := atoms_spec (ws := wsX12_comesBack) B.pre
  have hown : S0.vm.findClass RX12 = some MM.cls := findClass_of_methodNamed B.named
  have hlocks := B.notSynchronized
  subst hsz
  have hD := hD0.self (sz := S0.heap.size)
  generalize hAe : va_A (wX g cA t s r c y d k q o m) S0.heap.size = A at hD ⊢
  have hA : ∀ q : Nat, S0.heap.size ≤ q → A q := fun q h => by rw [← hAe]; exact Or.inr h
  have hS : va_S A S0.heap S0.heap [] := va_S.rf
  have k0 := hts (.fieldLink RX12 311 "WordForgeModel" "calls" "I") (List.mem_of_getElem? (i := 1) rfl)
  have inX12 : ∀ w ∈ wsX120, w ∈ wsX12_comesBack := fun _ h => List.mem_cons_of_mem _ (List.mem_append_right _ h)
  have k2 := hts (.fieldLink RX12 293 "WordForgeModel" "depth" "I") (List.mem_of_getElem? (i := 2) rfl)
  have hl := lv_entry ([.ref (g 0)]) (n := 1) (Nat.le_of_ble_eq_true rfl)
  rw [lg_entry_eq]
  generalize (lg_sl ([.ref (g 0)]) ++ List.replicate (1 - (lg_sl ([.ref (g 0)])).length) Slot.unset).toArray = ls at hl ⊢
  have hl : lv_has ls 1 [(0, .ref (g 0))] := hl
  have w30 : ∀ (z0 : Int32) (s : mS) (r : mR) (c : mC) (y : mY) (d : mD) (k : mK) (q : mP) (m : mM) (H : Heap) (locs : List Loc) (ls : Array Slot), va_P D vwCl (wX g cA t s r c y d k q o m) H → va_D A (wX g cA t s r c y d k q o m) → va_S A S0.heap H locs → lv_has ls 1 [] → b_X12_comesBack_30  z0 s r c y d k q m = some u → W PP l EE (headSpec wsX12_comesBack ({ frames := 2, cells := 0, slots := 0, locals := 44 })).room S0 MM (#[.ref (g 0)] : Array Value) below meth CC H locs 0 0 (MQ below (cQv D (wX g cA t u.1 u.2.1 u.2.2.1 u.2.2.2.1 u.2.2.2.2.1 u.2.2.2.2.2.1 u.2.2.2.2.2.2.1 o u.2.2.2.2.2.2.2) A) (#[.ref (g 0)] : Array Value) S0 0 0 A) (F0 MM 30 ls [.int z0, .ref (g 0)]) := by
    intro z0 s r c y d k q m
    intro H locs ls hP hD hS hl hE
    unfold b_X12_comesBack_30 at hE
    obtain ⟨u4, h5, hE⟩ := bd_some hE
    refine cw_v (As := [.int z0]) (rest := []) (wc := (wX g cA t s r c y d k q o m)) ⟨hx, hb, hml, hown, hts⟩ (c_X12_meet l D cA g H.size z0 t s r c y d k q o m u4 h5) (cwV 1 hts hX12_comesBack_X12_meet_283 rfl rfl rfl (by decide +kernel) ⟨Nat.le_of_ble_eq_true rfl, Nat.le_of_ble_eq_true rfl⟩) rfl hl.1 rfl (Nat.le_of_ble_eq_true rfl) dX12_comesBack_30 ⟨Nat.zero_le _, Nat.zero_le _⟩ hK hP hD hS hA (va_recv hK hP (ci := 10) (q0 := 0) rfl rfl) [g 0, g 1, g 2, g 3, g 4, g 5, g 6, g 7, g 8, g 9, g 10, g 11, g 12, g 13, g 14, g 15, g 16, g 17, g 18, g 19] rfl rfl (fun _ _ _ _ h => h) (fun _ _ _ => trivial) (fun H locs hP hD hS => ?_)
    have hP : va_P D vwCl (wX g cA t u4.1 u4.2.1 u4.2.2.1 u4.2.2.2.1 u4.2.2.2.2.1 u4.2.2.2.2.2.1 u4.2.2.2.2.2.2.1 o u4.2.2.2.2.2.2.2) H := hP
    have hD : va_D A (wX g cA t u4.1 u4.2.1 u4.2.2.1 u4.2.2.2.1 u4.2.2.2.2.1 u4.2.2.2.2.2.1 u4.2.2.2.2.2.2.1 o u4.2.2.2.2.2.2.2) := hD
    obtain rfl := Option.some.inj hE
    exact rt_v hx hb hr hP hS hlocks dX12_comesBack_33
  unfold f_X12_comesBack at hE
  suffices main : ∀ (H : Heap) (locs : List Loc) (ls : Array Slot), va_P D vwCl (wX g cA t s r c y d k q o m) H → va_D A (wX g cA t s r c y d k q o m) → va_S A S0.heap H locs → lv_has ls 1 [(0, .ref (g 0))] → W PP l EE (headSpec wsX12_comesBack ({ frames := 2, cells := 0, slots := 0, locals := 44 })).room S0 MM (#[.ref (g 0)] : Array Value) below meth CC H locs 0 0 (MQ below (cQv D (wX g cA t u.1 u.2.1 u.2.2.1 u.2.2.2.1 u.2.2.2.2.1 u.2.2.2.2.2.1 u.2.2.2.2.2.2.1 o u.2.2.2.2.2.2.2) A) (#[.ref (g 0)] : Array Value) S0 0 0 A) (F0 MM 0 ls []) from main _ _ _ hP hD hS hl
  intro H locs ls hP hD hS hl
  refine lv_aload_n hx hb dX12_comesBack_0 rfl (lv_at hl 0 rfl) ?_
  refine lv_dup hx hb dX12_comesBack_1 rfl ?_
  refine va_get (D := D) (ci := 10) (v := .int c.1) (C := RX12) (T := TX12) (N := 40) hx hb hts inX12 hown hK hP 0 rfl rfl 15 (by decide) k0 (fun _ h9 => h9) rfl dX12_comesBack_2 ?_
  refine lv_iconst (v := 1) hx hb dX12_comesBack_5 (by decide +kernel) ?_
  refine lv_isub hx hb dX12_comesBack_6 ?_
  refine va_put (D := D) (ci := 10) (v := .int (c.1 - 1)) (ty := .int) (C := RX12) (T := TX12) (N := 40) hx hb hts inX12 tyX12 tyX12_ok nmX12 hown hK hP hD hS 0 rfl rfl 15 (by decide) k0 (fun _ h9 => h9) rfl (by decide +kernel) rfl rfl (Nat.le_of_ble_eq_true rfl) dX12_comesBack_7 (fun H locs hP hD hS => ?_)
  have hP : va_P D vwCl (wX g cA t s r ((c.1 - 1, c.2.1, c.2.2.1, c.2.2.2)) y d k q o m) H := hP
  have hD : va_D A (wX g cA t s r ((c.1 - 1, c.2.1, c.2.2.1, c.2.2.2)) y d k q o m) := hD
  refine lv_aload_n hx hb dX12_comesBack_10 rfl (lv_at hl 0 rfl) ?_
  refine lv_aload_n hx hb dX12_comesBack_11 rfl (lv_at hl 0 rfl) ?_
  refine va_get (D := D) (ci := 10) (v := .int s.1) (C := RX12) (T := TX12) (N := 40) hx hb hts inX12 hown hK hP 0 rfl rfl 9 (by decide) k2 (fun _ h9 => h9) rfl dX12_comesBack_12 ?_
  refine lv_bipush (v := 30) hx hb dX12_comesBack_15 (by decide +kernel) ?_
  refine lv_icmp_ne (tgt := 25) hx hb dX12_comesBack_17 (by decide) (fun c1 => ?_) (fun c1 => ?_)
  · have hE := if_f c1 hE
    refine lv_aload_n hx hb dX12_comesBack_25 rfl (lv_at hl 0 rfl) ?_
    refine lv_iconst (v := 0) hx hb dX12_comesBack_26 (by decide +kernel) ?_
    obtain ⟨u2, h3, hE⟩ := bd_some hE
    refine cw_i (As := [.int 0]) (rest := [.ref (g 0)]) (r := u2.1) (wc := (wX g cA t s r (((c.1 - 1, c.2.1, c.2.2.1, c.2.2.2))) y d k q o m)) ⟨hx, hb, hml, hown, hts⟩ (c_X12_push l D cA g H.size 0 t s r ((c.1 - 1, c.2.1, c.2.2.1, c.2.2.2)) y d k q o m u2 h3) (cwV 1 hts hX12_comesBack_X12_push_296 rfl rfl rfl (by decide +kernel) ⟨Nat.le_of_ble_eq_true rfl, Nat.le_of_ble_eq_true rfl⟩) rfl hl.1 rfl (Nat.le_of_ble_eq_true rfl) dX12_comesBack_27 ⟨Nat.zero_le _, Nat.zero_le _⟩ hK hP hD hS hA (va_recv hK hP (ci := 10) (q0 := 0) rfl rfl) [g 0, g 1, g 2, g 3, g 4, g 5, g 6, g 7, g 8, g 9, g 10, g 11, g 12, g 13, g 14, g 15, g 16, g 17, g 18, g 19] rfl rfl (fun _ _ _ _ h => h) (fun _ _ _ => trivial) (fun H locs hP hD hS => ?_)
    have hP : va_P D vwCl (wX g cA t u2.2 r ((c.1 - 1, c.2.1, c.2.2.1, c.2.2.2)) y d k q o m) H := hP
    have hD : va_D A (wX g cA t u2.2 r ((c.1 - 1, c.2.1, c.2.2.1, c.2.2.2)) y d k q o m) := hD
    exact w30  u2.1 u2.2 r ((c.1 - 1, c.2.1, c.2.2.1, c.2.2.2)) y d k q m H locs ls hP hD hS (lv_sub hl [] rfl) hE
  · have hE := if_t c1 hE
    refine lv_bipush (v := (-3)) hx hb dX12_comesBack_20 (by decide +kernel) ?_
    refine lv_goto (tgt := 30) hx hb dX12_comesBack_22 (by decide) ?_
    exact w30  ((-3)) s r ((c.1 - 1, c.2.1, c.2.2.1, c.2.2.2)) y d k q m H locs ls hP hD hS (lv_sub hl [] rfl) hE
set_option maxRecDepth 20000 in
theorem hX12_goesOn_X12_isWord_323 : GoodIn wsX12_goesOn (wsV RX12 323 RX12 yX12_isWord wsX12_isWord) := goodIn_r _ [4, 5, 6, 7, 8, 9, 198, 199, 200, 201, 202, 203, 204, 205, 206, 207, 208, 209, 210, 211, 212, 213, 214, 215, 216, 217, 218, 219, 220, 221, 222, 223, 224, 225, 226, 227, 228, 229, 230, 231, 232, 233, 234, 235, 236, 237] rfl (by decide +kernel)
set_option maxRecDepth 20000 in
theorem hX12_goesOn_X12_meet_283 : GoodIn wsX12_goesOn (wsV RX12 283 RX12 yX12_meet wsX12_meet) := goodIn_r _ [10, 11, 12, 7, 13, 2, 14, 15, 16, 17, 18, 19, 20, 21, 22, 23, 7, 24, 25, 26, 27, 28, 29, 9, 30, 31, 32, 33, 34, 35, 198, 199, 200, 201, 202, 203, 204, 205, 206, 207, 208, 209, 210, 211, 212, 213, 214, 215, 216, 217, 218, 219, 220, 221, 222, 223, 224, 225, 226, 227, 228, 229, 230, 231, 232, 233, 234, 235, 236, 237] rfl (by decide +kernel)
set_option maxRecDepth 20000 in
theorem hX12_goesOn_X12_carry_287 : GoodIn wsX12_goesOn (wsV RX12 287 RX12 yX12_carry wsX12_carry) := goodIn_r _ [36, 37, 38, 7, 39, 40, 41, 42, 21, 22, 23, 7, 24, 25, 26, 15, 17, 2, 27, 28, 29, 9, 30, 31, 43, 44, 45, 46, 14, 47, 48, 49, 50, 51, 52, 3, 53, 54, 55, 56, 57, 1, 18, 32, 33, 34, 35, 16, 58, 59, 60, 61, 62, 63, 64, 65, 66, 67, 68, 69, 70, 19, 71, 72, 73, 74, 75, 76, 77, 78, 79, 80, 81, 82, 83, 84, 85, 86, 87, 88, 89, 90, 91, 92, 93, 94, 95, 96, 97, 98, 99, 100, 101, 102, 103, 104, 105, 106, 107, 108, 109, 110, 111, 112, 113, 114, 115, 116, 117, 118, 119, 120, 121, 122, 123, 124, 125, 126, 127, 128, 129, 130, 131, 132, 133, 134, 135, 136, 137, 138, 139, 140, 141, 142, 143, 144, 145, 146, 147, 148, 149, 150, 151, 152, 153, 154, 155, 156, 157, 158, 159, 160, 161, 162, 163, 164, 165, 166, 167, 168, 4, 5, 6, 8, 169, 170, 171, 172, 173, 174, 175, 176, 177, 178, 179, 180, 181, 182, 183, 184, 185, 186, 187, 188, 189, 190, 191, 192, 193, 194, 195, 196, 197, 10, 11, 12, 13, 20, 198, 199, 200, 201, 202, 203, 204, 205, 206, 207, 208, 209, 210, 211, 212, 213, 214, 215, 216, 217, 218, 219, 220, 221, 222, 223, 224, 225, 226, 227, 228, 229, 230, 231, 232, 233, 234, 235, 236, 237] rfl (by decide +kernel)
set_option maxHeartbeats 4000000 in
set_option maxRecDepth 100000 in
theorem c_X12_goesOn (l : Launch) (D : va_G) (cA : Nat → ClassId) (g : Nat → Nat) (sz : Nat) (t : mT) (s : mS) (r : mR) (c : mC) (y : mY) (d : mD) (k : mK) (q : mP) (o : mO) (m : mM) (u : mT × mS × mR × mC × mY × mD × mK × mP × mO × mM) (hE : f_X12_goesOn t s r c y d k q o m = some u) : Met l yX12_goesOn wsX12_goesOn ({ frames := 7, cells := 0, slots := 0, locals := 150 }) (va_Pc [.ref (g 0)] (PRE D cA (wX g cA t s r c y d k q o m) sz (fun _ => True))) (cQv D (wX g cA u.1 u.2.1 u.2.2.1 u.2.2.2.1 u.2.2.2.2.1 u.2.2.2.2.2.1 u.2.2.2.2.2.2.1 u.2.2.2.2.2.2.2.1 u.2.2.2.2.2.2.2.2.1 u.2.2.2.2.2.2.2.2.2) (va_A (wX g cA t s r c y d k q o m) sz)) 0 0 (va_A (wX g cA t s r c y d k q o m) sz) := by
  refine Met.ofW (cc := cX12_goesOn) (maxL := 2) (ret := none) (by decide) rfl ?_
  intro PP EE S0 MM args below meth CC S1 B hml hv
  obtain ⟨rfl, hsz, hP, hK, hD0, hX⟩ := hv
  have hx := B.exec
  have hb := B.bytes
  have hr := B.returns
  have hts := atoms_spec (ws := wsX12_goesOn) B.pre
  have hown : S0.vm.findClass RX12 = some MM.cls := findClass_of_methodNamed B.named
  have hlocks := B.notSynchronized
  subst hsz
  have hD := hD0.self (sz := S0.heap.size)
  generalize hAe : va_A (wX g cA t s r c y d k q o m) S0.heap.size = A at hD ⊢
  have hA : ∀ q : Nat, S0.heap.size ≤ q → A q := fun q h => by rw [← hAe]; exact Or.inr h
  have hS : va_S A S0.heap S0.heap [] := va_S.rf
  have k0 := hts (.fieldLink RX12 175 "WordForgeModel" "callAt" "[I") (List.mem_of_getElem? (i := 1) rfl)
  have inX12 : ∀ w ∈ wsX120, w ∈ wsX12_goesOn := fun _ h => List.mem_cons_of_mem _ (List.mem_append_right _ h)
  have k2 := hts (.fieldLink RX12 311 "WordForgeModel" "calls" "I") (List.mem_of_getElem? (i := 2) rfl)
  have k3 := hts (.fieldLink RX12 184 "WordForgeModel" "cells" "[I") (List.mem_of_getElem? (i := 3) rfl)
  have hl := lv_entry ([.ref (g 0)]) (n := 2) (Nat.le_of_ble_eq_true rfl)
  rw [lg_entry_eq]
  generalize (lg_sl ([.ref (g 0)]) ++ List.replicate (2 - (lg_sl ([.ref (g 0)])).length) Slot.unset).toArray = ls at hl ⊢
  have hl : lv_has ls 2 [(0, .ref (g 0))] := hl
  have w36 : ∀ (t : mT) (s : mS) (r : mR) (c : mC) (y : mY) (d : mD) (k : mK) (q : mP) (o : mO) (m : mM) (H : Heap) (locs : List Loc) (ls : Array Slot), va_P D vwCl (wX g cA t s r c y d k q o m) H → va_D A (wX g cA t s r c y d k q o m) → va_S A S0.heap H locs → lv_has ls 2 [(0, .ref (g 0))] → b_X12_goesOn_36  t s r c y d k q o m = some u → W PP l EE (headSpec wsX12_goesOn ({ frames := 7, cells := 0, slots := 0, locals := 150 })).room S0 MM (#[.ref (g 0)] : Array Value) below meth CC H locs 0 0 (MQ below (cQv D (wX g cA u.1 u.2.1 u.2.2.1 u.2.2.2.1 u.2.2.2.2.1 u.2.2.2.2.2.1 u.2.2.2.2.2.2.1 u.2.2.2.2.2.2.2.1 u.2.2.2.2.2.2.2.2.1 u.2.2.2.2.2.2.2.2.2) A) (#[.ref (g 0)] : Array Value) S0 0 0 A) (F0 MM 36 ls []) := by
    intro t s r c y d k q o m
    intro H locs ls hP hD hS hl hE
    unfold b_X12_goesOn_36 at hE
    refine lv_aload_n hx hb dX12_goesOn_36 rfl (lv_at hl 0 rfl) ?_
    refine lv_bipush (v := (-9)) hx hb dX12_goesOn_37 (by decide +kernel) ?_
    obtain ⟨u12, h13, hE⟩ := bd_some hE
    refine cw_v (As := [.int ((-9))]) (rest := []) (wc := (wX g cA t s r c y d k q o m)) ⟨hx, hb, hml, hown, hts⟩ (c_X12_meet l D cA g H.size ((-9)) t s r c y d k q o m u12 h13) (cwV 1 hts hX12_goesOn_X12_meet_283 rfl rfl rfl (by decide +kernel) ⟨Nat.le_of_ble_eq_true rfl, Nat.le_of_ble_eq_true rfl⟩) rfl hl.1 rfl (Nat.le_of_ble_eq_true rfl) dX12_goesOn_39 ⟨Nat.zero_le _, Nat.zero_le _⟩ hK hP hD hS hA (va_recv hK hP (ci := 10) (q0 := 0) rfl rfl) [g 0, g 1, g 2, g 3, g 4, g 5, g 6, g 7, g 8, g 9, g 10, g 11, g 12, g 13, g 14, g 15, g 16, g 17, g 18, g 19] rfl rfl (fun _ _ _ _ h => h) (fun _ _ _ => trivial) (fun H locs hP hD hS => ?_)
    have hP : va_P D vwCl (wX g cA t u12.1 u12.2.1 u12.2.2.1 u12.2.2.2.1 u12.2.2.2.2.1 u12.2.2.2.2.2.1 u12.2.2.2.2.2.2.1 o u12.2.2.2.2.2.2.2) H := hP
    have hD : va_D A (wX g cA t u12.1 u12.2.1 u12.2.2.1 u12.2.2.2.1 u12.2.2.2.2.1 u12.2.2.2.2.2.1 u12.2.2.2.2.2.2.1 o u12.2.2.2.2.2.2.2) := hD
    obtain rfl := Option.some.inj hE
    exact rt_v hx hb hr hP hS hlocks dX12_goesOn_42
  unfold f_X12_goesOn at hE
  suffices main : ∀ (H : Heap) (locs : List Loc) (ls : Array Slot), va_P D vwCl (wX g cA t s r c y d k q o m) H → va_D A (wX g cA t s r c y d k q o m) → va_S A S0.heap H locs → lv_has ls 2 [(0, .ref (g 0))] → W PP l EE (headSpec wsX12_goesOn ({ frames := 7, cells := 0, slots := 0, locals := 150 })).room S0 MM (#[.ref (g 0)] : Array Value) below meth CC H locs 0 0 (MQ below (cQv D (wX g cA u.1 u.2.1 u.2.2.1 u.2.2.2.1 u.2.2.2.2.1 u.2.2.2.2.2.1 u.2.2.2.2.2.2.1 u.2.2.2.2.2.2.2.1 u.2.2.2.2.2.2.2.2.1 u.2.2.2.2.2.2.2.2.2) A) (#[.ref (g 0)] : Array Value) S0 0 0 A) (F0 MM 0 ls []) from main _ _ _ hP hD hS hl
  intro H locs ls hP hD hS hl
  refine lv_aload_n hx hb dX12_goesOn_0 rfl (lv_at hl 0 rfl) ?_
  refine va_get (D := D) (ci := 10) (v := .ref (g 7)) (C := RX12) (T := TX12) (N := 40) hx hb hts inX12 hown hK hP 0 rfl rfl 12 (by decide) k0 (fun _ h9 => h9) rfl dX12_goesOn_1 ?_
  refine lv_aload_n hx hb dX12_goesOn_4 rfl (lv_at hl 0 rfl) ?_
  refine va_get (D := D) (ci := 10) (v := .int c.1) (C := RX12) (T := TX12) (N := 40) hx hb hts inX12 hown hK hP 0 rfl rfl 15 (by decide) k2 (fun _ h9 => h9) rfl dX12_goesOn_5 ?_
  refine lv_iconst (v := 1) hx hb dX12_goesOn_8 (by decide +kernel) ?_
  refine lv_isub hx hb dX12_goesOn_9 ?_
  have ⟨c1, hE⟩ := ck_some hE
  refine va_iald hx hb hK hP 7 0 rfl rfl c1 dX12_goesOn_10 ?_
  refine lv_istore_n (lv' := [(1, .int (c.2.1 ((c.1 - 1).toNatClampNeg))), (0, .ref (g 0))]) hx hb dX12_goesOn_11 rfl hl (by decide) rfl (fun ls hl => ?_)
  refine lv_iload_n hx hb dX12_goesOn_12 rfl (lv_at hl 0 rfl) ?_
  refine lv_if_lt (tgt := 36) hx hb dX12_goesOn_13 (by decide) (fun c2 => ?_) (fun c2 => ?_)
  · have hE := if_t c2 hE
    exact w36  t s r c y d k q o m H locs ls hP hD hS (lv_sub hl [1] rfl) hE
  · have hE := if_f c2 hE
    refine lv_iload_n hx hb dX12_goesOn_16 rfl (lv_at hl 0 rfl) ?_
    refine lv_sipush (v := 400) hx hb dX12_goesOn_17 (by decide +kernel) ?_
    refine lv_icmp_ge (tgt := 36) hx hb dX12_goesOn_20 (by decide) (fun c3 => ?_) (fun c3 => ?_)
    · have hE := if_t c3 hE
      exact w36  t s r c y d k q o m H locs ls hP hD hS (lv_sub hl [1] rfl) hE
    · have hE := if_f c3 hE
      refine lv_aload_n hx hb dX12_goesOn_23 rfl (lv_at hl 1 rfl) ?_
      refine lv_aload_n hx hb dX12_goesOn_24 rfl (lv_at hl 1 rfl) ?_
      refine va_get (D := D) (ci := 10) (v := .ref (g 10)) (C := RX12) (T := TX12) (N := 40) hx hb hts inX12 hown hK hP 0 rfl rfl 16 (by decide) k3 (fun _ h9 => h9) rfl dX12_goesOn_25 ?_
      refine lv_iload_n hx hb dX12_goesOn_28 rfl (lv_at hl 0 rfl) ?_
      have ⟨c4, hE⟩ := ck_some hE
      refine va_iald hx hb hK hP 10 0 rfl rfl c4 dX12_goesOn_29 ?_
      obtain ⟨u5, h6, hE⟩ := bd_some hE
      refine cw_i (As := [.int (y.2 ((c.2.1 ((c.1 - 1).toNatClampNeg)).toNatClampNeg))]) (rest := []) (r := u5) (wc := (wX g cA t s r c y d k q o m)) ⟨hx, hb, hml, hown, hts⟩ (c_X12_isWord l D cA g H.size (y.2 ((c.2.1 ((c.1 - 1).toNatClampNeg)).toNatClampNeg)) t s r c y d k q o m u5 h6) (cwV 1 hts hX12_goesOn_X12_isWord_323 rfl rfl rfl (by decide +kernel) ⟨Nat.le_of_ble_eq_true rfl, Nat.le_of_ble_eq_true rfl⟩) rfl hl.1 rfl (Nat.le_of_ble_eq_true rfl) dX12_goesOn_30 ⟨Nat.zero_le _, Nat.zero_le _⟩ hK hP hD hS hA (va_recv hK hP (ci := 10) (q0 := 0) rfl rfl) [g 0, g 1, g 2, g 3, g 4, g 5, g 6, g 7, g 8, g 9, g 10, g 11, g 12, g 13, g 14, g 15, g 16, g 17, g 18, g 19] rfl rfl (fun _ _ _ _ h => h) (fun _ _ _ => trivial) (fun H locs hP hD hS => ?_)
      have hP : va_P D vwCl (wX g cA t s r c y d k q o m) H := hP
      have hD : va_D A (wX g cA t s r c y d k q o m) := hD
      refine lv_if_ne (tgt := 43) hx hb dX12_goesOn_33 (by decide) (fun c7 => ?_) (fun c7 => ?_)
      · have hE := if_f c7 hE
        refine lv_aload_n hx hb dX12_goesOn_43 rfl (lv_at hl 1 rfl) ?_
        refine va_get (D := D) (ci := 10) (v := .ref (g 7)) (C := RX12) (T := TX12) (N := 40) hx hb hts inX12 hown hK hP 0 rfl rfl 12 (by decide) k0 (fun _ h9 => h9) rfl dX12_goesOn_44 ?_
        refine lv_aload_n hx hb dX12_goesOn_47 rfl (lv_at hl 1 rfl) ?_
        refine va_get (D := D) (ci := 10) (v := .int c.1) (C := RX12) (T := TX12) (N := 40) hx hb hts inX12 hown hK hP 0 rfl rfl 15 (by decide) k2 (fun _ h9 => h9) rfl dX12_goesOn_48 ?_
        refine lv_iconst (v := 1) hx hb dX12_goesOn_51 (by decide +kernel) ?_
        refine lv_isub hx hb dX12_goesOn_52 ?_
        refine lv_iload_n hx hb dX12_goesOn_53 rfl (lv_at hl 0 rfl) ?_
        refine lv_iconst (v := 1) hx hb dX12_goesOn_54 (by decide +kernel) ?_
        refine lv_iadd hx hb dX12_goesOn_55 ?_
        have ⟨c8, hE⟩ := ck_some hE
        refine va_iast hx hb hK hP hD hS 7 0 rfl rfl c8 dX12_goesOn_56 (fun H locs hP hD hS => ?_)
        have hP : va_P D vwCl (wX g cA t s r ((c.1, upd c.2.1 ((c.1 - 1).toNatClampNeg) ((c.2.1 ((c.1 - 1).toNatClampNeg)) + 1), c.2.2.1, c.2.2.2)) y d k q o m) H := hP
        have hD : va_D A (wX g cA t s r ((c.1, upd c.2.1 ((c.1 - 1).toNatClampNeg) ((c.2.1 ((c.1 - 1).toNatClampNeg)) + 1), c.2.2.1, c.2.2.2)) y d k q o m) := hD
        refine lv_aload_n hx hb dX12_goesOn_57 rfl (lv_at hl 1 rfl) ?_
        refine lv_aload_n hx hb dX12_goesOn_58 rfl (lv_at hl 1 rfl) ?_
        refine va_get (D := D) (ci := 10) (v := .ref (g 10)) (C := RX12) (T := TX12) (N := 40) hx hb hts inX12 hown hK hP 0 rfl rfl 16 (by decide) k3 (fun _ h9 => h9) rfl dX12_goesOn_59 ?_
        refine lv_iload_n hx hb dX12_goesOn_62 rfl (lv_at hl 0 rfl) ?_
        have ⟨c9, hE⟩ := ck_some hE
        refine va_iald hx hb hK hP 10 0 rfl rfl c9 dX12_goesOn_63 ?_
        obtain ⟨u10, h11, hE⟩ := bd_some hE
        refine cw_v (As := [.int (y.2 ((c.2.1 ((c.1 - 1).toNatClampNeg)).toNatClampNeg))]) (rest := []) (wc := (wX g cA t s r (((c.1, upd c.2.1 ((c.1 - 1).toNatClampNeg) ((c.2.1 ((c.1 - 1).toNatClampNeg)) + 1), c.2.2.1, c.2.2.2))) y d k q o m)) ⟨hx, hb, hml, hown, hts⟩ (c_X12_carry l D cA g H.size (y.2 ((c.2.1 ((c.1 - 1).toNatClampNeg)).toNatClampNeg)) t s r ((c.1, upd c.2.1 ((c.1 - 1).toNatClampNeg) ((c.2.1 ((c.1 - 1).toNatClampNeg)) + 1), c.2.2.1, c.2.2.2)) y d k q o m u10 h11) (cwV 1 hts hX12_goesOn_X12_carry_287 rfl rfl rfl (by decide +kernel) ⟨Nat.le_of_ble_eq_true rfl, Nat.le_of_ble_eq_true rfl⟩) rfl hl.1 rfl (Nat.le_of_ble_eq_true rfl) dX12_goesOn_64 ⟨Nat.zero_le _, Nat.zero_le _⟩ hK hP hD hS hA (va_recv hK hP (ci := 10) (q0 := 0) rfl rfl) [g 0, g 1, g 2, g 3, g 4, g 5, g 6, g 7, g 8, g 9, g 10, g 11, g 12, g 13, g 14, g 15, g 16, g 17, g 18, g 19] rfl rfl (fun _ _ _ _ h => h) (fun _ _ _ => trivial) (fun H locs hP hD hS => ?_)
        have hP : va_P D vwCl (wX g cA u10.1 u10.2.1 u10.2.2.1 u10.2.2.2.1 u10.2.2.2.2.1 u10.2.2.2.2.2.1 u10.2.2.2.2.2.2.1 u10.2.2.2.2.2.2.2.1 u10.2.2.2.2.2.2.2.2.1 u10.2.2.2.2.2.2.2.2.2) H := hP
        have hD : va_D A (wX g cA u10.1 u10.2.1 u10.2.2.1 u10.2.2.2.1 u10.2.2.2.2.1 u10.2.2.2.2.2.1 u10.2.2.2.2.2.2.1 u10.2.2.2.2.2.2.2.1 u10.2.2.2.2.2.2.2.2.1 u10.2.2.2.2.2.2.2.2.2) := hD
        obtain rfl := Option.some.inj hE
        exact rt_v hx hb hr hP hS hlocks dX12_goesOn_67
      · have hE := if_t c7 hE
        exact w36  t s r c y d k q o m H locs ls hP hD hS (lv_sub hl [1] rfl) hE
set_option maxRecDepth 20000 in
theorem hX12_run_X12_interpret_314 : GoodIn wsX12_run (wsV RX12 314 RX12 yX12_interpret wsX12_interpret) := goodIn_r _ [12, 13, 14, 15, 16, 11, 7, 17, 18, 19, 20, 21, 22, 23, 15, 24, 6, 10, 25, 26, 27, 28, 29, 30, 31, 32, 33, 34, 35, 36, 37, 38, 39, 40, 41, 42, 43, 44, 45, 46, 47, 48, 49, 50, 51, 52, 53, 54, 55, 56, 57, 58, 59, 60, 61, 8, 9, 62, 63, 64, 65, 4, 66, 67, 68, 69, 70, 71, 72, 73, 74, 75, 76, 77, 78, 79, 80, 81, 2, 3, 82, 83, 84, 85, 86, 87, 88, 89, 90, 91, 92, 93, 94, 95, 96, 97, 98, 99, 100, 101, 102, 103, 104, 105, 106, 107, 108, 109, 110, 111, 112, 113, 114, 115, 116, 117, 118, 119, 120, 121, 122, 123, 124, 125, 126, 127, 128, 129, 130, 131, 132, 133, 134, 135, 136, 137, 138, 139, 140, 141, 142, 143, 144, 145, 146, 147, 148, 149, 150, 151, 152, 153, 154, 155, 156, 5, 157, 158, 159, 160, 161, 162, 163, 164, 165, 166, 167, 168, 169, 170, 171, 172, 173, 174, 175, 176, 177, 178, 179, 180, 181, 182, 183, 184, 185, 186, 187, 188, 189, 190, 191, 192, 193, 194, 195, 196, 197, 198, 199, 200, 201, 202, 203, 204, 205, 206, 207, 208, 209, 218, 219, 220, 221, 222, 223, 224, 225, 226, 227, 228, 229, 230, 231, 232, 233, 234, 235, 236, 237, 238, 239, 240, 241, 242, 243, 244, 245, 246, 247, 248, 249, 250, 251, 252, 253, 254, 255, 256, 257] rfl (by decide +kernel)
set_option maxRecDepth 20000 in
theorem hX12_run_X12_comesBack_317 : GoodIn wsX12_run (wsV RX12 317 RX12 yX12_comesBack wsX12_comesBack) := goodIn_r _ [210, 211, 212, 15, 213, 8, 20, 73, 74, 75, 15, 76, 62, 58, 59, 60, 61, 9, 63, 64, 65, 4, 66, 67, 68, 69, 11, 7, 70, 17, 71, 35, 72, 18, 218, 219, 220, 221, 222, 223, 224, 225, 226, 227, 228, 229, 230, 231, 232, 233, 234, 235, 236, 237, 238, 239, 240, 241, 242, 243, 244, 245, 246, 247, 248, 249, 250, 251, 252, 253, 254, 255, 256, 257] rfl (by decide +kernel)
set_option maxRecDepth 20000 in
theorem hX12_run_X12_goesOn_320 : GoodIn wsX12_run (wsV RX12 320 RX12 yX12_goesOn wsX12_goesOn) := goodIn_r _ [214, 215, 216, 15, 217, 97, 8, 57, 174, 175, 176, 15, 177, 35, 58, 59, 60, 61, 9, 20, 62, 63, 64, 65, 4, 66, 67, 68, 69, 11, 7, 70, 17, 71, 72, 18, 73, 74, 75, 76, 77, 78, 79, 80, 81, 2, 3, 82, 83, 84, 85, 86, 87, 88, 89, 90, 91, 92, 93, 94, 95, 96, 98, 99, 100, 101, 102, 103, 104, 105, 106, 107, 108, 109, 110, 111, 112, 113, 114, 115, 116, 117, 118, 119, 120, 121, 122, 123, 124, 125, 126, 127, 128, 129, 130, 131, 132, 133, 134, 135, 136, 137, 138, 139, 140, 141, 142, 143, 144, 145, 146, 147, 53, 54, 55, 56, 148, 149, 150, 151, 152, 153, 154, 155, 156, 5, 157, 158, 159, 160, 161, 45, 52, 162, 163, 164, 165, 46, 19, 47, 30, 25, 166, 167, 168, 169, 21, 22, 23, 24, 6, 10, 26, 27, 28, 29, 170, 171, 172, 173, 31, 32, 33, 34, 36, 37, 38, 39, 40, 41, 42, 43, 44, 48, 49, 50, 51, 178, 179, 180, 181, 182, 183, 184, 185, 186, 187, 188, 189, 190, 191, 192, 193, 194, 195, 196, 197, 198, 199, 200, 201, 202, 218, 219, 220, 221, 222, 223, 224, 225, 226, 227, 228, 229, 230, 231, 232, 233, 234, 235, 236, 237, 238, 239, 240, 241, 242, 243, 244, 245, 246, 247, 248, 249, 250, 251, 252, 253, 254, 255, 256, 257] rfl (by decide +kernel)
set_option maxHeartbeats 4000000 in
set_option maxRecDepth 100000 in
theorem c_X12_run (l : Launch) (D : va_G) (cA : Nat → ClassId) (g : Nat → Nat) (sz : Nat) (x1 : Int32) (t : mT) (s : mS) (r : mR) (c : mC) (y : mY) (d : mD) (k : mK) (q : mP) (o : mO) (m : mM) (u : Int32 × mT × mS × mR × mC × mY × mD × mK × mP × mO × mM) (hE : f_X12_run x1 t s r c y d k q o m = some u) : Met l yX12_run wsX12_run ({ frames := 8, cells := 0, slots := 0, locals := 171 }) (va_Pc [.ref (g 0), .int x1] (PRE D cA (wX g cA t s r c y d k q o m) sz (fun _ => True))) (cQi D (wX g cA u.2.1 u.2.2.1 u.2.2.2.1 u.2.2.2.2.1 u.2.2.2.2.2.1 u.2.2.2.2.2.2.1 u.2.2.2.2.2.2.2.1 u.2.2.2.2.2.2.2.2.1 u.2.2.2.2.2.2.2.2.2.1 u.2.2.2.2.2.2.2.2.2.2) (va_A (wX g cA t s r c y d k q o m) sz) u.1) 0 0 (va_A (wX g cA t s r c y d k q o m) sz) := by
  refine Met.ofW (cc := cX12_run) (maxL := 3) (ret := (some .int)) (by decide) rfl ?_
  intro PP EE S0 MM args below meth CC S1 B hml hv
  obtain ⟨rfl, hsz, hP, hK, hD0, hX⟩ := hv
  have hx := B.exec
  have hb := B.bytes
  have hr := B.returns
  have hts := atoms_spec (ws := wsX12_run) B.pre
  have hown : S0.vm.findClass RX12 = some MM.cls := findClass_of_methodNamed B.named
  have hlocks := B.notSynchronized
  subst hsz
  have hD := hD0.self (sz := S0.heap.size)
  generalize hAe : va_A (wX g cA t s r c y d k q o m) S0.heap.size = A at hD ⊢
  have hA : ∀ q : Nat, S0.heap.size ≤ q → A q := fun q h => by rw [← hAe]; exact Or.inr h
  have hS : va_S A S0.heap S0.heap [] := va_S.rf
  have k0 := hts (.fieldLink RX12 215 "WordForgeModel" "thrown" "I") (List.mem_of_getElem? (i := 1) rfl)
  have inX12 : ∀ w ∈ wsX120, w ∈ wsX12_run := fun _ h => List.mem_cons_of_mem _ (List.mem_append_right _ h)
  have k2 := hts (.fieldLink RX12 299 "WordForgeModel" "left" "I") (List.mem_of_getElem? (i := 2) rfl)
  have k3 := hts (.fieldLink RX12 302 "WordForgeModel" "steps" "I") (List.mem_of_getElem? (i := 3) rfl)
  have k4 := hts (.fieldLink RX12 305 "WordForgeModel" "caught" "I") (List.mem_of_getElem? (i := 4) rfl)
  have k5 := hts (.fieldLink RX12 308 "WordForgeModel" "written" "I") (List.mem_of_getElem? (i := 5) rfl)
  have k6 := hts (.fieldLink RX12 222 "WordForgeModel" "at" "I") (List.mem_of_getElem? (i := 6) rfl)
  have k7 := hts (.fieldLink RX12 262 "WordForgeModel" "ended" "Z") (List.mem_of_getElem? (i := 7) rfl)
  have k8 := hts (.fieldLink RX12 311 "WordForgeModel" "calls" "I") (List.mem_of_getElem? (i := 8) rfl)
  have k9 := hts (.fieldLink RX12 178 "WordForgeModel" "hadStack" "[I") (List.mem_of_getElem? (i := 9) rfl)
  have k10 := hts (.fieldLink RX12 219 "WordForgeModel" "size" "I") (List.mem_of_getElem? (i := 10) rfl)
  have k11 := hts (.fieldLink RX12 259 "WordForgeModel" "result" "I") (List.mem_of_getElem? (i := 11) rfl)
  have hl := lv_entry ([.ref (g 0), .int x1]) (n := 3) (Nat.le_of_ble_eq_true rfl)
  rw [lg_entry_eq]
  generalize (lg_sl ([.ref (g 0), .int x1]) ++ List.replicate (3 - (lg_sl ([.ref (g 0), .int x1])).length) Slot.unset).toArray = ls at hl ⊢
  have hl : lv_has ls 3 [(0, .ref (g 0)), (1, .int x1)] := hl
  have w114 : ∀ (K61 : Int32 → mT → mS → mR → mC → mY → mD → mK → mP → mO → mM → Option (Int32 × mT × mS × mR × mC × mY × mD × mK × mP × mO × mM)) (_ : ∀ (y2 : Int32) (t : mT) (s : mS) (r : mR) (c : mC) (y : mY) (d : mD) (k : mK) (q : mP) (o : mO) (m : mM) (H : Heap) (locs : List Loc) (ls : Array Slot), va_P D vwCl (wX g cA t s r c y d k q o m) H → va_D A (wX g cA t s r c y d k q o m) → va_S A S0.heap H locs → lv_has ls 3 [(0, .ref (g 0)), (2, .int y2)] → K61 y2 t s r c y d k q o m = some u → W PP l EE (headSpec wsX12_run ({ frames := 8, cells := 0, slots := 0, locals := 171 })).room S0 MM (#[.ref (g 0), .int x1] : Array Value) below meth CC H locs 0 0 (MQ below (cQi D (wX g cA u.2.1 u.2.2.1 u.2.2.2.1 u.2.2.2.2.1 u.2.2.2.2.2.1 u.2.2.2.2.2.2.1 u.2.2.2.2.2.2.2.1 u.2.2.2.2.2.2.2.2.1 u.2.2.2.2.2.2.2.2.2.1 u.2.2.2.2.2.2.2.2.2.2) A u.1) (#[.ref (g 0), .int x1] : Array Value) S0 0 0 A) (F0 MM 61 ls [])), ∀ (y2 : Int32) (t : mT) (s : mS) (r : mR) (c : mC) (y : mY) (d : mD) (k : mK) (q : mP) (o : mO) (m : mM) (H : Heap) (locs : List Loc) (ls : Array Slot), va_P D vwCl (wX g cA t s r c y d k q o m) H → va_D A (wX g cA t s r c y d k q o m) → va_S A S0.heap H locs → lv_has ls 3 [(0, .ref (g 0)), (2, .int y2)] → b_X12_run_114 K61 y2 t s r c y d k q o m = some u → W PP l EE (headSpec wsX12_run ({ frames := 8, cells := 0, slots := 0, locals := 171 })).room S0 MM (#[.ref (g 0), .int x1] : Array Value) below meth CC H locs 0 0 (MQ below (cQi D (wX g cA u.2.1 u.2.2.1 u.2.2.2.1 u.2.2.2.2.1 u.2.2.2.2.2.1 u.2.2.2.2.2.2.1 u.2.2.2.2.2.2.2.1 u.2.2.2.2.2.2.2.2.1 u.2.2.2.2.2.2.2.2.2.1 u.2.2.2.2.2.2.2.2.2.2) A u.1) (#[.ref (g 0), .int x1] : Array Value) S0 0 0 A) (F0 MM 114 ls []) := by
    intro K61 hK61
    intro y2 t s r c y d k q o m
    intro H locs ls hP hD hS hl hE
    unfold b_X12_run_114 at hE
    refine lv_iinc (v := y2 + 1) (lv' := [(2, .int (y2 + 1)), (0, .ref (g 0))]) hx hb dX12_run_114 hl (k := 1) rfl rfl (by decide) rfl (fun ls hl => ?_)
    refine lv_goto (tgt := 61) hx hb dX12_run_117 (by decide) ?_
    exact hK61 (y2 + 1) t s r c y d k q o m H locs ls hP hD hS (lv_sub hl [1, 0] rfl) hE
  have w120 : ∀ (t : mT) (s : mS) (r : mR) (c : mC) (y : mY) (d : mD) (k : mK) (q : mP) (o : mO) (m : mM) (H : Heap) (locs : List Loc) (ls : Array Slot), va_P D vwCl (wX g cA t s r c y d k q o m) H → va_D A (wX g cA t s r c y d k q o m) → va_S A S0.heap H locs → lv_has ls 3 [(0, .ref (g 0))] → b_X12_run_120  t s r c y d k q o m = some u → W PP l EE (headSpec wsX12_run ({ frames := 8, cells := 0, slots := 0, locals := 171 })).room S0 MM (#[.ref (g 0), .int x1] : Array Value) below meth CC H locs 0 0 (MQ below (cQi D (wX g cA u.2.1 u.2.2.1 u.2.2.2.1 u.2.2.2.2.1 u.2.2.2.2.2.1 u.2.2.2.2.2.2.1 u.2.2.2.2.2.2.2.1 u.2.2.2.2.2.2.2.2.1 u.2.2.2.2.2.2.2.2.2.1 u.2.2.2.2.2.2.2.2.2.2) A u.1) (#[.ref (g 0), .int x1] : Array Value) S0 0 0 A) (F0 MM 120 ls []) := by
    intro t s r c y d k q o m
    intro H locs ls hP hD hS hl hE
    unfold b_X12_run_120 at hE
    refine lv_aload_n hx hb dX12_run_120 rfl (lv_at hl 0 rfl) ?_
    refine lv_iconst (v := 0) hx hb dX12_run_121 (by decide +kernel) ?_
    refine va_put (D := D) (ci := 10) (v := .int 0) (ty := .int) (C := RX12) (T := TX12) (N := 40) hx hb hts inX12 tyX12 tyX12_ok nmX12 hown hK hP hD hS 0 rfl rfl 4 (by decide) k10 (fun _ h9 => h9) rfl (by decide +kernel) rfl rfl (Nat.le_of_ble_eq_true rfl) dX12_run_122 (fun H locs hP hD hS => ?_)
    have hP : va_P D vwCl (wX g cA ((0, t.2.1, t.2.2.1, t.2.2.2.1, t.2.2.2.2)) s r c y d k q o m) H := hP
    have hD : va_D A (wX g cA ((0, t.2.1, t.2.2.1, t.2.2.2.1, t.2.2.2.2)) s r c y d k q o m) := hD
    refine lv_aload_n hx hb dX12_run_125 rfl (lv_at hl 0 rfl) ?_
    refine va_get (D := D) (ci := 10) (v := .int m.2.2.2.2.2.1) (C := RX12) (T := TX12) (N := 40) hx hb hts inX12 hown hK hP 0 rfl rfl 38 (by decide) k11 (fun _ h9 => h9) rfl dX12_run_126 ?_
    obtain rfl := Option.some.inj hE
    exact rt_i hx hb hr hP hS rfl hlocks dX12_run_129
  have w61 : ∀ (n : Nat), ∀ (y2 : Int32) (t : mT) (s : mS) (r : mR) (c : mC) (y : mY) (d : mD) (k : mK) (q : mP) (o : mO) (m : mM) (H : Heap) (locs : List Loc) (ls : Array Slot), va_P D vwCl (wX g cA t s r c y d k q o m) H → va_D A (wX g cA t s r c y d k q o m) → va_S A S0.heap H locs → lv_has ls 3 [(0, .ref (g 0)), (2, .int y2)] → b_X12_run_61 n y2 t s r c y d k q o m = some u → W PP l EE (headSpec wsX12_run ({ frames := 8, cells := 0, slots := 0, locals := 171 })).room S0 MM (#[.ref (g 0), .int x1] : Array Value) below meth CC H locs 0 0 (MQ below (cQi D (wX g cA u.2.1 u.2.2.1 u.2.2.2.1 u.2.2.2.2.1 u.2.2.2.2.2.1 u.2.2.2.2.2.2.1 u.2.2.2.2.2.2.2.1 u.2.2.2.2.2.2.2.2.1 u.2.2.2.2.2.2.2.2.2.1 u.2.2.2.2.2.2.2.2.2.2) A u.1) (#[.ref (g 0), .int x1] : Array Value) S0 0 0 A) (F0 MM 61 ls []) := by
    intro  n
    induction n with
    | zero => intros; rename_i hE; exact absurd hE (by simp [b_X12_run_61])
    | succ n ih61 =>
      intro y2 t s r c y d k q o m
      intro H locs ls hP hD hS hl hE
      unfold b_X12_run_61 at hE
      refine lv_iload_n hx hb dX12_run_61 rfl (lv_at hl 1 rfl) ?_
      refine lv_sipush (v := 10000) hx hb dX12_run_62 (by decide +kernel) ?_
      refine lv_icmp_ge (tgt := 120) hx hb dX12_run_65 (by decide) (fun c4 => ?_) (fun c4 => ?_)
      · have hE := if_t c4 hE
        exact w120  t s r c y d k q o m H locs ls hP hD hS (lv_sub hl [0] rfl) hE
      · have hE := if_f c4 hE
        refine lv_aload_n hx hb dX12_run_68 rfl (lv_at hl 0 rfl) ?_
        refine va_get (D := D) (ci := 10) (v := .int m.2.2.2.2.2.2) (C := RX12) (T := TX12) (N := 40) hx hb hts inX12 hown hK hP 0 rfl rfl 39 (by decide) k7 (fun _ h9 => h9) rfl dX12_run_69 ?_
        refine lv_if_ne (tgt := 120) hx hb dX12_run_72 (by decide) (fun c5 => ?_) (fun c5 => ?_)
        · have hE := if_f c5 hE
          exact w120  t s r c y d k q o m H locs ls hP hD hS (lv_sub hl [0] rfl) hE
        · have hE := if_t c5 hE
          refine lv_aload_n hx hb dX12_run_75 rfl (lv_at hl 0 rfl) ?_
          refine va_get (D := D) (ci := 10) (v := .int c.1) (C := RX12) (T := TX12) (N := 40) hx hb hts inX12 hown hK hP 0 rfl rfl 15 (by decide) k8 (fun _ h9 => h9) rfl dX12_run_76 ?_
          refine lv_if_ne (tgt := 89) hx hb dX12_run_79 (by decide) (fun c6 => ?_) (fun c6 => ?_)
          · have hE := if_f c6 hE
            refine lv_aload_n hx hb dX12_run_89 rfl (lv_at hl 0 rfl) ?_
            refine va_get (D := D) (ci := 10) (v := .ref (g 8)) (C := RX12) (T := TX12) (N := 40) hx hb hts inX12 hown hK hP 0 rfl rfl 13 (by decide) k9 (fun _ h9 => h9) rfl dX12_run_90 ?_
            refine lv_aload_n hx hb dX12_run_93 rfl (lv_at hl 0 rfl) ?_
            refine va_get (D := D) (ci := 10) (v := .int c.1) (C := RX12) (T := TX12) (N := 40) hx hb hts inX12 hown hK hP 0 rfl rfl 15 (by decide) k8 (fun _ h9 => h9) rfl dX12_run_94 ?_
            refine lv_iconst (v := 1) hx hb dX12_run_97 (by decide +kernel) ?_
            refine lv_isub hx hb dX12_run_98 ?_
            have ⟨c7, hE⟩ := ck_some hE
            refine va_iald hx hb hK hP 8 0 rfl rfl c7 dX12_run_99 ?_
            refine lv_if_lt (tgt := 110) hx hb dX12_run_100 (by decide) (fun c8 => ?_) (fun c8 => ?_)
            · have hE := if_t c8 hE
              refine lv_aload_n hx hb dX12_run_110 rfl (lv_at hl 0 rfl) ?_
              obtain ⟨u9, h10, hE⟩ := bd_some hE
              refine cw_v (As := []) (rest := []) (wc := (wX g cA t s r c y d k q o m)) ⟨hx, hb, hml, hown, hts⟩ (c_X12_goesOn l D cA g H.size t s r c y d k q o m u9 h10) (cwV 0 hts hX12_run_X12_goesOn_320 rfl rfl rfl (by decide +kernel) ⟨Nat.le_of_ble_eq_true rfl, Nat.le_of_ble_eq_true rfl⟩) rfl hl.1 rfl (Nat.le_of_ble_eq_true rfl) dX12_run_111 ⟨Nat.zero_le _, Nat.zero_le _⟩ hK hP hD hS hA (va_recv hK hP (ci := 10) (q0 := 0) rfl rfl) [g 0, g 1, g 2, g 3, g 4, g 5, g 6, g 7, g 8, g 9, g 10, g 11, g 12, g 13, g 14, g 15, g 16, g 17, g 18, g 19] rfl rfl (fun _ _ _ _ h => h) (fun _ _ _ => trivial) (fun H locs hP hD hS => ?_)
              have hP : va_P D vwCl (wX g cA u9.1 u9.2.1 u9.2.2.1 u9.2.2.2.1 u9.2.2.2.2.1 u9.2.2.2.2.2.1 u9.2.2.2.2.2.2.1 u9.2.2.2.2.2.2.2.1 u9.2.2.2.2.2.2.2.2.1 u9.2.2.2.2.2.2.2.2.2) H := hP
              have hD : va_D A (wX g cA u9.1 u9.2.1 u9.2.2.1 u9.2.2.2.1 u9.2.2.2.2.1 u9.2.2.2.2.2.1 u9.2.2.2.2.2.2.1 u9.2.2.2.2.2.2.2.1 u9.2.2.2.2.2.2.2.2.1 u9.2.2.2.2.2.2.2.2.2) := hD
              exact w114 (b_X12_run_61 n) ih61 y2 u9.1 u9.2.1 u9.2.2.1 u9.2.2.2.1 u9.2.2.2.2.1 u9.2.2.2.2.2.1 u9.2.2.2.2.2.2.1 u9.2.2.2.2.2.2.2.1 u9.2.2.2.2.2.2.2.2.1 u9.2.2.2.2.2.2.2.2.2 H locs ls hP hD hS (lv_sub hl [0, 1] rfl) hE
            · have hE := if_f c8 hE
              refine lv_aload_n hx hb dX12_run_103 rfl (lv_at hl 0 rfl) ?_
              obtain ⟨u11, h12, hE⟩ := bd_some hE
              refine cw_v (As := []) (rest := []) (wc := (wX g cA t s r c y d k q o m)) ⟨hx, hb, hml, hown, hts⟩ (c_X12_comesBack l D cA g H.size t s r c y d k q o m u11 h12) (cwV 0 hts hX12_run_X12_comesBack_317 rfl rfl rfl (by decide +kernel) ⟨Nat.le_of_ble_eq_true rfl, Nat.le_of_ble_eq_true rfl⟩) rfl hl.1 rfl (Nat.le_of_ble_eq_true rfl) dX12_run_104 ⟨Nat.zero_le _, Nat.zero_le _⟩ hK hP hD hS hA (va_recv hK hP (ci := 10) (q0 := 0) rfl rfl) [g 0, g 1, g 2, g 3, g 4, g 5, g 6, g 7, g 8, g 9, g 10, g 11, g 12, g 13, g 14, g 15, g 16, g 17, g 18, g 19] rfl rfl (fun _ _ _ _ h => h) (fun _ _ _ => trivial) (fun H locs hP hD hS => ?_)
              have hP : va_P D vwCl (wX g cA t u11.1 u11.2.1 u11.2.2.1 u11.2.2.2.1 u11.2.2.2.2.1 u11.2.2.2.2.2.1 u11.2.2.2.2.2.2.1 o u11.2.2.2.2.2.2.2) H := hP
              have hD : va_D A (wX g cA t u11.1 u11.2.1 u11.2.2.1 u11.2.2.2.1 u11.2.2.2.2.1 u11.2.2.2.2.2.1 u11.2.2.2.2.2.2.1 o u11.2.2.2.2.2.2.2) := hD
              refine lv_goto (tgt := 114) hx hb dX12_run_107 (by decide) ?_
              exact w114 (b_X12_run_61 n) ih61 y2 t u11.1 u11.2.1 u11.2.2.1 u11.2.2.2.1 u11.2.2.2.2.1 u11.2.2.2.2.2.1 u11.2.2.2.2.2.2.1 o u11.2.2.2.2.2.2.2 H locs ls hP hD hS (lv_sub hl [0, 1] rfl) hE
          · have hE := if_t c6 hE
            refine lv_aload_n hx hb dX12_run_82 rfl (lv_at hl 0 rfl) ?_
            obtain ⟨u13, h14, hE⟩ := bd_some hE
            refine cw_v (As := []) (rest := []) (wc := (wX g cA t s r c y d k q o m)) ⟨hx, hb, hml, hown, hts⟩ (c_X12_interpret l D cA g H.size t s r c y d k q o m u13 h14) (cwV 0 hts hX12_run_X12_interpret_314 rfl rfl rfl (by decide +kernel) ⟨Nat.le_of_ble_eq_true rfl, Nat.le_of_ble_eq_true rfl⟩) rfl hl.1 rfl (Nat.le_of_ble_eq_true rfl) dX12_run_83 ⟨Nat.zero_le _, Nat.zero_le _⟩ hK hP hD hS hA (va_recv hK hP (ci := 10) (q0 := 0) rfl rfl) [g 0, g 1, g 2, g 3, g 4, g 5, g 6, g 7, g 8, g 9, g 10, g 11, g 12, g 13, g 14, g 15, g 16, g 17, g 18, g 19] rfl rfl (fun _ _ _ _ h => h) (fun _ _ _ => trivial) (fun H locs hP hD hS => ?_)
            have hP : va_P D vwCl (wX g cA u13.1 u13.2.1 u13.2.2.1 u13.2.2.2.1 u13.2.2.2.2.1 u13.2.2.2.2.2.1 u13.2.2.2.2.2.2.1 u13.2.2.2.2.2.2.2.1 u13.2.2.2.2.2.2.2.2.1 u13.2.2.2.2.2.2.2.2.2) H := hP
            have hD : va_D A (wX g cA u13.1 u13.2.1 u13.2.2.1 u13.2.2.2.1 u13.2.2.2.2.1 u13.2.2.2.2.2.1 u13.2.2.2.2.2.2.1 u13.2.2.2.2.2.2.2.1 u13.2.2.2.2.2.2.2.2.1 u13.2.2.2.2.2.2.2.2.2) := hD
            refine lv_goto (tgt := 114) hx hb dX12_run_86 (by decide) ?_
            exact w114 (b_X12_run_61 n) ih61 y2 u13.1 u13.2.1 u13.2.2.1 u13.2.2.2.1 u13.2.2.2.2.1 u13.2.2.2.2.2.1 u13.2.2.2.2.2.2.1 u13.2.2.2.2.2.2.2.1 u13.2.2.2.2.2.2.2.2.1 u13.2.2.2.2.2.2.2.2.2 H locs ls hP hD hS (lv_sub hl [0, 1] rfl) hE
  have w17 : ∀ (y1 : Int32) (z0 : Int32) (t : mT) (s : mS) (r : mR) (c : mC) (y : mY) (d : mD) (k : mK) (q : mP) (o : mO) (m : mM) (H : Heap) (locs : List Loc) (ls : Array Slot), va_P D vwCl (wX g cA t s r c y d k q o m) H → va_D A (wX g cA t s r c y d k q o m) → va_S A S0.heap H locs → lv_has ls 3 [(0, .ref (g 0)), (1, .int y1)] → b_X12_run_17  y1 z0 t s r c y d k q o m = some u → W PP l EE (headSpec wsX12_run ({ frames := 8, cells := 0, slots := 0, locals := 171 })).room S0 MM (#[.ref (g 0), .int x1] : Array Value) below meth CC H locs 0 0 (MQ below (cQi D (wX g cA u.2.1 u.2.2.1 u.2.2.2.1 u.2.2.2.2.1 u.2.2.2.2.2.1 u.2.2.2.2.2.2.1 u.2.2.2.2.2.2.2.1 u.2.2.2.2.2.2.2.2.1 u.2.2.2.2.2.2.2.2.2.1 u.2.2.2.2.2.2.2.2.2.2) A u.1) (#[.ref (g 0), .int x1] : Array Value) S0 0 0 A) (F0 MM 17 ls [.int z0, .ref (g 0)]) := by
    intro y1 z0 t s r c y d k q o m
    intro H locs ls hP hD hS hl hE
    unfold b_X12_run_17 at hE
    refine va_put (D := D) (ci := 10) (v := .int z0) (ty := .int) (C := RX12) (T := TX12) (N := 40) hx hb hts inX12 tyX12 tyX12_ok nmX12 hown hK hP hD hS 0 rfl rfl 2 (by decide) k0 (fun _ h9 => h9) rfl (by decide +kernel) rfl rfl (Nat.le_of_ble_eq_true rfl) dX12_run_17 (fun H locs hP hD hS => ?_)
    have hP : va_P D vwCl (wX g cA t s r c y d k q o ((z0, m.2.1, m.2.2.1, m.2.2.2.1, m.2.2.2.2.1, m.2.2.2.2.2.1, m.2.2.2.2.2.2))) H := hP
    have hD : va_D A (wX g cA t s r c y d k q o ((z0, m.2.1, m.2.2.1, m.2.2.2.1, m.2.2.2.2.1, m.2.2.2.2.2.1, m.2.2.2.2.2.2))) := hD
    refine lv_aload_n hx hb dX12_run_20 rfl (lv_at hl 0 rfl) ?_
    refine va_get (D := D) (ci := 10) (v := .int z0) (C := RX12) (T := TX12) (N := 40) hx hb hts inX12 hown hK hP 0 rfl rfl 2 (by decide) k0 (fun _ h9 => h9) rfl dX12_run_21 ?_
    refine lv_if_le (tgt := 29) hx hb dX12_run_24 (by decide) (fun c3 => ?_) (fun c3 => ?_)
    · have hE := if_t c3 hE
      refine lv_aload_n hx hb dX12_run_29 rfl (lv_at hl 0 rfl) ?_
      refine lv_iload_n hx hb dX12_run_30 rfl (lv_at hl 1 rfl) ?_
      refine va_put (D := D) (ci := 10) (v := .int y1) (ty := .int) (C := RX12) (T := TX12) (N := 40) hx hb hts inX12 tyX12 tyX12_ok nmX12 hown hK hP hD hS 0 rfl rfl 34 (by decide) k2 (fun _ h9 => h9) rfl (by decide +kernel) rfl rfl (Nat.le_of_ble_eq_true rfl) dX12_run_31 (fun H locs hP hD hS => ?_)
      have hP : va_P D vwCl (wX g cA t s r c y d k q o ((z0, y1, m.2.2.1, m.2.2.2.1, m.2.2.2.2.1, m.2.2.2.2.2.1, m.2.2.2.2.2.2))) H := hP
      have hD : va_D A (wX g cA t s r c y d k q o ((z0, y1, m.2.2.1, m.2.2.2.1, m.2.2.2.2.1, m.2.2.2.2.2.1, m.2.2.2.2.2.2))) := hD
      refine lv_aload_n hx hb dX12_run_34 rfl (lv_at hl 0 rfl) ?_
      refine lv_iconst (v := 0) hx hb dX12_run_35 (by decide +kernel) ?_
      refine va_put (D := D) (ci := 10) (v := .int 0) (ty := .int) (C := RX12) (T := TX12) (N := 40) hx hb hts inX12 tyX12 tyX12_ok nmX12 hown hK hP hD hS 0 rfl rfl 35 (by decide) k3 (fun _ h9 => h9) rfl (by decide +kernel) rfl rfl (Nat.le_of_ble_eq_true rfl) dX12_run_36 (fun H locs hP hD hS => ?_)
      have hP : va_P D vwCl (wX g cA t s r c y d k q o ((z0, y1, 0, m.2.2.2.1, m.2.2.2.2.1, m.2.2.2.2.2.1, m.2.2.2.2.2.2))) H := hP
      have hD : va_D A (wX g cA t s r c y d k q o ((z0, y1, 0, m.2.2.2.1, m.2.2.2.2.1, m.2.2.2.2.2.1, m.2.2.2.2.2.2))) := hD
      refine lv_aload_n hx hb dX12_run_39 rfl (lv_at hl 0 rfl) ?_
      refine lv_iconst (v := 0) hx hb dX12_run_40 (by decide +kernel) ?_
      refine va_put (D := D) (ci := 10) (v := .int 0) (ty := .int) (C := RX12) (T := TX12) (N := 40) hx hb hts inX12 tyX12 tyX12_ok nmX12 hown hK hP hD hS 0 rfl rfl 36 (by decide) k4 (fun _ h9 => h9) rfl (by decide +kernel) rfl rfl (Nat.le_of_ble_eq_true rfl) dX12_run_41 (fun H locs hP hD hS => ?_)
      have hP : va_P D vwCl (wX g cA t s r c y d k q o ((z0, y1, 0, 0, m.2.2.2.2.1, m.2.2.2.2.2.1, m.2.2.2.2.2.2))) H := hP
      have hD : va_D A (wX g cA t s r c y d k q o ((z0, y1, 0, 0, m.2.2.2.2.1, m.2.2.2.2.2.1, m.2.2.2.2.2.2))) := hD
      refine lv_aload_n hx hb dX12_run_44 rfl (lv_at hl 0 rfl) ?_
      refine lv_iconst (v := 0) hx hb dX12_run_45 (by decide +kernel) ?_
      refine va_put (D := D) (ci := 10) (v := .int 0) (ty := .int) (C := RX12) (T := TX12) (N := 40) hx hb hts inX12 tyX12 tyX12_ok nmX12 hown hK hP hD hS 0 rfl rfl 7 (by decide) k5 (fun _ h9 => h9) rfl (by decide +kernel) rfl rfl (Nat.le_of_ble_eq_true rfl) dX12_run_46 (fun H locs hP hD hS => ?_)
      have hP : va_P D vwCl (wX g cA t s r c y d k q ((0, o.2)) ((z0, y1, 0, 0, m.2.2.2.2.1, m.2.2.2.2.2.1, m.2.2.2.2.2.2))) H := hP
      have hD : va_D A (wX g cA t s r c y d k q ((0, o.2)) ((z0, y1, 0, 0, m.2.2.2.2.1, m.2.2.2.2.2.1, m.2.2.2.2.2.2))) := hD
      refine lv_aload_n hx hb dX12_run_49 rfl (lv_at hl 0 rfl) ?_
      refine lv_iconst (v := 0) hx hb dX12_run_50 (by decide +kernel) ?_
      refine va_put (D := D) (ci := 10) (v := .int 0) (ty := .int) (C := RX12) (T := TX12) (N := 40) hx hb hts inX12 tyX12 tyX12_ok nmX12 hown hK hP hD hS 0 rfl rfl 5 (by decide) k6 (fun _ h9 => h9) rfl (by decide +kernel) rfl rfl (Nat.le_of_ble_eq_true rfl) dX12_run_51 (fun H locs hP hD hS => ?_)
      have hP : va_P D vwCl (wX g cA ((t.1, 0, t.2.2.1, t.2.2.2.1, t.2.2.2.2)) s r c y d k q ((0, o.2)) ((z0, y1, 0, 0, m.2.2.2.2.1, m.2.2.2.2.2.1, m.2.2.2.2.2.2))) H := hP
      have hD : va_D A (wX g cA ((t.1, 0, t.2.2.1, t.2.2.2.1, t.2.2.2.2)) s r c y d k q ((0, o.2)) ((z0, y1, 0, 0, m.2.2.2.2.1, m.2.2.2.2.2.1, m.2.2.2.2.2.2))) := hD
      refine lv_aload_n hx hb dX12_run_54 rfl (lv_at hl 0 rfl) ?_
      refine lv_iconst (v := 0) hx hb dX12_run_55 (by decide +kernel) ?_
      refine va_put (D := D) (ci := 10) (v := .int 0) (ty := .boolean) (C := RX12) (T := TX12) (N := 40) hx hb hts inX12 tyX12 tyX12_ok nmX12 hown hK hP hD hS 0 rfl rfl 39 (by decide) k7 (fun _ h9 => h9) rfl (by decide +kernel) (by decide +kernel) (by decide +kernel) (Nat.le_of_ble_eq_true rfl) dX12_run_56 (fun H locs hP hD hS => ?_)
      have hP : va_P D vwCl (wX g cA ((t.1, 0, t.2.2.1, t.2.2.2.1, t.2.2.2.2)) s r c y d k q ((0, o.2)) ((z0, y1, 0, 0, m.2.2.2.2.1, m.2.2.2.2.2.1, 0))) H := hP
      have hD : va_D A (wX g cA ((t.1, 0, t.2.2.1, t.2.2.2.1, t.2.2.2.2)) s r c y d k q ((0, o.2)) ((z0, y1, 0, 0, m.2.2.2.2.1, m.2.2.2.2.2.1, 0))) := hD
      refine lv_iconst (v := 0) hx hb dX12_run_59 (by decide +kernel) ?_
      refine lv_istore_n (lv' := [(2, .int 0), (0, .ref (g 0)), (1, .int y1)]) hx hb dX12_run_60 rfl hl (by decide) rfl (fun ls hl => ?_)
      exact w61 FU 0 ((t.1, 0, t.2.2.1, t.2.2.2.1, t.2.2.2.2)) s r c y d k q ((0, o.2)) ((z0, y1, 0, 0, m.2.2.2.2.1, m.2.2.2.2.2.1, 0)) H locs ls hP hD hS (lv_sub hl [1, 0] rfl) hE
    · have hE := if_f c3 hE
      refine lv_iconst (v := 0) hx hb dX12_run_27 (by decide +kernel) ?_
      obtain rfl := Option.some.inj hE
      exact rt_i hx hb hr hP hS rfl hlocks dX12_run_28
  have w12 : ∀ (y1 : Int32) (t : mT) (s : mS) (r : mR) (c : mC) (y : mY) (d : mD) (k : mK) (q : mP) (o : mO) (m : mM) (H : Heap) (locs : List Loc) (ls : Array Slot), va_P D vwCl (wX g cA t s r c y d k q o m) H → va_D A (wX g cA t s r c y d k q o m) → va_S A S0.heap H locs → lv_has ls 3 [(0, .ref (g 0)), (1, .int y1)] → b_X12_run_12  y1 t s r c y d k q o m = some u → W PP l EE (headSpec wsX12_run ({ frames := 8, cells := 0, slots := 0, locals := 171 })).room S0 MM (#[.ref (g 0), .int x1] : Array Value) below meth CC H locs 0 0 (MQ below (cQi D (wX g cA u.2.1 u.2.2.1 u.2.2.2.1 u.2.2.2.2.1 u.2.2.2.2.2.1 u.2.2.2.2.2.2.1 u.2.2.2.2.2.2.2.1 u.2.2.2.2.2.2.2.2.1 u.2.2.2.2.2.2.2.2.2.1 u.2.2.2.2.2.2.2.2.2.2) A u.1) (#[.ref (g 0), .int x1] : Array Value) S0 0 0 A) (F0 MM 12 ls [.ref (g 0)]) := by
    intro y1 t s r c y d k q o m
    intro H locs ls hP hD hS hl hE
    unfold b_X12_run_12 at hE
    refine lv_iconst (v := 1) hx hb dX12_run_12 (by decide +kernel) ?_
    refine lv_goto (tgt := 17) hx hb dX12_run_13 (by decide) ?_
    exact w17  y1 1 t s r c y d k q o m H locs ls hP hD hS (lv_sub hl [0, 1] rfl) hE
  unfold f_X12_run at hE
  suffices main : ∀ (H : Heap) (locs : List Loc) (ls : Array Slot), va_P D vwCl (wX g cA t s r c y d k q o m) H → va_D A (wX g cA t s r c y d k q o m) → va_S A S0.heap H locs → lv_has ls 3 [(0, .ref (g 0)), (1, .int x1)] → W PP l EE (headSpec wsX12_run ({ frames := 8, cells := 0, slots := 0, locals := 171 })).room S0 MM (#[.ref (g 0), .int x1] : Array Value) below meth CC H locs 0 0 (MQ below (cQi D (wX g cA u.2.1 u.2.2.1 u.2.2.2.1 u.2.2.2.2.1 u.2.2.2.2.2.1 u.2.2.2.2.2.2.1 u.2.2.2.2.2.2.2.1 u.2.2.2.2.2.2.2.2.1 u.2.2.2.2.2.2.2.2.2.1 u.2.2.2.2.2.2.2.2.2.2) A u.1) (#[.ref (g 0), .int x1] : Array Value) S0 0 0 A) (F0 MM 0 ls []) from main _ _ _ hP hD hS hl
  intro H locs ls hP hD hS hl
  refine lv_aload_n hx hb dX12_run_0 rfl (lv_at hl 0 rfl) ?_
  refine lv_iload_n hx hb dX12_run_1 rfl (lv_at hl 1 rfl) ?_
  refine lv_if_lt (tgt := 12) hx hb dX12_run_2 (by decide) (fun c1 => ?_) (fun c1 => ?_)
  · have hE := if_t c1 hE
    exact w12  x1 t s r c y d k q o m H locs ls hP hD hS (lv_sub hl [0, 1] rfl) hE
  · have hE := if_f c1 hE
    refine lv_iload_n hx hb dX12_run_5 rfl (lv_at hl 1 rfl) ?_
    refine lv_sipush (v := 3000) hx hb dX12_run_6 (by decide +kernel) ?_
    refine lv_icmp_le (tgt := 16) hx hb dX12_run_9 (by decide) (fun c2 => ?_) (fun c2 => ?_)
    · have hE := if_t c2 hE
      refine lv_iconst (v := 0) hx hb dX12_run_16 (by decide +kernel) ?_
      exact w17  x1 0 t s r c y d k q o m H locs ls hP hD hS (lv_sub hl [0, 1] rfl) hE
    · have hE := if_f c2 hE
      exact w12  x1 t s r c y d k q o m H locs ls hP hD hS (lv_sub hl [0, 1] rfl) hE
set_option maxHeartbeats 4000000 in
set_option maxRecDepth 100000 in
theorem c_X12_shown (l : Launch) (D : va_G) (cA : Nat → ClassId) (g : Nat → Nat) (sz : Nat) (x1 : Int32) (x2 : Int32) (t : mT) (s : mS) (r : mR) (c : mC) (y : mY) (d : mD) (k : mK) (q : mP) (o : mO) (m : mM) (u : Int32 × mM) (hE : f_X12_shown x1 x2 m = some u) : Met l yX12_shown wsX12_shown ({ frames := 0, cells := 0, slots := 0, locals := 0 }) (va_Pc [.ref (g 0), .int x1, .int x2] (PRE D cA (wX g cA t s r c y d k q o m) sz (fun _ => True))) (cQi D (wX g cA t s r c y d k q o u.2) (va_A (wX g cA t s r c y d k q o m) sz) u.1) 0 0 (va_A (wX g cA t s r c y d k q o m) sz) := by
  refine Met.ofW (cc := cX12_shown) (maxL := 3) (ret := (some .int)) (by decide) rfl ?_
  intro PP EE S0 MM args below meth CC S1 B hml hv
  obtain ⟨rfl, hsz, hP, hK, hD0, hX⟩ := hv
  have hx := B.exec
  have hb := B.bytes
  have hr := B.returns
  have hts := atoms_spec (ws := wsX12_shown) B.pre
  have hown : S0.vm.findClass RX12 = some MM.cls := findClass_of_methodNamed B.named
  have hlocks := B.notSynchronized
  subst hsz
  have hD := hD0.self (sz := S0.heap.size)
  generalize hAe : va_A (wX g cA t s r c y d k q o m) S0.heap.size = A at hD ⊢
  have hA : ∀ q : Nat, S0.heap.size ≤ q → A q := fun q h => by rw [← hAe]; exact Or.inr h
  have hS : va_S A S0.heap S0.heap [] := va_S.rf
  have k0 := hts (.fieldLink RX12 215 "WordForgeModel" "thrown" "I") (List.mem_of_getElem? (i := 1) rfl)
  have inX12 : ∀ w ∈ wsX120, w ∈ wsX12_shown := fun _ h => List.mem_cons_of_mem _ (List.mem_append_right _ h)
  have hl := lv_entry ([.ref (g 0), .int x1, .int x2]) (n := 3) (Nat.le_of_ble_eq_true rfl)
  rw [lg_entry_eq]
  generalize (lg_sl ([.ref (g 0), .int x1, .int x2]) ++ List.replicate (3 - (lg_sl ([.ref (g 0), .int x1, .int x2])).length) Slot.unset).toArray = ls at hl ⊢
  have hl : lv_has ls 3 [(0, .ref (g 0)), (1, .int x1), (2, .int x2)] := hl
  have w10 : ∀ (y1 : Int32) (y2 : Int32) (z0 : Int32) (m : mM) (H : Heap) (locs : List Loc) (ls : Array Slot), va_P D vwCl (wX g cA t s r c y d k q o m) H → va_D A (wX g cA t s r c y d k q o m) → va_S A S0.heap H locs → lv_has ls 3 [(1, .int y1), (2, .int y2)] → b_X12_shown_10  y1 y2 z0 m = some u → W PP l EE (headSpec wsX12_shown ({ frames := 0, cells := 0, slots := 0, locals := 0 })).room S0 MM (#[.ref (g 0), .int x1, .int x2] : Array Value) below meth CC H locs 0 0 (MQ below (cQi D (wX g cA t s r c y d k q o u.2) A u.1) (#[.ref (g 0), .int x1, .int x2] : Array Value) S0 0 0 A) (F0 MM 10 ls [.int z0, .ref (g 0)]) := by
    intro y1 y2 z0 m
    intro H locs ls hP hD hS hl hE
    unfold b_X12_shown_10 at hE
    refine va_put (D := D) (ci := 10) (v := .int z0) (ty := .int) (C := RX12) (T := TX12) (N := 40) hx hb hts inX12 tyX12 tyX12_ok nmX12 hown hK hP hD hS 0 rfl rfl 2 (by decide) k0 (fun _ h9 => h9) rfl (by decide +kernel) rfl rfl (Nat.le_of_ble_eq_true rfl) dX12_shown_10 (fun H locs hP hD hS => ?_)
    have hP : va_P D vwCl (wX g cA t s r c y d k q o ((z0, m.2.1, m.2.2.1, m.2.2.2.1, m.2.2.2.2.1, m.2.2.2.2.2.1, m.2.2.2.2.2.2))) H := hP
    have hD : va_D A (wX g cA t s r c y d k q o ((z0, m.2.1, m.2.2.1, m.2.2.2.1, m.2.2.2.2.1, m.2.2.2.2.2.1, m.2.2.2.2.2.2))) := hD
    refine lv_iload_n hx hb dX12_shown_13 rfl (lv_at hl 0 rfl) ?_
    refine lv_if_eq (tgt := 21) hx hb dX12_shown_14 (by decide) (fun c2 => ?_) (fun c2 => ?_)
    · have hE := if_t c2 hE
      refine lv_iconst (v := 0) hx hb dX12_shown_21 (by decide +kernel) ?_
      obtain rfl := Option.some.inj hE
      exact rt_i hx hb hr hP hS rfl hlocks dX12_shown_22
    · have hE := if_f c2 hE
      refine lv_iload_n hx hb dX12_shown_17 rfl (lv_at hl 1 rfl) ?_
      refine lv_goto (tgt := 22) hx hb dX12_shown_18 (by decide) ?_
      obtain rfl := Option.some.inj hE
      exact rt_i hx hb hr hP hS rfl hlocks dX12_shown_22
  unfold f_X12_shown at hE
  suffices main : ∀ (H : Heap) (locs : List Loc) (ls : Array Slot), va_P D vwCl (wX g cA t s r c y d k q o m) H → va_D A (wX g cA t s r c y d k q o m) → va_S A S0.heap H locs → lv_has ls 3 [(0, .ref (g 0)), (1, .int x1), (2, .int x2)] → W PP l EE (headSpec wsX12_shown ({ frames := 0, cells := 0, slots := 0, locals := 0 })).room S0 MM (#[.ref (g 0), .int x1, .int x2] : Array Value) below meth CC H locs 0 0 (MQ below (cQi D (wX g cA t s r c y d k q o u.2) A u.1) (#[.ref (g 0), .int x1, .int x2] : Array Value) S0 0 0 A) (F0 MM 0 ls []) from main _ _ _ hP hD hS hl
  intro H locs ls hP hD hS hl
  refine lv_aload_n hx hb dX12_shown_0 rfl (lv_at hl 0 rfl) ?_
  refine lv_iload_n hx hb dX12_shown_1 rfl (lv_at hl 1 rfl) ?_
  refine lv_if_eq (tgt := 9) hx hb dX12_shown_2 (by decide) (fun c1 => ?_) (fun c1 => ?_)
  · have hE := if_t c1 hE
    refine lv_iconst (v := 1) hx hb dX12_shown_9 (by decide +kernel) ?_
    exact w10  x1 x2 1 m H locs ls hP hD hS (lv_sub hl [1, 2] rfl) hE
  · have hE := if_f c1 hE
    refine lv_iconst (v := 0) hx hb dX12_shown_5 (by decide +kernel) ?_
    refine lv_goto (tgt := 10) hx hb dX12_shown_6 (by decide) ?_
    exact w10  x1 x2 0 m H locs ls hP hD hS (lv_sub hl [1, 2] rfl) hE
set_option maxRecDepth 20000 in
theorem hX12_output_X12_shown_434 : GoodIn wsX12_output (wsV RX12 434 RX12 yX12_shown wsX12_shown) := goodIn_r _ [3, 4, 5, 6, 7, 8, 9, 10, 11, 12, 13, 14, 15, 16, 17, 18, 19, 20, 21, 22, 23, 24, 25, 26, 27, 28, 29, 30, 31, 32, 33, 34, 35, 36, 37, 38, 39, 40, 41, 42, 43, 44, 45, 46, 47, 48] rfl (by decide +kernel)
set_option maxHeartbeats 4000000 in
set_option maxRecDepth 100000 in
theorem c_X12_output (l : Launch) (D : va_G) (cA : Nat → ClassId) (g : Nat → Nat) (sz : Nat) (x1 : Int32) (t : mT) (s : mS) (r : mR) (c : mC) (y : mY) (d : mD) (k : mK) (q : mP) (o : mO) (m : mM) (u : Int32 × mM) (hE : f_X12_output x1 o m = some u) : Met l yX12_output wsX12_output ({ frames := 1, cells := 0, slots := 0, locals := 22 }) (va_Pc [.ref (g 0), .int x1] (PRE D cA (wX g cA t s r c y d k q o m) sz (fun _ => True))) (cQi D (wX g cA t s r c y d k q o u.2) (va_A (wX g cA t s r c y d k q o m) sz) u.1) 0 0 (va_A (wX g cA t s r c y d k q o m) sz) := by
  refine Met.ofW (cc := cX12_output) (maxL := 3) (ret := (some .char)) (by decide) rfl ?_
  intro PP EE S0 MM args below meth CC S1 B hml hv
  obtain ⟨rfl, hsz, hP, hK, hD0, hX⟩ := hv
  have hx := B.exec
  have hb := B.bytes
  have hr := B.returns
  have hts := atoms_spec (ws := wsX12_output) B.pre
  have hown : S0.vm.findClass RX12 = some MM.cls := findClass_of_methodNamed B.named
  have hlocks := B.notSynchronized
  subst hsz
  have hD := hD0.self (sz := S0.heap.size)
  generalize hAe : va_A (wX g cA t s r c y d k q o m) S0.heap.size = A at hD ⊢
  have hA : ∀ q : Nat, S0.heap.size ≤ q → A q := fun q h => by rw [← hAe]; exact Or.inr h
  have hS : va_S A S0.heap S0.heap [] := va_S.rf
  have k0 := hts (.fieldLink RX12 308 "WordForgeModel" "written" "I") (List.mem_of_getElem? (i := 1) rfl)
  have inX12 : ∀ w ∈ wsX120, w ∈ wsX12_output := fun _ h => List.mem_cons_of_mem _ (List.mem_append_right _ h)
  have k2 := hts (.fieldLink RX12 166 "WordForgeModel" "output" "[I") (List.mem_of_getElem? (i := 2) rfl)
  have hl := lv_entry ([.ref (g 0), .int x1]) (n := 3) (Nat.le_of_ble_eq_true rfl)
  rw [lg_entry_eq]
  generalize (lg_sl ([.ref (g 0), .int x1]) ++ List.replicate (3 - (lg_sl ([.ref (g 0), .int x1])).length) Slot.unset).toArray = ls at hl ⊢
  have hl : lv_has ls 3 [(0, .ref (g 0)), (1, .int x1)] := hl
  have w34 : ∀ (z0 : Int32) (z1 : Int32) (o : mO) (m : mM) (H : Heap) (locs : List Loc) (ls : Array Slot), va_P D vwCl (wX g cA t s r c y d k q o m) H → va_D A (wX g cA t s r c y d k q o m) → va_S A S0.heap H locs → lv_has ls 3 [] → b_X12_output_34  z0 z1 o m = some u → W PP l EE (headSpec wsX12_output ({ frames := 1, cells := 0, slots := 0, locals := 22 })).room S0 MM (#[.ref (g 0), .int x1] : Array Value) below meth CC H locs 0 0 (MQ below (cQi D (wX g cA t s r c y d k q o u.2) A u.1) (#[.ref (g 0), .int x1] : Array Value) S0 0 0 A) (F0 MM 34 ls [.int z0, .int z1, .ref (g 0)]) := by
    intro z0 z1 o m
    intro H locs ls hP hD hS hl hE
    unfold b_X12_output_34 at hE
    obtain ⟨u5, h6, hE⟩ := bd_some hE
    refine cw_i (As := [.int z1, .int z0]) (rest := []) (r := u5.1) (wc := (wX g cA t s r c y d k q o m)) ⟨hx, hb, hml, hown, hts⟩ (c_X12_shown l D cA g H.size z1 z0 t s r c y d k q o m u5 h6) (cwV 2 hts hX12_output_X12_shown_434 rfl rfl rfl (by decide +kernel) ⟨Nat.le_of_ble_eq_true rfl, Nat.le_of_ble_eq_true rfl⟩) rfl hl.1 rfl (Nat.le_of_ble_eq_true rfl) dX12_output_34 ⟨Nat.zero_le _, Nat.zero_le _⟩ hK hP hD hS hA (va_recv hK hP (ci := 10) (q0 := 0) rfl rfl) [g 0, g 1, g 2, g 3, g 4, g 5, g 6, g 7, g 8, g 9, g 10, g 11, g 12, g 13, g 14, g 15, g 16, g 17, g 18, g 19] rfl rfl (fun _ _ _ _ h => h) (fun _ _ _ => trivial) (fun H locs hP hD hS => ?_)
    have hP : va_P D vwCl (wX g cA t s r c y d k q o u5.2) H := hP
    have hD : va_D A (wX g cA t s r c y d k q o u5.2) := hD
    refine lv_i2c hx hb dX12_output_37 rfl ?_
    have ⟨c7, hE⟩ := ck_some hE
    obtain rfl := Option.some.inj hE
    exact rt_n hx hb hr (cfit c7).1 hP hS rfl hlocks dX12_output_38
  have w17 : ∀ (y1 : Int32) (z0 : Int32) (o : mO) (m : mM) (H : Heap) (locs : List Loc) (ls : Array Slot), va_P D vwCl (wX g cA t s r c y d k q o m) H → va_D A (wX g cA t s r c y d k q o m) → va_S A S0.heap H locs → lv_has ls 3 [(0, .ref (g 0)), (1, .int y1)] → b_X12_output_17  y1 z0 o m = some u → W PP l EE (headSpec wsX12_output ({ frames := 1, cells := 0, slots := 0, locals := 22 })).room S0 MM (#[.ref (g 0), .int x1] : Array Value) below meth CC H locs 0 0 (MQ below (cQi D (wX g cA t s r c y d k q o u.2) A u.1) (#[.ref (g 0), .int x1] : Array Value) S0 0 0 A) (F0 MM 17 ls [.int z0]) := by
    intro y1 z0 o m
    intro H locs ls hP hD hS hl hE
    unfold b_X12_output_17 at hE
    refine lv_istore_n (lv' := [(2, .int z0), (0, .ref (g 0)), (1, .int y1)]) hx hb dX12_output_17 rfl hl (by decide) rfl (fun ls hl => ?_)
    refine lv_aload_n hx hb dX12_output_18 rfl (lv_at hl 1 rfl) ?_
    refine lv_iload_n hx hb dX12_output_19 rfl (lv_at hl 0 rfl) ?_
    refine lv_iload_n hx hb dX12_output_20 rfl (lv_at hl 0 rfl) ?_
    refine lv_if_eq (tgt := 33) hx hb dX12_output_21 (by decide) (fun c3 => ?_) (fun c3 => ?_)
    · have hE := if_t c3 hE
      refine lv_iconst (v := 0) hx hb dX12_output_33 (by decide +kernel) ?_
      exact w34  0 z0 o m H locs ls hP hD hS (lv_sub hl [] rfl) hE
    · have hE := if_f c3 hE
      refine lv_aload_n hx hb dX12_output_24 rfl (lv_at hl 1 rfl) ?_
      refine va_get (D := D) (ci := 10) (v := .ref (g 4)) (C := RX12) (T := TX12) (N := 40) hx hb hts inX12 hown hK hP 0 rfl rfl 6 (by decide) k2 (fun _ h9 => h9) rfl dX12_output_25 ?_
      refine lv_iload_n hx hb dX12_output_28 rfl (lv_at hl 2 rfl) ?_
      have ⟨c4, hE⟩ := ck_some hE
      refine va_iald hx hb hK hP 4 0 rfl rfl c4 dX12_output_29 ?_
      refine lv_goto (tgt := 34) hx hb dX12_output_30 (by decide) ?_
      exact w34  (o.2 y1.toNatClampNeg) z0 o m H locs ls hP hD hS (lv_sub hl [] rfl) hE
  have w16 : ∀ (y1 : Int32) (o : mO) (m : mM) (H : Heap) (locs : List Loc) (ls : Array Slot), va_P D vwCl (wX g cA t s r c y d k q o m) H → va_D A (wX g cA t s r c y d k q o m) → va_S A S0.heap H locs → lv_has ls 3 [(0, .ref (g 0)), (1, .int y1)] → b_X12_output_16  y1 o m = some u → W PP l EE (headSpec wsX12_output ({ frames := 1, cells := 0, slots := 0, locals := 22 })).room S0 MM (#[.ref (g 0), .int x1] : Array Value) below meth CC H locs 0 0 (MQ below (cQi D (wX g cA t s r c y d k q o u.2) A u.1) (#[.ref (g 0), .int x1] : Array Value) S0 0 0 A) (F0 MM 16 ls []) := by
    intro y1 o m
    intro H locs ls hP hD hS hl hE
    unfold b_X12_output_16 at hE
    refine lv_iconst (v := 0) hx hb dX12_output_16 (by decide +kernel) ?_
    exact w17  y1 0 o m H locs ls hP hD hS (lv_sub hl [0, 1] rfl) hE
  unfold f_X12_output at hE
  suffices main : ∀ (H : Heap) (locs : List Loc) (ls : Array Slot), va_P D vwCl (wX g cA t s r c y d k q o m) H → va_D A (wX g cA t s r c y d k q o m) → va_S A S0.heap H locs → lv_has ls 3 [(0, .ref (g 0)), (1, .int x1)] → W PP l EE (headSpec wsX12_output ({ frames := 1, cells := 0, slots := 0, locals := 22 })).room S0 MM (#[.ref (g 0), .int x1] : Array Value) below meth CC H locs 0 0 (MQ below (cQi D (wX g cA t s r c y d k q o u.2) A u.1) (#[.ref (g 0), .int x1] : Array Value) S0 0 0 A) (F0 MM 0 ls []) from main _ _ _ hP hD hS hl
  intro H locs ls hP hD hS hl
  refine lv_iload_n hx hb dX12_output_0 rfl (lv_at hl 1 rfl) ?_
  refine lv_if_lt (tgt := 16) hx hb dX12_output_1 (by decide) (fun c1 => ?_) (fun c1 => ?_)
  · have hE := if_t c1 hE
    exact w16  x1 o m H locs ls hP hD hS (lv_sub hl [0, 1] rfl) hE
  · have hE := if_f c1 hE
    refine lv_iload_n hx hb dX12_output_4 rfl (lv_at hl 1 rfl) ?_
    refine lv_aload_n hx hb dX12_output_5 rfl (lv_at hl 0 rfl) ?_
    refine va_get (D := D) (ci := 10) (v := .int o.1) (C := RX12) (T := TX12) (N := 40) hx hb hts inX12 hown hK hP 0 rfl rfl 7 (by decide) k0 (fun _ h9 => h9) rfl dX12_output_6 ?_
    refine lv_icmp_ge (tgt := 16) hx hb dX12_output_9 (by decide) (fun c2 => ?_) (fun c2 => ?_)
    · have hE := if_t c2 hE
      exact w16  x1 o m H locs ls hP hD hS (lv_sub hl [0, 1] rfl) hE
    · have hE := if_f c2 hE
      refine lv_iconst (v := 1) hx hb dX12_output_12 (by decide +kernel) ?_
      refine lv_goto (tgt := 17) hx hb dX12_output_13 (by decide) ?_
      exact w17  x1 1 o m H locs ls hP hD hS (lv_sub hl [0, 1] rfl) hE
set_option maxRecDepth 20000 in
theorem hX12_stack_X12_shown_434 : GoodIn wsX12_stack (wsV RX12 434 RX12 yX12_shown wsX12_shown) := goodIn_r _ [3, 4, 5, 6, 7, 8, 9, 10, 11, 12, 13, 14, 15, 16, 17, 18, 19, 20, 21, 22, 23, 24, 25, 26, 27, 28, 29, 30, 31, 32, 33, 34, 35, 36, 37, 38, 39, 40, 41, 42, 43, 44, 45, 46, 47, 48] rfl (by decide +kernel)
set_option maxHeartbeats 4000000 in
set_option maxRecDepth 100000 in
theorem c_X12_stack (l : Launch) (D : va_G) (cA : Nat → ClassId) (g : Nat → Nat) (sz : Nat) (x1 : Int32) (t : mT) (s : mS) (r : mR) (c : mC) (y : mY) (d : mD) (k : mK) (q : mP) (o : mO) (m : mM) (u : Int32 × mM) (hE : f_X12_stack x1 s m = some u) : Met l yX12_stack wsX12_stack ({ frames := 1, cells := 0, slots := 0, locals := 22 }) (va_Pc [.ref (g 0), .int x1] (PRE D cA (wX g cA t s r c y d k q o m) sz (fun _ => True))) (cQi D (wX g cA t s r c y d k q o u.2) (va_A (wX g cA t s r c y d k q o m) sz) u.1) 0 0 (va_A (wX g cA t s r c y d k q o m) sz) := by
  refine Met.ofW (cc := cX12_stack) (maxL := 3) (ret := (some .int)) (by decide) rfl ?_
  intro PP EE S0 MM args below meth CC S1 B hml hv
  obtain ⟨rfl, hsz, hP, hK, hD0, hX⟩ := hv
  have hx := B.exec
  have hb := B.bytes
  have hr := B.returns
  have hts := atoms_spec (ws := wsX12_stack) B.pre
  have hown : S0.vm.findClass RX12 = some MM.cls := findClass_of_methodNamed B.named
  have hlocks := B.notSynchronized
  subst hsz
  have hD := hD0.self (sz := S0.heap.size)
  generalize hAe : va_A (wX g cA t s r c y d k q o m) S0.heap.size = A at hD ⊢
  have hA : ∀ q : Nat, S0.heap.size ≤ q → A q := fun q h => by rw [← hAe]; exact Or.inr h
  have hS : va_S A S0.heap S0.heap [] := va_S.rf
  have k0 := hts (.fieldLink RX12 293 "WordForgeModel" "depth" "I") (List.mem_of_getElem? (i := 1) rfl)
  have inX12 : ∀ w ∈ wsX120, w ∈ wsX12_stack := fun _ h => List.mem_cons_of_mem _ (List.mem_append_right _ h)
  have k2 := hts (.fieldLink RX12 169 "WordForgeModel" "stack" "[I") (List.mem_of_getElem? (i := 2) rfl)
  have hl := lv_entry ([.ref (g 0), .int x1]) (n := 3) (Nat.le_of_ble_eq_true rfl)
  rw [lg_entry_eq]
  generalize (lg_sl ([.ref (g 0), .int x1]) ++ List.replicate (3 - (lg_sl ([.ref (g 0), .int x1])).length) Slot.unset).toArray = ls at hl ⊢
  have hl : lv_has ls 3 [(0, .ref (g 0)), (1, .int x1)] := hl
  have w34 : ∀ (z0 : Int32) (z1 : Int32) (s : mS) (m : mM) (H : Heap) (locs : List Loc) (ls : Array Slot), va_P D vwCl (wX g cA t s r c y d k q o m) H → va_D A (wX g cA t s r c y d k q o m) → va_S A S0.heap H locs → lv_has ls 3 [] → b_X12_stack_34  z0 z1 s m = some u → W PP l EE (headSpec wsX12_stack ({ frames := 1, cells := 0, slots := 0, locals := 22 })).room S0 MM (#[.ref (g 0), .int x1] : Array Value) below meth CC H locs 0 0 (MQ below (cQi D (wX g cA t s r c y d k q o u.2) A u.1) (#[.ref (g 0), .int x1] : Array Value) S0 0 0 A) (F0 MM 34 ls [.int z0, .int z1, .ref (g 0)]) := by
    intro z0 z1 s m
    intro H locs ls hP hD hS hl hE
    unfold b_X12_stack_34 at hE
    obtain ⟨u5, h6, hE⟩ := bd_some hE
    refine cw_i (As := [.int z1, .int z0]) (rest := []) (r := u5.1) (wc := (wX g cA t s r c y d k q o m)) ⟨hx, hb, hml, hown, hts⟩ (c_X12_shown l D cA g H.size z1 z0 t s r c y d k q o m u5 h6) (cwV 2 hts hX12_stack_X12_shown_434 rfl rfl rfl (by decide +kernel) ⟨Nat.le_of_ble_eq_true rfl, Nat.le_of_ble_eq_true rfl⟩) rfl hl.1 rfl (Nat.le_of_ble_eq_true rfl) dX12_stack_34 ⟨Nat.zero_le _, Nat.zero_le _⟩ hK hP hD hS hA (va_recv hK hP (ci := 10) (q0 := 0) rfl rfl) [g 0, g 1, g 2, g 3, g 4, g 5, g 6, g 7, g 8, g 9, g 10, g 11, g 12, g 13, g 14, g 15, g 16, g 17, g 18, g 19] rfl rfl (fun _ _ _ _ h => h) (fun _ _ _ => trivial) (fun H locs hP hD hS => ?_)
    have hP : va_P D vwCl (wX g cA t s r c y d k q o u5.2) H := hP
    have hD : va_D A (wX g cA t s r c y d k q o u5.2) := hD
    obtain rfl := Option.some.inj hE
    exact rt_i hx hb hr hP hS rfl hlocks dX12_stack_37
  have w17 : ∀ (y1 : Int32) (z0 : Int32) (s : mS) (m : mM) (H : Heap) (locs : List Loc) (ls : Array Slot), va_P D vwCl (wX g cA t s r c y d k q o m) H → va_D A (wX g cA t s r c y d k q o m) → va_S A S0.heap H locs → lv_has ls 3 [(0, .ref (g 0)), (1, .int y1)] → b_X12_stack_17  y1 z0 s m = some u → W PP l EE (headSpec wsX12_stack ({ frames := 1, cells := 0, slots := 0, locals := 22 })).room S0 MM (#[.ref (g 0), .int x1] : Array Value) below meth CC H locs 0 0 (MQ below (cQi D (wX g cA t s r c y d k q o u.2) A u.1) (#[.ref (g 0), .int x1] : Array Value) S0 0 0 A) (F0 MM 17 ls [.int z0]) := by
    intro y1 z0 s m
    intro H locs ls hP hD hS hl hE
    unfold b_X12_stack_17 at hE
    refine lv_istore_n (lv' := [(2, .int z0), (0, .ref (g 0)), (1, .int y1)]) hx hb dX12_stack_17 rfl hl (by decide) rfl (fun ls hl => ?_)
    refine lv_aload_n hx hb dX12_stack_18 rfl (lv_at hl 1 rfl) ?_
    refine lv_iload_n hx hb dX12_stack_19 rfl (lv_at hl 0 rfl) ?_
    refine lv_iload_n hx hb dX12_stack_20 rfl (lv_at hl 0 rfl) ?_
    refine lv_if_eq (tgt := 33) hx hb dX12_stack_21 (by decide) (fun c3 => ?_) (fun c3 => ?_)
    · have hE := if_t c3 hE
      refine lv_iconst (v := 0) hx hb dX12_stack_33 (by decide +kernel) ?_
      exact w34  0 z0 s m H locs ls hP hD hS (lv_sub hl [] rfl) hE
    · have hE := if_f c3 hE
      refine lv_aload_n hx hb dX12_stack_24 rfl (lv_at hl 1 rfl) ?_
      refine va_get (D := D) (ci := 10) (v := .ref (g 5)) (C := RX12) (T := TX12) (N := 40) hx hb hts inX12 hown hK hP 0 rfl rfl 8 (by decide) k2 (fun _ h9 => h9) rfl dX12_stack_25 ?_
      refine lv_iload_n hx hb dX12_stack_28 rfl (lv_at hl 2 rfl) ?_
      have ⟨c4, hE⟩ := ck_some hE
      refine va_iald hx hb hK hP 5 0 rfl rfl c4 dX12_stack_29 ?_
      refine lv_goto (tgt := 34) hx hb dX12_stack_30 (by decide) ?_
      exact w34  (s.2 y1.toNatClampNeg) z0 s m H locs ls hP hD hS (lv_sub hl [] rfl) hE
  have w16 : ∀ (y1 : Int32) (s : mS) (m : mM) (H : Heap) (locs : List Loc) (ls : Array Slot), va_P D vwCl (wX g cA t s r c y d k q o m) H → va_D A (wX g cA t s r c y d k q o m) → va_S A S0.heap H locs → lv_has ls 3 [(0, .ref (g 0)), (1, .int y1)] → b_X12_stack_16  y1 s m = some u → W PP l EE (headSpec wsX12_stack ({ frames := 1, cells := 0, slots := 0, locals := 22 })).room S0 MM (#[.ref (g 0), .int x1] : Array Value) below meth CC H locs 0 0 (MQ below (cQi D (wX g cA t s r c y d k q o u.2) A u.1) (#[.ref (g 0), .int x1] : Array Value) S0 0 0 A) (F0 MM 16 ls []) := by
    intro y1 s m
    intro H locs ls hP hD hS hl hE
    unfold b_X12_stack_16 at hE
    refine lv_iconst (v := 0) hx hb dX12_stack_16 (by decide +kernel) ?_
    exact w17  y1 0 s m H locs ls hP hD hS (lv_sub hl [0, 1] rfl) hE
  unfold f_X12_stack at hE
  suffices main : ∀ (H : Heap) (locs : List Loc) (ls : Array Slot), va_P D vwCl (wX g cA t s r c y d k q o m) H → va_D A (wX g cA t s r c y d k q o m) → va_S A S0.heap H locs → lv_has ls 3 [(0, .ref (g 0)), (1, .int x1)] → W PP l EE (headSpec wsX12_stack ({ frames := 1, cells := 0, slots := 0, locals := 22 })).room S0 MM (#[.ref (g 0), .int x1] : Array Value) below meth CC H locs 0 0 (MQ below (cQi D (wX g cA t s r c y d k q o u.2) A u.1) (#[.ref (g 0), .int x1] : Array Value) S0 0 0 A) (F0 MM 0 ls []) from main _ _ _ hP hD hS hl
  intro H locs ls hP hD hS hl
  refine lv_iload_n hx hb dX12_stack_0 rfl (lv_at hl 1 rfl) ?_
  refine lv_if_lt (tgt := 16) hx hb dX12_stack_1 (by decide) (fun c1 => ?_) (fun c1 => ?_)
  · have hE := if_t c1 hE
    exact w16  x1 s m H locs ls hP hD hS (lv_sub hl [0, 1] rfl) hE
  · have hE := if_f c1 hE
    refine lv_iload_n hx hb dX12_stack_4 rfl (lv_at hl 1 rfl) ?_
    refine lv_aload_n hx hb dX12_stack_5 rfl (lv_at hl 0 rfl) ?_
    refine va_get (D := D) (ci := 10) (v := .int s.1) (C := RX12) (T := TX12) (N := 40) hx hb hts inX12 hown hK hP 0 rfl rfl 9 (by decide) k0 (fun _ h9 => h9) rfl dX12_stack_6 ?_
    refine lv_icmp_ge (tgt := 16) hx hb dX12_stack_9 (by decide) (fun c2 => ?_) (fun c2 => ?_)
    · have hE := if_t c2 hE
      exact w16  x1 s m H locs ls hP hD hS (lv_sub hl [0, 1] rfl) hE
    · have hE := if_f c2 hE
      refine lv_iconst (v := 1) hx hb dX12_stack_12 (by decide +kernel) ?_
      refine lv_goto (tgt := 17) hx hb dX12_stack_13 (by decide) ?_
      exact w17  x1 1 s m H locs ls hP hD hS (lv_sub hl [0, 1] rfl) hE
set_option maxRecDepth 20000 in
theorem hX12_cell_X12_shown_434 : GoodIn wsX12_cell (wsV RX12 434 RX12 yX12_shown wsX12_shown) := goodIn_r _ [2, 3, 4, 5, 6, 7, 8, 9, 10, 11, 12, 13, 14, 15, 16, 17, 18, 19, 20, 21, 22, 23, 24, 25, 26, 27, 28, 29, 30, 31, 32, 33, 34, 35, 36, 37, 38, 39, 40, 41, 42, 43, 44, 45, 46, 47] rfl (by decide +kernel)
set_option maxHeartbeats 4000000 in
set_option maxRecDepth 100000 in
theorem c_X12_cell (l : Launch) (D : va_G) (cA : Nat → ClassId) (g : Nat → Nat) (sz : Nat) (x1 : Int32) (t : mT) (s : mS) (r : mR) (c : mC) (y : mY) (d : mD) (k : mK) (q : mP) (o : mO) (m : mM) (u : Int32 × mM) (hE : f_X12_cell x1 y m = some u) : Met l yX12_cell wsX12_cell ({ frames := 1, cells := 0, slots := 0, locals := 22 }) (va_Pc [.ref (g 0), .int x1] (PRE D cA (wX g cA t s r c y d k q o m) sz (fun _ => True))) (cQi D (wX g cA t s r c y d k q o u.2) (va_A (wX g cA t s r c y d k q o m) sz) u.1) 0 0 (va_A (wX g cA t s r c y d k q o m) sz) := by
  refine Met.ofW (cc := cX12_cell) (maxL := 3) (ret := (some .int)) (by decide) rfl ?_
  intro PP EE S0 MM args below meth CC S1 B hml hv
  obtain ⟨rfl, hsz, hP, hK, hD0, hX⟩ := hv
  have hx := B.exec
  have hb := B.bytes
  have hr := B.returns
  have hts := atoms_spec (ws := wsX12_cell) B.pre
  have hown : S0.vm.findClass RX12 = some MM.cls := findClass_of_methodNamed B.named
  have hlocks := B.notSynchronized
  subst hsz
  have hD := hD0.self (sz := S0.heap.size)
  generalize hAe : va_A (wX g cA t s r c y d k q o m) S0.heap.size = A at hD ⊢
  have hA : ∀ q : Nat, S0.heap.size ≤ q → A q := fun q h => by rw [← hAe]; exact Or.inr h
  have hS : va_S A S0.heap S0.heap [] := va_S.rf
  have k0 := hts (.fieldLink RX12 184 "WordForgeModel" "cells" "[I") (List.mem_of_getElem? (i := 1) rfl)
  have inX12 : ∀ w ∈ wsX120, w ∈ wsX12_cell := fun _ h => List.mem_cons_of_mem _ (List.mem_append_right _ h)
  have hl := lv_entry ([.ref (g 0), .int x1]) (n := 3) (Nat.le_of_ble_eq_true rfl)
  rw [lg_entry_eq]
  generalize (lg_sl ([.ref (g 0), .int x1]) ++ List.replicate (3 - (lg_sl ([.ref (g 0), .int x1])).length) Slot.unset).toArray = ls at hl ⊢
  have hl : lv_has ls 3 [(0, .ref (g 0)), (1, .int x1)] := hl
  have w33 : ∀ (z0 : Int32) (z1 : Int32) (y : mY) (m : mM) (H : Heap) (locs : List Loc) (ls : Array Slot), va_P D vwCl (wX g cA t s r c y d k q o m) H → va_D A (wX g cA t s r c y d k q o m) → va_S A S0.heap H locs → lv_has ls 3 [] → b_X12_cell_33  z0 z1 y m = some u → W PP l EE (headSpec wsX12_cell ({ frames := 1, cells := 0, slots := 0, locals := 22 })).room S0 MM (#[.ref (g 0), .int x1] : Array Value) below meth CC H locs 0 0 (MQ below (cQi D (wX g cA t s r c y d k q o u.2) A u.1) (#[.ref (g 0), .int x1] : Array Value) S0 0 0 A) (F0 MM 33 ls [.int z0, .int z1, .ref (g 0)]) := by
    intro z0 z1 y m
    intro H locs ls hP hD hS hl hE
    unfold b_X12_cell_33 at hE
    obtain ⟨u5, h6, hE⟩ := bd_some hE
    refine cw_i (As := [.int z1, .int z0]) (rest := []) (r := u5.1) (wc := (wX g cA t s r c y d k q o m)) ⟨hx, hb, hml, hown, hts⟩ (c_X12_shown l D cA g H.size z1 z0 t s r c y d k q o m u5 h6) (cwV 2 hts hX12_cell_X12_shown_434 rfl rfl rfl (by decide +kernel) ⟨Nat.le_of_ble_eq_true rfl, Nat.le_of_ble_eq_true rfl⟩) rfl hl.1 rfl (Nat.le_of_ble_eq_true rfl) dX12_cell_33 ⟨Nat.zero_le _, Nat.zero_le _⟩ hK hP hD hS hA (va_recv hK hP (ci := 10) (q0 := 0) rfl rfl) [g 0, g 1, g 2, g 3, g 4, g 5, g 6, g 7, g 8, g 9, g 10, g 11, g 12, g 13, g 14, g 15, g 16, g 17, g 18, g 19] rfl rfl (fun _ _ _ _ h => h) (fun _ _ _ => trivial) (fun H locs hP hD hS => ?_)
    have hP : va_P D vwCl (wX g cA t s r c y d k q o u5.2) H := hP
    have hD : va_D A (wX g cA t s r c y d k q o u5.2) := hD
    obtain rfl := Option.some.inj hE
    exact rt_i hx hb hr hP hS rfl hlocks dX12_cell_36
  have w16 : ∀ (y1 : Int32) (z0 : Int32) (y : mY) (m : mM) (H : Heap) (locs : List Loc) (ls : Array Slot), va_P D vwCl (wX g cA t s r c y d k q o m) H → va_D A (wX g cA t s r c y d k q o m) → va_S A S0.heap H locs → lv_has ls 3 [(0, .ref (g 0)), (1, .int y1)] → b_X12_cell_16  y1 z0 y m = some u → W PP l EE (headSpec wsX12_cell ({ frames := 1, cells := 0, slots := 0, locals := 22 })).room S0 MM (#[.ref (g 0), .int x1] : Array Value) below meth CC H locs 0 0 (MQ below (cQi D (wX g cA t s r c y d k q o u.2) A u.1) (#[.ref (g 0), .int x1] : Array Value) S0 0 0 A) (F0 MM 16 ls [.int z0]) := by
    intro y1 z0 y m
    intro H locs ls hP hD hS hl hE
    unfold b_X12_cell_16 at hE
    refine lv_istore_n (lv' := [(2, .int z0), (0, .ref (g 0)), (1, .int y1)]) hx hb dX12_cell_16 rfl hl (by decide) rfl (fun ls hl => ?_)
    refine lv_aload_n hx hb dX12_cell_17 rfl (lv_at hl 1 rfl) ?_
    refine lv_iload_n hx hb dX12_cell_18 rfl (lv_at hl 0 rfl) ?_
    refine lv_iload_n hx hb dX12_cell_19 rfl (lv_at hl 0 rfl) ?_
    refine lv_if_eq (tgt := 32) hx hb dX12_cell_20 (by decide) (fun c3 => ?_) (fun c3 => ?_)
    · have hE := if_t c3 hE
      refine lv_iconst (v := 0) hx hb dX12_cell_32 (by decide +kernel) ?_
      exact w33  0 z0 y m H locs ls hP hD hS (lv_sub hl [] rfl) hE
    · have hE := if_f c3 hE
      refine lv_aload_n hx hb dX12_cell_23 rfl (lv_at hl 1 rfl) ?_
      refine va_get (D := D) (ci := 10) (v := .ref (g 10)) (C := RX12) (T := TX12) (N := 40) hx hb hts inX12 hown hK hP 0 rfl rfl 16 (by decide) k0 (fun _ h9 => h9) rfl dX12_cell_24 ?_
      refine lv_iload_n hx hb dX12_cell_27 rfl (lv_at hl 2 rfl) ?_
      have ⟨c4, hE⟩ := ck_some hE
      refine va_iald hx hb hK hP 10 0 rfl rfl c4 dX12_cell_28 ?_
      refine lv_goto (tgt := 33) hx hb dX12_cell_29 (by decide) ?_
      exact w33  (y.2 y1.toNatClampNeg) z0 y m H locs ls hP hD hS (lv_sub hl [] rfl) hE
  have w15 : ∀ (y1 : Int32) (y : mY) (m : mM) (H : Heap) (locs : List Loc) (ls : Array Slot), va_P D vwCl (wX g cA t s r c y d k q o m) H → va_D A (wX g cA t s r c y d k q o m) → va_S A S0.heap H locs → lv_has ls 3 [(0, .ref (g 0)), (1, .int y1)] → b_X12_cell_15  y1 y m = some u → W PP l EE (headSpec wsX12_cell ({ frames := 1, cells := 0, slots := 0, locals := 22 })).room S0 MM (#[.ref (g 0), .int x1] : Array Value) below meth CC H locs 0 0 (MQ below (cQi D (wX g cA t s r c y d k q o u.2) A u.1) (#[.ref (g 0), .int x1] : Array Value) S0 0 0 A) (F0 MM 15 ls []) := by
    intro y1 y m
    intro H locs ls hP hD hS hl hE
    unfold b_X12_cell_15 at hE
    refine lv_iconst (v := 0) hx hb dX12_cell_15 (by decide +kernel) ?_
    exact w16  y1 0 y m H locs ls hP hD hS (lv_sub hl [0, 1] rfl) hE
  unfold f_X12_cell at hE
  suffices main : ∀ (H : Heap) (locs : List Loc) (ls : Array Slot), va_P D vwCl (wX g cA t s r c y d k q o m) H → va_D A (wX g cA t s r c y d k q o m) → va_S A S0.heap H locs → lv_has ls 3 [(0, .ref (g 0)), (1, .int x1)] → W PP l EE (headSpec wsX12_cell ({ frames := 1, cells := 0, slots := 0, locals := 22 })).room S0 MM (#[.ref (g 0), .int x1] : Array Value) below meth CC H locs 0 0 (MQ below (cQi D (wX g cA t s r c y d k q o u.2) A u.1) (#[.ref (g 0), .int x1] : Array Value) S0 0 0 A) (F0 MM 0 ls []) from main _ _ _ hP hD hS hl
  intro H locs ls hP hD hS hl
  refine lv_iload_n hx hb dX12_cell_0 rfl (lv_at hl 1 rfl) ?_
  refine lv_if_lt (tgt := 15) hx hb dX12_cell_1 (by decide) (fun c1 => ?_) (fun c1 => ?_)
  · have hE := if_t c1 hE
    exact w15  x1 y m H locs ls hP hD hS (lv_sub hl [0, 1] rfl) hE
  · have hE := if_f c1 hE
    refine lv_iload_n hx hb dX12_cell_4 rfl (lv_at hl 1 rfl) ?_
    refine lv_sipush (v := 400) hx hb dX12_cell_5 (by decide +kernel) ?_
    refine lv_icmp_ge (tgt := 15) hx hb dX12_cell_8 (by decide) (fun c2 => ?_) (fun c2 => ?_)
    · have hE := if_t c2 hE
      exact w15  x1 y m H locs ls hP hD hS (lv_sub hl [0, 1] rfl) hE
    · have hE := if_f c2 hE
      refine lv_iconst (v := 1) hx hb dX12_cell_11 (by decide +kernel) ?_
      refine lv_goto (tgt := 16) hx hb dX12_cell_12 (by decide) ?_
      exact w16  x1 1 y m H locs ls hP hD hS (lv_sub hl [0, 1] rfl) hE
set_option maxHeartbeats 4000000 in
set_option maxRecDepth 100000 in
theorem c_X12_word (l : Launch) (D : va_G) (cA : Nat → ClassId) (g : Nat → Nat) (sz : Nat) (x1 : Int32) (x2 : Int32) (t : mT) (s : mS) (r : mR) (c : mC) (y : mY) (d : mD) (k : mK) (q : mP) (o : mO) (m : mM) (u : Int32 × mM) (hE : f_X12_word x1 x2 d m = some u) : Met l yX12_word wsX12_word ({ frames := 0, cells := 0, slots := 0, locals := 0 }) (va_Pc [.ref (g 0), .int x1, .int x2] (PRE D cA (wX g cA t s r c y d k q o m) sz (fun _ => True))) (cQi D (wX g cA t s r c y d k q o u.2) (va_A (wX g cA t s r c y d k q o m) sz) u.1) 0 0 (va_A (wX g cA t s r c y d k q o m) sz) := by
  refine Met.ofW (cc := cX12_word) (maxL := 3) (ret := (some .int)) (by decide) rfl ?_
  intro PP EE S0 MM args below meth CC S1 B hml hv
  obtain ⟨rfl, hsz, hP, hK, hD0, hX⟩ := hv
  have hx := B.exec
  have hb := B.bytes
  have hr := B.returns
  have hts := atoms_spec (ws := wsX12_word) B.pre
  have hown : S0.vm.findClass RX12 = some MM.cls := findClass_of_methodNamed B.named
  have hlocks := B.notSynchronized
  subst hsz
  have hD := hD0.self (sz := S0.heap.size)
  generalize hAe : va_A (wX g cA t s r c y d k q o m) S0.heap.size = A at hD ⊢
  have hA : ∀ q : Nat, S0.heap.size ≤ q → A q := fun q h => by rw [← hAe]; exact Or.inr h
  have hS : va_S A S0.heap S0.heap [] := va_S.rf
  have k0 := hts (.fieldLink RX12 239 "WordForgeModel" "made" "I") (List.mem_of_getElem? (i := 1) rfl)
  have inX12 : ∀ w ∈ wsX120, w ∈ wsX12_word := fun _ h => List.mem_cons_of_mem _ (List.mem_append_right _ h)
  have k2 := hts (.fieldLink RX12 215 "WordForgeModel" "thrown" "I") (List.mem_of_getElem? (i := 2) rfl)
  have k3 := hts (.fieldLink RX12 187 "WordForgeModel" "place" "[I") (List.mem_of_getElem? (i := 3) rfl)
  have k4 := hts (.fieldLink RX12 190 "WordForgeModel" "sort" "[I") (List.mem_of_getElem? (i := 4) rfl)
  have k5 := hts (.fieldLink RX12 196 "WordForgeModel" "immediate" "[Z") (List.mem_of_getElem? (i := 5) rfl)
  have k6 := hts (.fieldLink RX12 193 "WordForgeModel" "behaviour" "[I") (List.mem_of_getElem? (i := 6) rfl)
  have k7 := hts (.fieldLink RX12 200 "WordForgeModel" "finished" "[Z") (List.mem_of_getElem? (i := 7) rfl)
  have hl := lv_entry ([.ref (g 0), .int x1, .int x2]) (n := 3) (Nat.le_of_ble_eq_true rfl)
  rw [lg_entry_eq]
  generalize (lg_sl ([.ref (g 0), .int x1, .int x2]) ++ List.replicate (3 - (lg_sl ([.ref (g 0), .int x1, .int x2])).length) Slot.unset).toArray = ls at hl ⊢
  have hl : lv_has ls 3 [(0, .ref (g 0)), (1, .int x1), (2, .int x2)] := hl
  have w31 : ∀ (y1 : Int32) (y2 : Int32) (z0 : Int32) (d : mD) (m : mM) (H : Heap) (locs : List Loc) (ls : Array Slot), va_P D vwCl (wX g cA t s r c y d k q o m) H → va_D A (wX g cA t s r c y d k q o m) → va_S A S0.heap H locs → lv_has ls 3 [(0, .ref (g 0)), (1, .int y1), (2, .int y2)] → b_X12_word_31  y1 y2 z0 d m = some u → W PP l EE (headSpec wsX12_word ({ frames := 0, cells := 0, slots := 0, locals := 0 })).room S0 MM (#[.ref (g 0), .int x1, .int x2] : Array Value) below meth CC H locs 0 0 (MQ below (cQi D (wX g cA t s r c y d k q o u.2) A u.1) (#[.ref (g 0), .int x1, .int x2] : Array Value) S0 0 0 A) (F0 MM 31 ls [.int z0, .ref (g 0)]) := by
    intro y1 y2 z0 d m
    intro H locs ls hP hD hS hl hE
    unfold b_X12_word_31 at hE
    refine va_put (D := D) (ci := 10) (v := .int z0) (ty := .int) (C := RX12) (T := TX12) (N := 40) hx hb hts inX12 tyX12 tyX12_ok nmX12 hown hK hP hD hS 0 rfl rfl 2 (by decide) k2 (fun _ h9 => h9) rfl (by decide +kernel) rfl rfl (Nat.le_of_ble_eq_true rfl) dX12_word_31 (fun H locs hP hD hS => ?_)
    have hP : va_P D vwCl (wX g cA t s r c y d k q o ((z0, m.2.1, m.2.2.1, m.2.2.2.1, m.2.2.2.2.1, m.2.2.2.2.2.1, m.2.2.2.2.2.2))) H := hP
    have hD : va_D A (wX g cA t s r c y d k q o ((z0, m.2.1, m.2.2.1, m.2.2.2.1, m.2.2.2.2.1, m.2.2.2.2.2.1, m.2.2.2.2.2.2))) := hD
    refine lv_aload_n hx hb dX12_word_34 rfl (lv_at hl 0 rfl) ?_
    refine va_get (D := D) (ci := 10) (v := .int z0) (C := RX12) (T := TX12) (N := 40) hx hb hts inX12 hown hK hP 0 rfl rfl 2 (by decide) k2 (fun _ h9 => h9) rfl dX12_word_35 ?_
    refine lv_if_le (tgt := 43) hx hb dX12_word_38 (by decide) (fun c5 => ?_) (fun c5 => ?_)
    · have hE := if_t c5 hE
      refine lv_iload_n hx hb dX12_word_43 rfl (lv_at hl 2 rfl) ?_
      by_cases c6 : y2 = 0
      · have hE := if_t c6 hE
        refine lv_tableIn (tgt := 76) (off := 32) hx hb dX12_word_44 (by rw [c6]; decide +kernel) (by rw [c6]; decide +kernel) (by rw [c6]; decide +kernel) (by decide) ?_
        refine lv_aload_n hx hb dX12_word_76 rfl (lv_at hl 0 rfl) ?_
        refine va_get (D := D) (ci := 10) (v := .ref (g 11)) (C := RX12) (T := TX12) (N := 40) hx hb hts inX12 hown hK hP 0 rfl rfl 18 (by decide) k3 (fun _ h9 => h9) rfl dX12_word_77 ?_
        refine lv_iload_n hx hb dX12_word_80 rfl (lv_at hl 1 rfl) ?_
        have ⟨c7, hE⟩ := ck_some hE
        refine va_iald hx hb hK hP 11 0 rfl rfl c7 dX12_word_81 ?_
        obtain rfl := Option.some.inj hE
        exact rt_i hx hb hr hP hS rfl hlocks dX12_word_82
      have hE := if_f c6 hE
      by_cases c8 : y2 = 1
      · have hE := if_t c8 hE
        refine lv_tableIn (tgt := 83) (off := 39) hx hb dX12_word_44 (by rw [c8]; decide +kernel) (by rw [c8]; decide +kernel) (by rw [c8]; decide +kernel) (by decide) ?_
        refine lv_aload_n hx hb dX12_word_83 rfl (lv_at hl 0 rfl) ?_
        refine va_get (D := D) (ci := 10) (v := .ref (g 12)) (C := RX12) (T := TX12) (N := 40) hx hb hts inX12 hown hK hP 0 rfl rfl 19 (by decide) k4 (fun _ h9 => h9) rfl dX12_word_84 ?_
        refine lv_iload_n hx hb dX12_word_87 rfl (lv_at hl 1 rfl) ?_
        have ⟨c9, hE⟩ := ck_some hE
        refine va_iald hx hb hK hP 12 0 rfl rfl c9 dX12_word_88 ?_
        obtain rfl := Option.some.inj hE
        exact rt_i hx hb hr hP hS rfl hlocks dX12_word_89
      have hE := if_f c8 hE
      by_cases c10 : y2 = 2
      · have hE := if_t c10 hE
        refine lv_tableIn (tgt := 90) (off := 46) hx hb dX12_word_44 (by rw [c10]; decide +kernel) (by rw [c10]; decide +kernel) (by rw [c10]; decide +kernel) (by decide) ?_
        refine lv_aload_n hx hb dX12_word_90 rfl (lv_at hl 0 rfl) ?_
        refine va_get (D := D) (ci := 10) (v := .ref (g 14)) (C := RX12) (T := TX12) (N := 40) hx hb hts inX12 hown hK hP 0 rfl rfl 21 (by decide) k5 (fun _ h9 => h9) rfl dX12_word_91 ?_
        refine lv_iload_n hx hb dX12_word_94 rfl (lv_at hl 1 rfl) ?_
        have ⟨c11, hE⟩ := ck_some hE
        refine va_zald hx hb hK hP 14 1 rfl rfl c11 dX12_word_95 ?_
        refine lv_if_eq (tgt := 103) hx hb dX12_word_96 (by decide) (fun c12 => ?_) (fun c12 => ?_)
        · have hE := if_t c12 hE
          refine lv_iconst (v := 0) hx hb dX12_word_103 (by decide +kernel) ?_
          obtain rfl := Option.some.inj hE
          exact rt_i hx hb hr hP hS rfl hlocks dX12_word_104
        · have hE := if_f c12 hE
          refine lv_iconst (v := 1) hx hb dX12_word_99 (by decide +kernel) ?_
          refine lv_goto (tgt := 104) hx hb dX12_word_100 (by decide) ?_
          obtain rfl := Option.some.inj hE
          exact rt_i hx hb hr hP hS rfl hlocks dX12_word_104
      have hE := if_f c10 hE
      by_cases c13 : y2 = 3
      · have hE := if_t c13 hE
        refine lv_tableIn (tgt := 105) (off := 61) hx hb dX12_word_44 (by rw [c13]; decide +kernel) (by rw [c13]; decide +kernel) (by rw [c13]; decide +kernel) (by decide) ?_
        refine lv_aload_n hx hb dX12_word_105 rfl (lv_at hl 0 rfl) ?_
        refine va_get (D := D) (ci := 10) (v := .ref (g 13)) (C := RX12) (T := TX12) (N := 40) hx hb hts inX12 hown hK hP 0 rfl rfl 20 (by decide) k6 (fun _ h9 => h9) rfl dX12_word_106 ?_
        refine lv_iload_n hx hb dX12_word_109 rfl (lv_at hl 1 rfl) ?_
        have ⟨c14, hE⟩ := ck_some hE
        refine va_iald hx hb hK hP 13 0 rfl rfl c14 dX12_word_110 ?_
        obtain rfl := Option.some.inj hE
        exact rt_i hx hb hr hP hS rfl hlocks dX12_word_111
      have hE := if_f c13 hE
      have tc6 := lv_neT c6 (show (0 : Int32).toInt = 0 by decide +kernel)
      have tc8 := lv_neT c8 (show (1 : Int32).toInt = 1 by decide +kernel)
      have tc10 := lv_neT c10 (show (2 : Int32).toInt = 2 by decide +kernel)
      have tc13 := lv_neT c13 (show (3 : Int32).toInt = 3 by decide +kernel)
      refine lv_tableOut (tgt := 112) hx hb dX12_word_44 (by omega) (by decide) ?_
      refine lv_aload_n hx hb dX12_word_112 rfl (lv_at hl 0 rfl) ?_
      refine va_get (D := D) (ci := 10) (v := .ref (g 15)) (C := RX12) (T := TX12) (N := 40) hx hb hts inX12 hown hK hP 0 rfl rfl 22 (by decide) k7 (fun _ h9 => h9) rfl dX12_word_113 ?_
      refine lv_iload_n hx hb dX12_word_116 rfl (lv_at hl 1 rfl) ?_
      have ⟨c15, hE⟩ := ck_some hE
      refine va_zald hx hb hK hP 15 1 rfl rfl c15 dX12_word_117 ?_
      refine lv_if_eq (tgt := 125) hx hb dX12_word_118 (by decide) (fun c16 => ?_) (fun c16 => ?_)
      · have hE := if_t c16 hE
        refine lv_iconst (v := 0) hx hb dX12_word_125 (by decide +kernel) ?_
        obtain rfl := Option.some.inj hE
        exact rt_i hx hb hr hP hS rfl hlocks dX12_word_126
      · have hE := if_f c16 hE
        refine lv_iconst (v := 1) hx hb dX12_word_121 (by decide +kernel) ?_
        refine lv_goto (tgt := 126) hx hb dX12_word_122 (by decide) ?_
        obtain rfl := Option.some.inj hE
        exact rt_i hx hb hr hP hS rfl hlocks dX12_word_126
    · have hE := if_f c5 hE
      refine lv_iconst (v := 0) hx hb dX12_word_41 (by decide +kernel) ?_
      obtain rfl := Option.some.inj hE
      exact rt_i hx hb hr hP hS rfl hlocks dX12_word_42
  have w13 : ∀ (y1 : Int32) (y2 : Int32) (d : mD) (m : mM) (H : Heap) (locs : List Loc) (ls : Array Slot), va_P D vwCl (wX g cA t s r c y d k q o m) H → va_D A (wX g cA t s r c y d k q o m) → va_S A S0.heap H locs → lv_has ls 3 [(0, .ref (g 0)), (1, .int y1), (2, .int y2)] → b_X12_word_13  y1 y2 d m = some u → W PP l EE (headSpec wsX12_word ({ frames := 0, cells := 0, slots := 0, locals := 0 })).room S0 MM (#[.ref (g 0), .int x1, .int x2] : Array Value) below meth CC H locs 0 0 (MQ below (cQi D (wX g cA t s r c y d k q o u.2) A u.1) (#[.ref (g 0), .int x1, .int x2] : Array Value) S0 0 0 A) (F0 MM 13 ls [.ref (g 0)]) := by
    intro y1 y2 d m
    intro H locs ls hP hD hS hl hE
    unfold b_X12_word_13 at hE
    refine lv_iconst (v := 1) hx hb dX12_word_13 (by decide +kernel) ?_
    refine lv_goto (tgt := 31) hx hb dX12_word_14 (by decide) ?_
    exact w31  y1 y2 1 d m H locs ls hP hD hS (lv_sub hl [0, 1, 2] rfl) hE
  have w26 : ∀ (y1 : Int32) (y2 : Int32) (d : mD) (m : mM) (H : Heap) (locs : List Loc) (ls : Array Slot), va_P D vwCl (wX g cA t s r c y d k q o m) H → va_D A (wX g cA t s r c y d k q o m) → va_S A S0.heap H locs → lv_has ls 3 [(0, .ref (g 0)), (1, .int y1), (2, .int y2)] → b_X12_word_26  y1 y2 d m = some u → W PP l EE (headSpec wsX12_word ({ frames := 0, cells := 0, slots := 0, locals := 0 })).room S0 MM (#[.ref (g 0), .int x1, .int x2] : Array Value) below meth CC H locs 0 0 (MQ below (cQi D (wX g cA t s r c y d k q o u.2) A u.1) (#[.ref (g 0), .int x1, .int x2] : Array Value) S0 0 0 A) (F0 MM 26 ls [.ref (g 0)]) := by
    intro y1 y2 d m
    intro H locs ls hP hD hS hl hE
    unfold b_X12_word_26 at hE
    refine lv_iconst (v := 2) hx hb dX12_word_26 (by decide +kernel) ?_
    refine lv_goto (tgt := 31) hx hb dX12_word_27 (by decide) ?_
    exact w31  y1 y2 2 d m H locs ls hP hD hS (lv_sub hl [0, 1, 2] rfl) hE
  unfold f_X12_word at hE
  suffices main : ∀ (H : Heap) (locs : List Loc) (ls : Array Slot), va_P D vwCl (wX g cA t s r c y d k q o m) H → va_D A (wX g cA t s r c y d k q o m) → va_S A S0.heap H locs → lv_has ls 3 [(0, .ref (g 0)), (1, .int x1), (2, .int x2)] → W PP l EE (headSpec wsX12_word ({ frames := 0, cells := 0, slots := 0, locals := 0 })).room S0 MM (#[.ref (g 0), .int x1, .int x2] : Array Value) below meth CC H locs 0 0 (MQ below (cQi D (wX g cA t s r c y d k q o u.2) A u.1) (#[.ref (g 0), .int x1, .int x2] : Array Value) S0 0 0 A) (F0 MM 0 ls []) from main _ _ _ hP hD hS hl
  intro H locs ls hP hD hS hl
  refine lv_aload_n hx hb dX12_word_0 rfl (lv_at hl 0 rfl) ?_
  refine lv_iload_n hx hb dX12_word_1 rfl (lv_at hl 1 rfl) ?_
  refine lv_if_lt (tgt := 13) hx hb dX12_word_2 (by decide) (fun c1 => ?_) (fun c1 => ?_)
  · have hE := if_t c1 hE
    exact w13  x1 x2 d m H locs ls hP hD hS (lv_sub hl [0, 1, 2] rfl) hE
  · have hE := if_f c1 hE
    refine lv_iload_n hx hb dX12_word_5 rfl (lv_at hl 1 rfl) ?_
    refine lv_aload_n hx hb dX12_word_6 rfl (lv_at hl 0 rfl) ?_
    refine va_get (D := D) (ci := 10) (v := .int d.1) (C := RX12) (T := TX12) (N := 40) hx hb hts inX12 hown hK hP 0 rfl rfl 25 (by decide) k0 (fun _ h9 => h9) rfl dX12_word_7 ?_
    refine lv_icmp_lt (tgt := 17) hx hb dX12_word_10 (by decide) (fun c2 => ?_) (fun c2 => ?_)
    · have hE := if_t c2 hE
      refine lv_iload_n hx hb dX12_word_17 rfl (lv_at hl 2 rfl) ?_
      refine lv_if_lt (tgt := 26) hx hb dX12_word_18 (by decide) (fun c3 => ?_) (fun c3 => ?_)
      · have hE := if_t c3 hE
        exact w26  x1 x2 d m H locs ls hP hD hS (lv_sub hl [0, 1, 2] rfl) hE
      · have hE := if_f c3 hE
        refine lv_iload_n hx hb dX12_word_21 rfl (lv_at hl 2 rfl) ?_
        refine lv_iconst (v := 4) hx hb dX12_word_22 (by decide +kernel) ?_
        refine lv_icmp_le (tgt := 30) hx hb dX12_word_23 (by decide) (fun c4 => ?_) (fun c4 => ?_)
        · have hE := if_t c4 hE
          refine lv_iconst (v := 0) hx hb dX12_word_30 (by decide +kernel) ?_
          exact w31  x1 x2 0 d m H locs ls hP hD hS (lv_sub hl [0, 1, 2] rfl) hE
        · have hE := if_f c4 hE
          exact w26  x1 x2 d m H locs ls hP hD hS (lv_sub hl [0, 1, 2] rfl) hE
    · have hE := if_f c2 hE
      exact w13  x1 x2 d m H locs ls hP hD hS (lv_sub hl [0, 1, 2] rfl) hE
set_option maxHeartbeats 4000000 in
set_option maxRecDepth 100000 in
theorem c_X12_count (l : Launch) (D : va_G) (cA : Nat → ClassId) (g : Nat → Nat) (sz : Nat) (x1 : Int32) (t : mT) (s : mS) (r : mR) (c : mC) (y : mY) (d : mD) (k : mK) (q : mP) (o : mO) (m : mM) (u : Int32 × mM) (hE : f_X12_count x1 s r y d k q o m = some u) : Met l yX12_count wsX12_count ({ frames := 0, cells := 0, slots := 0, locals := 0 }) (va_Pc [.ref (g 0), .int x1] (PRE D cA (wX g cA t s r c y d k q o m) sz (fun _ => True))) (cQi D (wX g cA t s r c y d k q o u.2) (va_A (wX g cA t s r c y d k q o m) sz) u.1) 0 0 (va_A (wX g cA t s r c y d k q o m) sz) := by
  refine Met.ofW (cc := cX12_count) (maxL := 2) (ret := (some .int)) (by decide) rfl ?_
  intro PP EE S0 MM args below meth CC S1 B hml hv
  obtain ⟨rfl, hsz, hP, hK, hD0, hX⟩ := hv
  have hx := B.exec
  have hb := B.bytes
  have hr := B.returns
  have hts := atoms_spec (ws := wsX12_count) B.pre
  have hown : S0.vm.findClass RX12 = some MM.cls := findClass_of_methodNamed B.named
  have hlocks := B.notSynchronized
  subst hsz
  have hD := hD0.self (sz := S0.heap.size)
  generalize hAe : va_A (wX g cA t s r c y d k q o m) S0.heap.size = A at hD ⊢
  have hA : ∀ q : Nat, S0.heap.size ≤ q → A q := fun q h => by rw [← hAe]; exact Or.inr h
  have hS : va_S A S0.heap S0.heap [] := va_S.rf
  have k0 := hts (.fieldLink RX12 215 "WordForgeModel" "thrown" "I") (List.mem_of_getElem? (i := 1) rfl)
  have inX12 : ∀ w ∈ wsX120, w ∈ wsX12_count := fun _ h => List.mem_cons_of_mem _ (List.mem_append_right _ h)
  have k2 := hts (.fieldLink RX12 308 "WordForgeModel" "written" "I") (List.mem_of_getElem? (i := 2) rfl)
  have k3 := hts (.fieldLink RX12 293 "WordForgeModel" "depth" "I") (List.mem_of_getElem? (i := 3) rfl)
  have k4 := hts (.fieldLink RX12 335 "WordForgeModel" "deep" "I") (List.mem_of_getElem? (i := 4) rfl)
  have k5 := hts (.fieldLink RX12 276 "WordForgeModel" "here" "I") (List.mem_of_getElem? (i := 5) rfl)
  have k6 := hts (.fieldLink RX12 239 "WordForgeModel" "made" "I") (List.mem_of_getElem? (i := 6) rfl)
  have k7 := hts (.fieldLink RX12 270 "WordForgeModel" "compiling" "Z") (List.mem_of_getElem? (i := 7) rfl)
  have k8 := hts (.fieldLink RX12 302 "WordForgeModel" "steps" "I") (List.mem_of_getElem? (i := 8) rfl)
  have k9 := hts (.fieldLink RX12 305 "WordForgeModel" "caught" "I") (List.mem_of_getElem? (i := 9) rfl)
  have k10 := hts (.fieldLink RX12 338 "WordForgeModel" "opens" "I") (List.mem_of_getElem? (i := 10) rfl)
  have hl := lv_entry ([.ref (g 0), .int x1]) (n := 2) (Nat.le_of_ble_eq_true rfl)
  rw [lg_entry_eq]
  generalize (lg_sl ([.ref (g 0), .int x1]) ++ List.replicate (2 - (lg_sl ([.ref (g 0), .int x1])).length) Slot.unset).toArray = ls at hl ⊢
  have hl : lv_has ls 2 [(0, .ref (g 0)), (1, .int x1)] := hl
  unfold f_X12_count at hE
  suffices main : ∀ (H : Heap) (locs : List Loc) (ls : Array Slot), va_P D vwCl (wX g cA t s r c y d k q o m) H → va_D A (wX g cA t s r c y d k q o m) → va_S A S0.heap H locs → lv_has ls 2 [(0, .ref (g 0)), (1, .int x1)] → W PP l EE (headSpec wsX12_count ({ frames := 0, cells := 0, slots := 0, locals := 0 })).room S0 MM (#[.ref (g 0), .int x1] : Array Value) below meth CC H locs 0 0 (MQ below (cQi D (wX g cA t s r c y d k q o u.2) A u.1) (#[.ref (g 0), .int x1] : Array Value) S0 0 0 A) (F0 MM 0 ls []) from main _ _ _ hP hD hS hl
  intro H locs ls hP hD hS hl
  refine lv_aload_n hx hb dX12_count_0 rfl (lv_at hl 0 rfl) ?_
  refine lv_iconst (v := 0) hx hb dX12_count_1 (by decide +kernel) ?_
  refine va_put (D := D) (ci := 10) (v := .int 0) (ty := .int) (C := RX12) (T := TX12) (N := 40) hx hb hts inX12 tyX12 tyX12_ok nmX12 hown hK hP hD hS 0 rfl rfl 2 (by decide) k0 (fun _ h9 => h9) rfl (by decide +kernel) rfl rfl (Nat.le_of_ble_eq_true rfl) dX12_count_2 (fun H locs hP hD hS => ?_)
  have hP : va_P D vwCl (wX g cA t s r c y d k q o ((0, m.2.1, m.2.2.1, m.2.2.2.1, m.2.2.2.2.1, m.2.2.2.2.2.1, m.2.2.2.2.2.2))) H := hP
  have hD : va_D A (wX g cA t s r c y d k q o ((0, m.2.1, m.2.2.1, m.2.2.2.1, m.2.2.2.2.1, m.2.2.2.2.2.1, m.2.2.2.2.2.2))) := hD
  refine lv_iload_n hx hb dX12_count_5 rfl (lv_at hl 1 rfl) ?_
  by_cases c1 : x1 = 0
  · have hE := if_t c1 hE
    refine lv_tableIn (tgt := 56) (off := 50) hx hb dX12_count_6 (by rw [c1]; decide +kernel) (by rw [c1]; decide +kernel) (by rw [c1]; decide +kernel) (by decide) ?_
    refine lv_aload_n hx hb dX12_count_56 rfl (lv_at hl 0 rfl) ?_
    refine va_get (D := D) (ci := 10) (v := .int o.1) (C := RX12) (T := TX12) (N := 40) hx hb hts inX12 hown hK hP 0 rfl rfl 7 (by decide) k2 (fun _ h9 => h9) rfl dX12_count_57 ?_
    obtain rfl := Option.some.inj hE
    exact rt_i hx hb hr hP hS rfl hlocks dX12_count_60
  have hE := if_f c1 hE
  by_cases c2 : x1 = 1
  · have hE := if_t c2 hE
    refine lv_tableIn (tgt := 61) (off := 55) hx hb dX12_count_6 (by rw [c2]; decide +kernel) (by rw [c2]; decide +kernel) (by rw [c2]; decide +kernel) (by decide) ?_
    refine lv_aload_n hx hb dX12_count_61 rfl (lv_at hl 0 rfl) ?_
    refine va_get (D := D) (ci := 10) (v := .int s.1) (C := RX12) (T := TX12) (N := 40) hx hb hts inX12 hown hK hP 0 rfl rfl 9 (by decide) k3 (fun _ h9 => h9) rfl dX12_count_62 ?_
    obtain rfl := Option.some.inj hE
    exact rt_i hx hb hr hP hS rfl hlocks dX12_count_65
  have hE := if_f c2 hE
  by_cases c3 : x1 = 2
  · have hE := if_t c3 hE
    refine lv_tableIn (tgt := 66) (off := 60) hx hb dX12_count_6 (by rw [c3]; decide +kernel) (by rw [c3]; decide +kernel) (by rw [c3]; decide +kernel) (by decide) ?_
    refine lv_aload_n hx hb dX12_count_66 rfl (lv_at hl 0 rfl) ?_
    refine va_get (D := D) (ci := 10) (v := .int r.1) (C := RX12) (T := TX12) (N := 40) hx hb hts inX12 hown hK hP 0 rfl rfl 11 (by decide) k4 (fun _ h9 => h9) rfl dX12_count_67 ?_
    obtain rfl := Option.some.inj hE
    exact rt_i hx hb hr hP hS rfl hlocks dX12_count_70
  have hE := if_f c3 hE
  by_cases c4 : x1 = 3
  · have hE := if_t c4 hE
    refine lv_tableIn (tgt := 71) (off := 65) hx hb dX12_count_6 (by rw [c4]; decide +kernel) (by rw [c4]; decide +kernel) (by rw [c4]; decide +kernel) (by decide) ?_
    refine lv_aload_n hx hb dX12_count_71 rfl (lv_at hl 0 rfl) ?_
    refine va_get (D := D) (ci := 10) (v := .int y.1) (C := RX12) (T := TX12) (N := 40) hx hb hts inX12 hown hK hP 0 rfl rfl 17 (by decide) k5 (fun _ h9 => h9) rfl dX12_count_72 ?_
    obtain rfl := Option.some.inj hE
    exact rt_i hx hb hr hP hS rfl hlocks dX12_count_75
  have hE := if_f c4 hE
  by_cases c5 : x1 = 4
  · have hE := if_t c5 hE
    refine lv_tableIn (tgt := 76) (off := 70) hx hb dX12_count_6 (by rw [c5]; decide +kernel) (by rw [c5]; decide +kernel) (by rw [c5]; decide +kernel) (by decide) ?_
    refine lv_aload_n hx hb dX12_count_76 rfl (lv_at hl 0 rfl) ?_
    refine va_get (D := D) (ci := 10) (v := .int d.1) (C := RX12) (T := TX12) (N := 40) hx hb hts inX12 hown hK hP 0 rfl rfl 25 (by decide) k6 (fun _ h9 => h9) rfl dX12_count_77 ?_
    obtain rfl := Option.some.inj hE
    exact rt_i hx hb hr hP hS rfl hlocks dX12_count_80
  have hE := if_f c5 hE
  by_cases c6 : x1 = 5
  · have hE := if_t c6 hE
    refine lv_tableIn (tgt := 81) (off := 75) hx hb dX12_count_6 (by rw [c6]; decide +kernel) (by rw [c6]; decide +kernel) (by rw [c6]; decide +kernel) (by decide) ?_
    refine lv_aload_n hx hb dX12_count_81 rfl (lv_at hl 0 rfl) ?_
    refine va_get (D := D) (ci := 10) (v := .int k) (C := RX12) (T := TX12) (N := 40) hx hb hts inX12 hown hK hP 0 rfl rfl 28 (by decide) k7 (fun _ h9 => h9) rfl dX12_count_82 ?_
    refine lv_if_eq (tgt := 92) hx hb dX12_count_85 (by decide) (fun c7 => ?_) (fun c7 => ?_)
    · have hE := if_t c7 hE
      refine lv_iconst (v := 0) hx hb dX12_count_92 (by decide +kernel) ?_
      obtain rfl := Option.some.inj hE
      exact rt_i hx hb hr hP hS rfl hlocks dX12_count_93
    · have hE := if_f c7 hE
      refine lv_iconst (v := 1) hx hb dX12_count_88 (by decide +kernel) ?_
      refine lv_goto (tgt := 93) hx hb dX12_count_89 (by decide) ?_
      obtain rfl := Option.some.inj hE
      exact rt_i hx hb hr hP hS rfl hlocks dX12_count_93
  have hE := if_f c6 hE
  by_cases c8 : x1 = 6
  · have hE := if_t c8 hE
    refine lv_tableIn (tgt := 94) (off := 88) hx hb dX12_count_6 (by rw [c8]; decide +kernel) (by rw [c8]; decide +kernel) (by rw [c8]; decide +kernel) (by decide) ?_
    refine lv_aload_n hx hb dX12_count_94 rfl (lv_at hl 0 rfl) ?_
    refine va_get (D := D) (ci := 10) (v := .int m.2.2.1) (C := RX12) (T := TX12) (N := 40) hx hb hts inX12 hown hK hP 0 rfl rfl 35 (by decide) k8 (fun _ h9 => h9) rfl dX12_count_95 ?_
    obtain rfl := Option.some.inj hE
    exact rt_i hx hb hr hP hS rfl hlocks dX12_count_98
  have hE := if_f c8 hE
  by_cases c9 : x1 = 7
  · have hE := if_t c9 hE
    refine lv_tableIn (tgt := 99) (off := 93) hx hb dX12_count_6 (by rw [c9]; decide +kernel) (by rw [c9]; decide +kernel) (by rw [c9]; decide +kernel) (by decide) ?_
    refine lv_aload_n hx hb dX12_count_99 rfl (lv_at hl 0 rfl) ?_
    refine va_get (D := D) (ci := 10) (v := .int m.2.2.2.1) (C := RX12) (T := TX12) (N := 40) hx hb hts inX12 hown hK hP 0 rfl rfl 36 (by decide) k9 (fun _ h9 => h9) rfl dX12_count_100 ?_
    obtain rfl := Option.some.inj hE
    exact rt_i hx hb hr hP hS rfl hlocks dX12_count_103
  have hE := if_f c9 hE
  by_cases c10 : x1 = 8
  · have hE := if_t c10 hE
    refine lv_tableIn (tgt := 104) (off := 98) hx hb dX12_count_6 (by rw [c10]; decide +kernel) (by rw [c10]; decide +kernel) (by rw [c10]; decide +kernel) (by decide) ?_
    refine lv_aload_n hx hb dX12_count_104 rfl (lv_at hl 0 rfl) ?_
    refine va_get (D := D) (ci := 10) (v := .int q.1) (C := RX12) (T := TX12) (N := 40) hx hb hts inX12 hown hK hP 0 rfl rfl 31 (by decide) k10 (fun _ h9 => h9) rfl dX12_count_105 ?_
    obtain rfl := Option.some.inj hE
    exact rt_i hx hb hr hP hS rfl hlocks dX12_count_108
  have hE := if_f c10 hE
  have tc1 := lv_neT c1 (show (0 : Int32).toInt = 0 by decide +kernel)
  have tc2 := lv_neT c2 (show (1 : Int32).toInt = 1 by decide +kernel)
  have tc3 := lv_neT c3 (show (2 : Int32).toInt = 2 by decide +kernel)
  have tc4 := lv_neT c4 (show (3 : Int32).toInt = 3 by decide +kernel)
  have tc5 := lv_neT c5 (show (4 : Int32).toInt = 4 by decide +kernel)
  have tc6 := lv_neT c6 (show (5 : Int32).toInt = 5 by decide +kernel)
  have tc8 := lv_neT c8 (show (6 : Int32).toInt = 6 by decide +kernel)
  have tc9 := lv_neT c9 (show (7 : Int32).toInt = 7 by decide +kernel)
  have tc10 := lv_neT c10 (show (8 : Int32).toInt = 8 by decide +kernel)
  refine lv_tableOut (tgt := 109) hx hb dX12_count_6 (by omega) (by decide) ?_
  refine lv_iconst (v := (-1)) hx hb dX12_count_109 (by decide +kernel) ?_
  obtain rfl := Option.some.inj hE
  exact rt_i hx hb hr hP hS rfl hlocks dX12_count_110
