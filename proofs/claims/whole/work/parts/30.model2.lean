set_option maxRecDepth 20000 in
theorem hX12_keeps_X12_pop_390 : GoodIn wsX12_keeps (wsV RX12 390 RX12 yX12_pop wsX12_pop) := goodIn_r _ [5, 6, 7, 8, 9, 1, 2, 29, 30, 31, 32, 33, 34, 35, 36, 37, 38, 39, 40, 41, 42, 43, 44, 45, 46, 47, 48, 49, 50, 51, 52, 53, 54, 55, 56, 57, 58, 59, 60, 61, 62, 63, 64, 65, 66, 67, 68] rfl (by decide +kernel)
set_option maxRecDepth 20000 in
theorem hX12_keeps_X12_append_279 : GoodIn wsX12_keeps (wsV RX12 279 RX12 yX12_append wsX12_append) := goodIn_r _ [10, 11, 12, 8, 13, 3, 4, 29, 30, 31, 32, 33, 34, 35, 36, 37, 38, 39, 40, 41, 42, 43, 44, 45, 46, 47, 48, 49, 50, 51, 52, 53, 54, 55, 56, 57, 58, 59, 60, 61, 62, 63, 64, 65, 66, 67, 68] rfl (by decide +kernel)
set_option maxRecDepth 20000 in
theorem hX12_keeps_X12_push_296 : GoodIn wsX12_keeps (wsV RX12 296 RX12 yX12_push wsX12_push) := goodIn_r _ [14, 15, 16, 8, 17, 2, 1, 29, 30, 31, 32, 33, 34, 35, 36, 37, 38, 39, 40, 41, 42, 43, 44, 45, 46, 47, 48, 49, 50, 51, 52, 53, 54, 55, 56, 57, 58, 59, 60, 61, 62, 63, 64, 65, 66, 67, 68] rfl (by decide +kernel)
set_option maxRecDepth 20000 in
theorem hX12_keeps_X12_number_410 : GoodIn wsX12_keeps (wsV RX12 410 RX12 yX12_number wsX12_number) := goodIn_r _ [18, 19, 20, 8, 21, 22, 23, 24, 25, 8, 26, 27, 28, 29, 30, 31, 32, 33, 34, 35, 36, 37, 38, 39, 40, 41, 42, 43, 44, 45, 46, 47, 48, 49, 50, 51, 52, 53, 54, 55, 56, 57, 58, 59, 60, 61, 62, 63, 64, 65, 66, 67, 68] rfl (by decide +kernel)
set_option maxRecDepth 20000 in
theorem hX12_keeps_X12_write_413 : GoodIn wsX12_keeps (wsV RX12 413 RX12 yX12_write wsX12_write) := goodIn_r _ [23, 24, 25, 8, 26, 27, 28, 29, 30, 31, 32, 33, 34, 35, 36, 37, 38, 39, 40, 41, 42, 43, 44, 45, 46, 47, 48, 49, 50, 51, 52, 53, 54, 55, 56, 57, 58, 59, 60, 61, 62, 63, 64, 65, 66, 67, 68] rfl (by decide +kernel)
set_option maxHeartbeats 4000000 in
set_option maxRecDepth 100000 in
theorem c_X12_keeps (l : Launch) (D : va_G) (cA : Nat → ClassId) (g : Nat → Nat) (sz : Nat) (x1 : Int32) (t : mT) (s : mS) (r : mR) (c : mC) (y : mY) (d : mD) (k : mK) (q : mP) (o : mO) (m : mM) (u : Int32 × mS × mY × mO) (hE : f_X12_keeps x1 s y o = some u) : Met l yX12_keeps wsX12_keeps ({ frames := 2, cells := 0, slots := 0, locals := 48 }) (va_Pc [.ref (g 0), .int x1] (PRE D cA (wX g cA t s r c y d k q o m) sz (fun _ => True))) (cQi D (wX g cA t u.2.1 r c u.2.2.1 d k q u.2.2.2 m) (va_A (wX g cA t s r c y d k q o m) sz) u.1) 0 0 (va_A (wX g cA t s r c y d k q o m) sz) := by
  refine Met.ofW (cc := cX12_keeps) (maxL := 3) (ret := (some .int)) (by decide) rfl ?_
  intro PP EE S0 MM args below meth CC S1 B hml hv
  obtain ⟨rfl, hsz, hP, hK, hD0, hX⟩ := hv
  have hx := B.exec
  have hb := B.bytes
  have hr := B.returns
  have hts := atoms_spec (ws := wsX12_keeps) B.pre
  have hown : S0.vm.findClass RX12 = some MM.cls := findClass_of_methodNamed B.named
  have hlocks := B.notSynchronized
  subst hsz
  have hD := hD0.self (sz := S0.heap.size)
  generalize hAe : va_A (wX g cA t s r c y d k q o m) S0.heap.size = A at hD ⊢
  have hA : ∀ q : Nat, S0.heap.size ≤ q → A q := fun q h => by rw [← hAe]; exact Or.inr h
  have hS : va_S A S0.heap S0.heap [] := va_S.rf
  have k0 := hts (.fieldLink RX12 293 "WordForgeModel" "depth" "I") (List.mem_of_getElem? (i := 1) rfl)
  have inX12 : ∀ w ∈ wsX120, w ∈ wsX12_keeps := fun _ h => List.mem_cons_of_mem _ (List.mem_append_right _ h)
  have k2 := hts (.fieldLink RX12 169 "WordForgeModel" "stack" "[I") (List.mem_of_getElem? (i := 2) rfl)
  have k3 := hts (.fieldLink RX12 184 "WordForgeModel" "cells" "[I") (List.mem_of_getElem? (i := 3) rfl)
  have k4 := hts (.fieldLink RX12 276 "WordForgeModel" "here" "I") (List.mem_of_getElem? (i := 4) rfl)
  have hl := lv_entry ([.ref (g 0), .int x1]) (n := 3) (Nat.le_of_ble_eq_true rfl)
  rw [lg_entry_eq]
  generalize (lg_sl ([.ref (g 0), .int x1]) ++ List.replicate (3 - (lg_sl ([.ref (g 0), .int x1])).length) Slot.unset).toArray = ls at hl ⊢
  have hl : lv_has ls 3 [(0, .ref (g 0)), (1, .int x1)] := hl
  have w154 : ∀ (z0 : Int32) (z1 : Int32) (s : mS) (y : mY) (o : mO) (H : Heap) (locs : List Loc) (ls : Array Slot), va_P D vwCl (wX g cA t s r c y d k q o m) H → va_D A (wX g cA t s r c y d k q o m) → va_S A S0.heap H locs → lv_has ls 3 [(0, .ref (g 0))] → b_X12_keeps_154  z0 z1 s y o = some u → W PP l EE (headSpec wsX12_keeps ({ frames := 2, cells := 0, slots := 0, locals := 48 })).room S0 MM (#[.ref (g 0), .int x1] : Array Value) below meth CC H locs 0 0 (MQ below (cQi D (wX g cA t u.2.1 r c u.2.2.1 d k q u.2.2.2 m) A u.1) (#[.ref (g 0), .int x1] : Array Value) S0 0 0 A) (F0 MM 154 ls [.int z0, .int z1, .ref (g 10)]) := by
    intro z0 z1 s y o
    intro H locs ls hP hD hS hl hE
    unfold b_X12_keeps_154 at hE
    have ⟨c48, hE⟩ := ck_some hE
    refine va_iast hx hb hK hP hD hS 10 0 rfl rfl c48 dX12_keeps_154 (fun H locs hP hD hS => ?_)
    have hP : va_P D vwCl (wX g cA t s r c ((y.1, upd y.2 z1.toNatClampNeg z0)) d k q o m) H := hP
    have hD : va_D A (wX g cA t s r c ((y.1, upd y.2 z1.toNatClampNeg z0)) d k q o m) := hD
    refine lv_aload_n hx hb dX12_keeps_155 rfl (lv_at hl 0 rfl) ?_
    refine lv_dup hx hb dX12_keeps_156 rfl ?_
    refine va_get (D := D) (ci := 10) (v := .int s.1) (C := RX12) (T := TX12) (N := 40) hx hb hts inX12 hown hK hP 0 rfl rfl 9 (by decide) k0 (fun _ h9 => h9) rfl dX12_keeps_157 ?_
    refine lv_iconst (v := 2) hx hb dX12_keeps_160 (by decide +kernel) ?_
    refine lv_isub hx hb dX12_keeps_161 ?_
    refine va_put (D := D) (ci := 10) (v := .int (s.1 - 2)) (ty := .int) (C := RX12) (T := TX12) (N := 40) hx hb hts inX12 tyX12 tyX12_ok nmX12 hown hK hP hD hS 0 rfl rfl 9 (by decide) k0 (fun _ h9 => h9) rfl (by decide +kernel) rfl rfl (Nat.le_of_ble_eq_true rfl) dX12_keeps_162 (fun H locs hP hD hS => ?_)
    have hP : va_P D vwCl (wX g cA t ((s.1 - 2, s.2)) r c ((y.1, upd y.2 z1.toNatClampNeg z0)) d k q o m) H := hP
    have hD : va_D A (wX g cA t ((s.1 - 2, s.2)) r c ((y.1, upd y.2 z1.toNatClampNeg z0)) d k q o m) := hD
    refine lv_iconst (v := 0) hx hb dX12_keeps_165 (by decide +kernel) ?_
    obtain rfl := Option.some.inj hE
    exact rt_i hx hb hr hP hS rfl hlocks dX12_keeps_166
  have w43 : ∀ (y1 : Int32) (y2 : Int32) (s : mS) (y : mY) (o : mO) (H : Heap) (locs : List Loc) (ls : Array Slot), va_P D vwCl (wX g cA t s r c y d k q o m) H → va_D A (wX g cA t s r c y d k q o m) → va_S A S0.heap H locs → lv_has ls 3 [(0, .ref (g 0)), (1, .int y1), (2, .int y2)] → b_X12_keeps_43  y1 y2 s y o = some u → W PP l EE (headSpec wsX12_keeps ({ frames := 2, cells := 0, slots := 0, locals := 48 })).room S0 MM (#[.ref (g 0), .int x1] : Array Value) below meth CC H locs 0 0 (MQ below (cQi D (wX g cA t u.2.1 r c u.2.2.1 d k q u.2.2.2 m) A u.1) (#[.ref (g 0), .int x1] : Array Value) S0 0 0 A) (F0 MM 43 ls []) := by
    intro y1 y2 s y o
    intro H locs ls hP hD hS hl hE
    unfold b_X12_keeps_43 at hE
    refine lv_iload_n hx hb dX12_keeps_43 rfl (lv_at hl 1 rfl) ?_
    by_cases c6 : y1 = 44
    · have hE := if_t c6 hE
      refine lv_tableIn (tgt := 92) (off := 48) hx hb dX12_keeps_44 (by rw [c6]; decide +kernel) (by rw [c6]; decide +kernel) (by rw [c6]; decide +kernel) (by decide) ?_
      refine lv_aload_n hx hb dX12_keeps_92 rfl (lv_at hl 0 rfl) ?_
      refine va_get (D := D) (ci := 10) (v := .ref (g 5)) (C := RX12) (T := TX12) (N := 40) hx hb hts inX12 hown hK hP 0 rfl rfl 8 (by decide) k2 (fun _ h9 => h9) rfl dX12_keeps_93 ?_
      refine lv_aload_n hx hb dX12_keeps_96 rfl (lv_at hl 0 rfl) ?_
      refine va_get (D := D) (ci := 10) (v := .int s.1) (C := RX12) (T := TX12) (N := 40) hx hb hts inX12 hown hK hP 0 rfl rfl 9 (by decide) k0 (fun _ h9 => h9) rfl dX12_keeps_97 ?_
      refine lv_iconst (v := 1) hx hb dX12_keeps_100 (by decide +kernel) ?_
      refine lv_isub hx hb dX12_keeps_101 ?_
      refine lv_aload_n hx hb dX12_keeps_102 rfl (lv_at hl 0 rfl) ?_
      refine va_get (D := D) (ci := 10) (v := .ref (g 10)) (C := RX12) (T := TX12) (N := 40) hx hb hts inX12 hown hK hP 0 rfl rfl 16 (by decide) k3 (fun _ h9 => h9) rfl dX12_keeps_103 ?_
      refine lv_iload_n hx hb dX12_keeps_106 rfl (lv_at hl 2 rfl) ?_
      have ⟨c7, hE⟩ := ck_some hE
      refine va_iald hx hb hK hP 10 0 rfl rfl c7 dX12_keeps_107 ?_
      have ⟨c8, hE⟩ := ck_some hE
      refine va_iast hx hb hK hP hD hS 5 0 rfl rfl c8 dX12_keeps_108 (fun H locs hP hD hS => ?_)
      have hP : va_P D vwCl (wX g cA t ((s.1, upd s.2 ((s.1 - 1).toNatClampNeg) (y.2 y2.toNatClampNeg))) r c y d k q o m) H := hP
      have hD : va_D A (wX g cA t ((s.1, upd s.2 ((s.1 - 1).toNatClampNeg) (y.2 y2.toNatClampNeg))) r c y d k q o m) := hD
      refine lv_iconst (v := 0) hx hb dX12_keeps_109 (by decide +kernel) ?_
      obtain rfl := Option.some.inj hE
      exact rt_i hx hb hr hP hS rfl hlocks dX12_keeps_110
    have hE := if_f c6 hE
    by_cases c9 : y1 = 45
    · have hE := if_t c9 hE
      refine lv_tableIn (tgt := 111) (off := 67) hx hb dX12_keeps_44 (by rw [c9]; decide +kernel) (by rw [c9]; decide +kernel) (by rw [c9]; decide +kernel) (by decide) ?_
      refine lv_aload_n hx hb dX12_keeps_111 rfl (lv_at hl 0 rfl) ?_
      refine va_get (D := D) (ci := 10) (v := .ref (g 10)) (C := RX12) (T := TX12) (N := 40) hx hb hts inX12 hown hK hP 0 rfl rfl 16 (by decide) k3 (fun _ h9 => h9) rfl dX12_keeps_112 ?_
      refine lv_iload_n hx hb dX12_keeps_115 rfl (lv_at hl 2 rfl) ?_
      refine lv_iload_n hx hb dX12_keeps_116 rfl (lv_at hl 1 rfl) ?_
      refine lv_bipush (v := 45) hx hb dX12_keeps_117 (by decide +kernel) ?_
      refine lv_icmp_ne (tgt := 136) hx hb dX12_keeps_119 (by decide) (fun c10 => ?_) (fun c10 => ?_)
      · have hE := if_f c10 hE
        refine lv_aload_n hx hb dX12_keeps_136 rfl (lv_at hl 0 rfl) ?_
        refine va_get (D := D) (ci := 10) (v := .ref (g 10)) (C := RX12) (T := TX12) (N := 40) hx hb hts inX12 hown hK hP 0 rfl rfl 16 (by decide) k3 (fun _ h9 => h9) rfl dX12_keeps_137 ?_
        refine lv_iload_n hx hb dX12_keeps_140 rfl (lv_at hl 2 rfl) ?_
        have ⟨c11, hE⟩ := ck_some hE
        refine va_iald hx hb hK hP 10 0 rfl rfl c11 dX12_keeps_141 ?_
        refine lv_aload_n hx hb dX12_keeps_142 rfl (lv_at hl 0 rfl) ?_
        refine va_get (D := D) (ci := 10) (v := .ref (g 5)) (C := RX12) (T := TX12) (N := 40) hx hb hts inX12 hown hK hP 0 rfl rfl 8 (by decide) k2 (fun _ h9 => h9) rfl dX12_keeps_143 ?_
        refine lv_aload_n hx hb dX12_keeps_146 rfl (lv_at hl 0 rfl) ?_
        refine va_get (D := D) (ci := 10) (v := .int s.1) (C := RX12) (T := TX12) (N := 40) hx hb hts inX12 hown hK hP 0 rfl rfl 9 (by decide) k0 (fun _ h9 => h9) rfl dX12_keeps_147 ?_
        refine lv_iconst (v := 2) hx hb dX12_keeps_150 (by decide +kernel) ?_
        refine lv_isub hx hb dX12_keeps_151 ?_
        have ⟨c12, hE⟩ := ck_some hE
        refine va_iald hx hb hK hP 5 0 rfl rfl c12 dX12_keeps_152 ?_
        refine lv_iadd hx hb dX12_keeps_153 ?_
        exact w154  ((y.2 y2.toNatClampNeg) + (s.2 ((s.1 - 2).toNatClampNeg))) y2 s y o H locs ls hP hD hS (lv_sub hl [0] rfl) hE
      · have hE := if_t c10 hE
        refine lv_aload_n hx hb dX12_keeps_122 rfl (lv_at hl 0 rfl) ?_
        refine va_get (D := D) (ci := 10) (v := .ref (g 5)) (C := RX12) (T := TX12) (N := 40) hx hb hts inX12 hown hK hP 0 rfl rfl 8 (by decide) k2 (fun _ h9 => h9) rfl dX12_keeps_123 ?_
        refine lv_aload_n hx hb dX12_keeps_126 rfl (lv_at hl 0 rfl) ?_
        refine va_get (D := D) (ci := 10) (v := .int s.1) (C := RX12) (T := TX12) (N := 40) hx hb hts inX12 hown hK hP 0 rfl rfl 9 (by decide) k0 (fun _ h9 => h9) rfl dX12_keeps_127 ?_
        refine lv_iconst (v := 2) hx hb dX12_keeps_130 (by decide +kernel) ?_
        refine lv_isub hx hb dX12_keeps_131 ?_
        have ⟨c13, hE⟩ := ck_some hE
        refine va_iald hx hb hK hP 5 0 rfl rfl c13 dX12_keeps_132 ?_
        refine lv_goto (tgt := 154) hx hb dX12_keeps_133 (by decide) ?_
        exact w154  (s.2 ((s.1 - 2).toNatClampNeg)) y2 s y o H locs ls hP hD hS (lv_sub hl [0] rfl) hE
    have hE := if_f c9 hE
    by_cases c14 : y1 = 46
    · have hE := if_t c14 hE
      refine lv_tableIn (tgt := 111) (off := 67) hx hb dX12_keeps_44 (by rw [c14]; decide +kernel) (by rw [c14]; decide +kernel) (by rw [c14]; decide +kernel) (by decide) ?_
      refine lv_aload_n hx hb dX12_keeps_111 rfl (lv_at hl 0 rfl) ?_
      refine va_get (D := D) (ci := 10) (v := .ref (g 10)) (C := RX12) (T := TX12) (N := 40) hx hb hts inX12 hown hK hP 0 rfl rfl 16 (by decide) k3 (fun _ h9 => h9) rfl dX12_keeps_112 ?_
      refine lv_iload_n hx hb dX12_keeps_115 rfl (lv_at hl 2 rfl) ?_
      refine lv_iload_n hx hb dX12_keeps_116 rfl (lv_at hl 1 rfl) ?_
      refine lv_bipush (v := 45) hx hb dX12_keeps_117 (by decide +kernel) ?_
      refine lv_icmp_ne (tgt := 136) hx hb dX12_keeps_119 (by decide) (fun c15 => ?_) (fun c15 => ?_)
      · have hE := if_f c15 hE
        refine lv_aload_n hx hb dX12_keeps_136 rfl (lv_at hl 0 rfl) ?_
        refine va_get (D := D) (ci := 10) (v := .ref (g 10)) (C := RX12) (T := TX12) (N := 40) hx hb hts inX12 hown hK hP 0 rfl rfl 16 (by decide) k3 (fun _ h9 => h9) rfl dX12_keeps_137 ?_
        refine lv_iload_n hx hb dX12_keeps_140 rfl (lv_at hl 2 rfl) ?_
        have ⟨c16, hE⟩ := ck_some hE
        refine va_iald hx hb hK hP 10 0 rfl rfl c16 dX12_keeps_141 ?_
        refine lv_aload_n hx hb dX12_keeps_142 rfl (lv_at hl 0 rfl) ?_
        refine va_get (D := D) (ci := 10) (v := .ref (g 5)) (C := RX12) (T := TX12) (N := 40) hx hb hts inX12 hown hK hP 0 rfl rfl 8 (by decide) k2 (fun _ h9 => h9) rfl dX12_keeps_143 ?_
        refine lv_aload_n hx hb dX12_keeps_146 rfl (lv_at hl 0 rfl) ?_
        refine va_get (D := D) (ci := 10) (v := .int s.1) (C := RX12) (T := TX12) (N := 40) hx hb hts inX12 hown hK hP 0 rfl rfl 9 (by decide) k0 (fun _ h9 => h9) rfl dX12_keeps_147 ?_
        refine lv_iconst (v := 2) hx hb dX12_keeps_150 (by decide +kernel) ?_
        refine lv_isub hx hb dX12_keeps_151 ?_
        have ⟨c17, hE⟩ := ck_some hE
        refine va_iald hx hb hK hP 5 0 rfl rfl c17 dX12_keeps_152 ?_
        refine lv_iadd hx hb dX12_keeps_153 ?_
        exact w154  ((y.2 y2.toNatClampNeg) + (s.2 ((s.1 - 2).toNatClampNeg))) y2 s y o H locs ls hP hD hS (lv_sub hl [0] rfl) hE
      · have hE := if_t c15 hE
        refine lv_aload_n hx hb dX12_keeps_122 rfl (lv_at hl 0 rfl) ?_
        refine va_get (D := D) (ci := 10) (v := .ref (g 5)) (C := RX12) (T := TX12) (N := 40) hx hb hts inX12 hown hK hP 0 rfl rfl 8 (by decide) k2 (fun _ h9 => h9) rfl dX12_keeps_123 ?_
        refine lv_aload_n hx hb dX12_keeps_126 rfl (lv_at hl 0 rfl) ?_
        refine va_get (D := D) (ci := 10) (v := .int s.1) (C := RX12) (T := TX12) (N := 40) hx hb hts inX12 hown hK hP 0 rfl rfl 9 (by decide) k0 (fun _ h9 => h9) rfl dX12_keeps_127 ?_
        refine lv_iconst (v := 2) hx hb dX12_keeps_130 (by decide +kernel) ?_
        refine lv_isub hx hb dX12_keeps_131 ?_
        have ⟨c18, hE⟩ := ck_some hE
        refine va_iald hx hb hK hP 5 0 rfl rfl c18 dX12_keeps_132 ?_
        refine lv_goto (tgt := 154) hx hb dX12_keeps_133 (by decide) ?_
        exact w154  (s.2 ((s.1 - 2).toNatClampNeg)) y2 s y o H locs ls hP hD hS (lv_sub hl [0] rfl) hE
    have hE := if_f c14 hE
    by_cases c19 : y1 = 47
    · have hE := if_t c19 hE
      refine lv_tableIn (tgt := 167) (off := 123) hx hb dX12_keeps_44 (by rw [c19]; decide +kernel) (by rw [c19]; decide +kernel) (by rw [c19]; decide +kernel) (by decide) ?_
      refine lv_aload_n hx hb dX12_keeps_167 rfl (lv_at hl 0 rfl) ?_
      refine va_get (D := D) (ci := 10) (v := .int y.1) (C := RX12) (T := TX12) (N := 40) hx hb hts inX12 hown hK hP 0 rfl rfl 17 (by decide) k4 (fun _ h9 => h9) rfl dX12_keeps_168 ?_
      refine lv_sipush (v := 400) hx hb dX12_keeps_171 (by decide +kernel) ?_
      refine lv_icmp_ne (tgt := 182) hx hb dX12_keeps_174 (by decide) (fun c20 => ?_) (fun c20 => ?_)
      · have hE := if_f c20 hE
        refine lv_aload_n hx hb dX12_keeps_182 rfl (lv_at hl 0 rfl) ?_
        refine lv_aload_n hx hb dX12_keeps_183 rfl (lv_at hl 0 rfl) ?_
        obtain ⟨u21, h22, hE⟩ := bd_some hE
        refine cw_i (As := []) (rest := [.ref (g 0)]) (r := u21.1) (wc := (wX g cA t s r c y d k q o m)) ⟨hx, hb, hml, hown, hts⟩ (c_X12_pop l D cA g H.size t s r c y d k q o m u21 h22) (cwV 0 hts hX12_keeps_X12_pop_390 rfl rfl rfl (by decide +kernel) ⟨Nat.le_of_ble_eq_true rfl, Nat.le_of_ble_eq_true rfl⟩) rfl hl.1 rfl (Nat.le_of_ble_eq_true rfl) dX12_keeps_184 ⟨Nat.zero_le _, Nat.zero_le _⟩ hK hP hD hS hA (va_recv hK hP (ci := 10) (q0 := 0) rfl rfl) [g 0, g 1, g 2, g 3, g 4, g 5, g 6, g 7, g 8, g 9, g 10, g 11, g 12, g 13, g 14, g 15, g 16, g 17, g 18, g 19] rfl rfl (fun _ _ _ _ h => h) (fun _ _ _ => trivial) (fun H locs hP hD hS => ?_)
        have hP : va_P D vwCl (wX g cA t u21.2 r c y d k q o m) H := hP
        have hD : va_D A (wX g cA t u21.2 r c y d k q o m) := hD
        obtain ⟨u23, h24, hE⟩ := bd_some hE
        refine cw_i (As := [.int u21.1]) (rest := []) (r := u23.1) (wc := (wX g cA t u21.2 r c y d k q o m)) ⟨hx, hb, hml, hown, hts⟩ (c_X12_append l D cA g H.size u21.1 t u21.2 r c y d k q o m u23 h24) (cwV 1 hts hX12_keeps_X12_append_279 rfl rfl rfl (by decide +kernel) ⟨Nat.le_of_ble_eq_true rfl, Nat.le_of_ble_eq_true rfl⟩) rfl hl.1 rfl (Nat.le_of_ble_eq_true rfl) dX12_keeps_187 ⟨Nat.zero_le _, Nat.zero_le _⟩ hK hP hD hS hA (va_recv hK hP (ci := 10) (q0 := 0) rfl rfl) [g 0, g 1, g 2, g 3, g 4, g 5, g 6, g 7, g 8, g 9, g 10, g 11, g 12, g 13, g 14, g 15, g 16, g 17, g 18, g 19] rfl rfl (fun _ _ _ _ h => h) (fun _ _ _ => trivial) (fun H locs hP hD hS => ?_)
        have hP : va_P D vwCl (wX g cA t u21.2 r c u23.2 d k q o m) H := hP
        have hD : va_D A (wX g cA t u21.2 r c u23.2 d k q o m) := hD
        obtain rfl := Option.some.inj hE
        exact rt_i hx hb hr hP hS rfl hlocks dX12_keeps_190
      · have hE := if_t c20 hE
        refine lv_bipush (v := (-8)) hx hb dX12_keeps_177 (by decide +kernel) ?_
        refine lv_goto (tgt := 190) hx hb dX12_keeps_179 (by decide) ?_
        obtain rfl := Option.some.inj hE
        exact rt_i hx hb hr hP hS rfl hlocks dX12_keeps_190
    have hE := if_f c19 hE
    by_cases c25 : y1 = 48
    · have hE := if_t c25 hE
      refine lv_tableIn (tgt := 191) (off := 147) hx hb dX12_keeps_44 (by rw [c25]; decide +kernel) (by rw [c25]; decide +kernel) (by rw [c25]; decide +kernel) (by decide) ?_
      refine lv_aload_n hx hb dX12_keeps_191 rfl (lv_at hl 0 rfl) ?_
      refine va_get (D := D) (ci := 10) (v := .int s.1) (C := RX12) (T := TX12) (N := 40) hx hb hts inX12 hown hK hP 0 rfl rfl 9 (by decide) k0 (fun _ h9 => h9) rfl dX12_keeps_192 ?_
      refine lv_bipush (v := 30) hx hb dX12_keeps_195 (by decide +kernel) ?_
      refine lv_icmp_ne (tgt := 205) hx hb dX12_keeps_197 (by decide) (fun c26 => ?_) (fun c26 => ?_)
      · have hE := if_f c26 hE
        refine lv_aload_n hx hb dX12_keeps_205 rfl (lv_at hl 0 rfl) ?_
        refine lv_aload_n hx hb dX12_keeps_206 rfl (lv_at hl 0 rfl) ?_
        refine va_get (D := D) (ci := 10) (v := .int y.1) (C := RX12) (T := TX12) (N := 40) hx hb hts inX12 hown hK hP 0 rfl rfl 17 (by decide) k4 (fun _ h9 => h9) rfl dX12_keeps_207 ?_
        obtain ⟨u27, h28, hE⟩ := bd_some hE
        refine cw_i (As := [.int y.1]) (rest := []) (r := u27.1) (wc := (wX g cA t s r c y d k q o m)) ⟨hx, hb, hml, hown, hts⟩ (c_X12_push l D cA g H.size y.1 t s r c y d k q o m u27 h28) (cwV 1 hts hX12_keeps_X12_push_296 rfl rfl rfl (by decide +kernel) ⟨Nat.le_of_ble_eq_true rfl, Nat.le_of_ble_eq_true rfl⟩) rfl hl.1 rfl (Nat.le_of_ble_eq_true rfl) dX12_keeps_210 ⟨Nat.zero_le _, Nat.zero_le _⟩ hK hP hD hS hA (va_recv hK hP (ci := 10) (q0 := 0) rfl rfl) [g 0, g 1, g 2, g 3, g 4, g 5, g 6, g 7, g 8, g 9, g 10, g 11, g 12, g 13, g 14, g 15, g 16, g 17, g 18, g 19] rfl rfl (fun _ _ _ _ h => h) (fun _ _ _ => trivial) (fun H locs hP hD hS => ?_)
        have hP : va_P D vwCl (wX g cA t u27.2 r c y d k q o m) H := hP
        have hD : va_D A (wX g cA t u27.2 r c y d k q o m) := hD
        obtain rfl := Option.some.inj hE
        exact rt_i hx hb hr hP hS rfl hlocks dX12_keeps_213
      · have hE := if_t c26 hE
        refine lv_bipush (v := (-3)) hx hb dX12_keeps_200 (by decide +kernel) ?_
        refine lv_goto (tgt := 213) hx hb dX12_keeps_202 (by decide) ?_
        obtain rfl := Option.some.inj hE
        exact rt_i hx hb hr hP hS rfl hlocks dX12_keeps_213
    have hE := if_f c25 hE
    by_cases c29 : y1 = 49
    · have hE := if_t c29 hE
      refine lv_tableIn (tgt := 214) (off := 170) hx hb dX12_keeps_44 (by rw [c29]; decide +kernel) (by rw [c29]; decide +kernel) (by rw [c29]; decide +kernel) (by decide) ?_
      refine lv_iload_n hx hb dX12_keeps_214 rfl (lv_at hl 2 rfl) ?_
      refine lv_aload_n hx hb dX12_keeps_215 rfl (lv_at hl 0 rfl) ?_
      refine va_get (D := D) (ci := 10) (v := .int y.1) (C := RX12) (T := TX12) (N := 40) hx hb hts inX12 hown hK hP 0 rfl rfl 17 (by decide) k4 (fun _ h9 => h9) rfl dX12_keeps_216 ?_
      refine lv_ineg hx hb dX12_keeps_219 ?_
      refine lv_icmp_lt (tgt := 235) hx hb dX12_keeps_220 (by decide) (fun c30 => ?_) (fun c30 => ?_)
      · have hE := if_t c30 hE
        refine lv_bipush (v := (-8)) hx hb dX12_keeps_235 (by decide +kernel) ?_
        obtain rfl := Option.some.inj hE
        exact rt_i hx hb hr hP hS rfl hlocks dX12_keeps_237
      · have hE := if_f c30 hE
        refine lv_iload_n hx hb dX12_keeps_223 rfl (lv_at hl 2 rfl) ?_
        refine lv_sipush (v := 400) hx hb dX12_keeps_224 (by decide +kernel) ?_
        refine lv_aload_n hx hb dX12_keeps_227 rfl (lv_at hl 0 rfl) ?_
        refine va_get (D := D) (ci := 10) (v := .int y.1) (C := RX12) (T := TX12) (N := 40) hx hb hts inX12 hown hK hP 0 rfl rfl 17 (by decide) k4 (fun _ h9 => h9) rfl dX12_keeps_228 ?_
        refine lv_isub hx hb dX12_keeps_231 ?_
        refine lv_icmp_le (tgt := 238) hx hb dX12_keeps_232 (by decide) (fun c31 => ?_) (fun c31 => ?_)
        · have hE := if_t c31 hE
          refine lv_aload_n hx hb dX12_keeps_238 rfl (lv_at hl 0 rfl) ?_
          refine lv_dup hx hb dX12_keeps_239 rfl ?_
          refine va_get (D := D) (ci := 10) (v := .int y.1) (C := RX12) (T := TX12) (N := 40) hx hb hts inX12 hown hK hP 0 rfl rfl 17 (by decide) k4 (fun _ h9 => h9) rfl dX12_keeps_240 ?_
          refine lv_aload_n hx hb dX12_keeps_243 rfl (lv_at hl 0 rfl) ?_
          obtain ⟨u32, h33, hE⟩ := bd_some hE
          refine cw_i (As := []) (rest := [.int y.1, .ref (g 0)]) (r := u32.1) (wc := (wX g cA t s r c y d k q o m)) ⟨hx, hb, hml, hown, hts⟩ (c_X12_pop l D cA g H.size t s r c y d k q o m u32 h33) (cwV 0 hts hX12_keeps_X12_pop_390 rfl rfl rfl (by decide +kernel) ⟨Nat.le_of_ble_eq_true rfl, Nat.le_of_ble_eq_true rfl⟩) rfl hl.1 rfl (Nat.le_of_ble_eq_true rfl) dX12_keeps_244 ⟨Nat.zero_le _, Nat.zero_le _⟩ hK hP hD hS hA (va_recv hK hP (ci := 10) (q0 := 0) rfl rfl) [g 0, g 1, g 2, g 3, g 4, g 5, g 6, g 7, g 8, g 9, g 10, g 11, g 12, g 13, g 14, g 15, g 16, g 17, g 18, g 19] rfl rfl (fun _ _ _ _ h => h) (fun _ _ _ => trivial) (fun H locs hP hD hS => ?_)
          have hP : va_P D vwCl (wX g cA t u32.2 r c y d k q o m) H := hP
          have hD : va_D A (wX g cA t u32.2 r c y d k q o m) := hD
          refine lv_iadd hx hb dX12_keeps_247 ?_
          refine va_put (D := D) (ci := 10) (v := .int (y.1 + u32.1)) (ty := .int) (C := RX12) (T := TX12) (N := 40) hx hb hts inX12 tyX12 tyX12_ok nmX12 hown hK hP hD hS 0 rfl rfl 17 (by decide) k4 (fun _ h9 => h9) rfl (by decide +kernel) rfl rfl (Nat.le_of_ble_eq_true rfl) dX12_keeps_248 (fun H locs hP hD hS => ?_)
          have hP : va_P D vwCl (wX g cA t u32.2 r c ((y.1 + u32.1, y.2)) d k q o m) H := hP
          have hD : va_D A (wX g cA t u32.2 r c ((y.1 + u32.1, y.2)) d k q o m) := hD
          refine lv_iconst (v := 0) hx hb dX12_keeps_251 (by decide +kernel) ?_
          obtain rfl := Option.some.inj hE
          exact rt_i hx hb hr hP hS rfl hlocks dX12_keeps_252
        · have hE := if_f c31 hE
          refine lv_bipush (v := (-8)) hx hb dX12_keeps_235 (by decide +kernel) ?_
          obtain rfl := Option.some.inj hE
          exact rt_i hx hb hr hP hS rfl hlocks dX12_keeps_237
    have hE := if_f c29 hE
    by_cases c34 : y1 = 50
    · have hE := if_t c34 hE
      refine lv_tableIn (tgt := 253) (off := 209) hx hb dX12_keeps_44 (by rw [c34]; decide +kernel) (by rw [c34]; decide +kernel) (by rw [c34]; decide +kernel) (by decide) ?_
      refine lv_aload_n hx hb dX12_keeps_253 rfl (lv_at hl 0 rfl) ?_
      refine lv_aload_n hx hb dX12_keeps_254 rfl (lv_at hl 0 rfl) ?_
      obtain ⟨u35, h36, hE⟩ := bd_some hE
      refine cw_i (As := []) (rest := [.ref (g 0)]) (r := u35.1) (wc := (wX g cA t s r c y d k q o m)) ⟨hx, hb, hml, hown, hts⟩ (c_X12_pop l D cA g H.size t s r c y d k q o m u35 h36) (cwV 0 hts hX12_keeps_X12_pop_390 rfl rfl rfl (by decide +kernel) ⟨Nat.le_of_ble_eq_true rfl, Nat.le_of_ble_eq_true rfl⟩) rfl hl.1 rfl (Nat.le_of_ble_eq_true rfl) dX12_keeps_255 ⟨Nat.zero_le _, Nat.zero_le _⟩ hK hP hD hS hA (va_recv hK hP (ci := 10) (q0 := 0) rfl rfl) [g 0, g 1, g 2, g 3, g 4, g 5, g 6, g 7, g 8, g 9, g 10, g 11, g 12, g 13, g 14, g 15, g 16, g 17, g 18, g 19] rfl rfl (fun _ _ _ _ h => h) (fun _ _ _ => trivial) (fun H locs hP hD hS => ?_)
      have hP : va_P D vwCl (wX g cA t u35.2 r c y d k q o m) H := hP
      have hD : va_D A (wX g cA t u35.2 r c y d k q o m) := hD
      obtain ⟨u37, h38, hE⟩ := bd_some hE
      refine cw_v (As := [.int u35.1]) (rest := []) (wc := (wX g cA t u35.2 r c y d k q o m)) ⟨hx, hb, hml, hown, hts⟩ (c_X12_number l D cA g H.size u35.1 t u35.2 r c y d k q o m u37 h38) (cwV 1 hts hX12_keeps_X12_number_410 rfl rfl rfl (by decide +kernel) ⟨Nat.le_of_ble_eq_true rfl, Nat.le_of_ble_eq_true rfl⟩) rfl hl.1 rfl (Nat.le_of_ble_eq_true rfl) dX12_keeps_258 ⟨Nat.zero_le _, Nat.zero_le _⟩ hK hP hD hS hA (va_recv hK hP (ci := 10) (q0 := 0) rfl rfl) [g 0, g 1, g 2, g 3, g 4, g 5, g 6, g 7, g 8, g 9, g 10, g 11, g 12, g 13, g 14, g 15, g 16, g 17, g 18, g 19] rfl rfl (fun _ _ _ _ h => h) (fun _ _ _ => trivial) (fun H locs hP hD hS => ?_)
      have hP : va_P D vwCl (wX g cA t u35.2 r c y d k q u37 m) H := hP
      have hD : va_D A (wX g cA t u35.2 r c y d k q u37 m) := hD
      refine lv_aload_n hx hb dX12_keeps_261 rfl (lv_at hl 0 rfl) ?_
      refine lv_bipush (v := 32) hx hb dX12_keeps_262 (by decide +kernel) ?_
      obtain ⟨u39, h40, hE⟩ := bd_some hE
      refine cw_v (As := [.int 32]) (rest := []) (wc := (wX g cA t u35.2 r c y d k q u37 m)) ⟨hx, hb, hml, hown, hts⟩ (c_X12_write l D cA g H.size 32 t u35.2 r c y d k q u37 m u39 h40) (cwV 1 hts hX12_keeps_X12_write_413 rfl rfl rfl (by decide +kernel) ⟨Nat.le_of_ble_eq_true rfl, Nat.le_of_ble_eq_true rfl⟩) rfl hl.1 rfl (Nat.le_of_ble_eq_true rfl) dX12_keeps_264 ⟨Nat.zero_le _, Nat.zero_le _⟩ hK hP hD hS hA (va_recv hK hP (ci := 10) (q0 := 0) rfl rfl) [g 0, g 1, g 2, g 3, g 4, g 5, g 6, g 7, g 8, g 9, g 10, g 11, g 12, g 13, g 14, g 15, g 16, g 17, g 18, g 19] rfl rfl (fun _ _ _ _ h => h) (fun _ _ _ => trivial) (fun H locs hP hD hS => ?_)
      have hP : va_P D vwCl (wX g cA t u35.2 r c y d k q u39 m) H := hP
      have hD : va_D A (wX g cA t u35.2 r c y d k q u39 m) := hD
      refine lv_iconst (v := 0) hx hb dX12_keeps_267 (by decide +kernel) ?_
      obtain rfl := Option.some.inj hE
      exact rt_i hx hb hr hP hS rfl hlocks dX12_keeps_268
    have hE := if_f c34 hE
    by_cases c41 : y1 = 51
    · have hE := if_t c41 hE
      refine lv_tableIn (tgt := 269) (off := 225) hx hb dX12_keeps_44 (by rw [c41]; decide +kernel) (by rw [c41]; decide +kernel) (by rw [c41]; decide +kernel) (by decide) ?_
      refine lv_aload_n hx hb dX12_keeps_269 rfl (lv_at hl 0 rfl) ?_
      refine lv_aload_n hx hb dX12_keeps_270 rfl (lv_at hl 0 rfl) ?_
      obtain ⟨u42, h43, hE⟩ := bd_some hE
      refine cw_i (As := []) (rest := [.ref (g 0)]) (r := u42.1) (wc := (wX g cA t s r c y d k q o m)) ⟨hx, hb, hml, hown, hts⟩ (c_X12_pop l D cA g H.size t s r c y d k q o m u42 h43) (cwV 0 hts hX12_keeps_X12_pop_390 rfl rfl rfl (by decide +kernel) ⟨Nat.le_of_ble_eq_true rfl, Nat.le_of_ble_eq_true rfl⟩) rfl hl.1 rfl (Nat.le_of_ble_eq_true rfl) dX12_keeps_271 ⟨Nat.zero_le _, Nat.zero_le _⟩ hK hP hD hS hA (va_recv hK hP (ci := 10) (q0 := 0) rfl rfl) [g 0, g 1, g 2, g 3, g 4, g 5, g 6, g 7, g 8, g 9, g 10, g 11, g 12, g 13, g 14, g 15, g 16, g 17, g 18, g 19] rfl rfl (fun _ _ _ _ h => h) (fun _ _ _ => trivial) (fun H locs hP hD hS => ?_)
      have hP : va_P D vwCl (wX g cA t u42.2 r c y d k q o m) H := hP
      have hD : va_D A (wX g cA t u42.2 r c y d k q o m) := hD
      refine lv_bipush (v := 127) hx hb dX12_keeps_274 (by decide +kernel) ?_
      refine lv_iand hx hb dX12_keeps_276 ?_
      obtain ⟨u44, h45, hE⟩ := bd_some hE
      refine cw_v (As := [.int (u42.1 &&& 127)]) (rest := []) (wc := (wX g cA t u42.2 r c y d k q o m)) ⟨hx, hb, hml, hown, hts⟩ (c_X12_write l D cA g H.size (u42.1 &&& 127) t u42.2 r c y d k q o m u44 h45) (cwV 1 hts hX12_keeps_X12_write_413 rfl rfl rfl (by decide +kernel) ⟨Nat.le_of_ble_eq_true rfl, Nat.le_of_ble_eq_true rfl⟩) rfl hl.1 rfl (Nat.le_of_ble_eq_true rfl) dX12_keeps_277 ⟨Nat.zero_le _, Nat.zero_le _⟩ hK hP hD hS hA (va_recv hK hP (ci := 10) (q0 := 0) rfl rfl) [g 0, g 1, g 2, g 3, g 4, g 5, g 6, g 7, g 8, g 9, g 10, g 11, g 12, g 13, g 14, g 15, g 16, g 17, g 18, g 19] rfl rfl (fun _ _ _ _ h => h) (fun _ _ _ => trivial) (fun H locs hP hD hS => ?_)
      have hP : va_P D vwCl (wX g cA t u42.2 r c y d k q u44 m) H := hP
      have hD : va_D A (wX g cA t u42.2 r c y d k q u44 m) := hD
      refine lv_iconst (v := 0) hx hb dX12_keeps_280 (by decide +kernel) ?_
      obtain rfl := Option.some.inj hE
      exact rt_i hx hb hr hP hS rfl hlocks dX12_keeps_281
    have hE := if_f c41 hE
    have tc6 := lv_neT c6 (show (44 : Int32).toInt = 44 by decide +kernel)
    have tc9 := lv_neT c9 (show (45 : Int32).toInt = 45 by decide +kernel)
    have tc14 := lv_neT c14 (show (46 : Int32).toInt = 46 by decide +kernel)
    have tc19 := lv_neT c19 (show (47 : Int32).toInt = 47 by decide +kernel)
    have tc25 := lv_neT c25 (show (48 : Int32).toInt = 48 by decide +kernel)
    have tc29 := lv_neT c29 (show (49 : Int32).toInt = 49 by decide +kernel)
    have tc34 := lv_neT c34 (show (50 : Int32).toInt = 50 by decide +kernel)
    have tc41 := lv_neT c41 (show (51 : Int32).toInt = 51 by decide +kernel)
    refine lv_tableOut (tgt := 282) hx hb dX12_keeps_44 (by omega) (by decide) ?_
    refine lv_aload_n hx hb dX12_keeps_282 rfl (lv_at hl 0 rfl) ?_
    refine lv_bipush (v := 10) hx hb dX12_keeps_283 (by decide +kernel) ?_
    obtain ⟨u46, h47, hE⟩ := bd_some hE
    refine cw_v (As := [.int 10]) (rest := []) (wc := (wX g cA t s r c y d k q o m)) ⟨hx, hb, hml, hown, hts⟩ (c_X12_write l D cA g H.size 10 t s r c y d k q o m u46 h47) (cwV 1 hts hX12_keeps_X12_write_413 rfl rfl rfl (by decide +kernel) ⟨Nat.le_of_ble_eq_true rfl, Nat.le_of_ble_eq_true rfl⟩) rfl hl.1 rfl (Nat.le_of_ble_eq_true rfl) dX12_keeps_285 ⟨Nat.zero_le _, Nat.zero_le _⟩ hK hP hD hS hA (va_recv hK hP (ci := 10) (q0 := 0) rfl rfl) [g 0, g 1, g 2, g 3, g 4, g 5, g 6, g 7, g 8, g 9, g 10, g 11, g 12, g 13, g 14, g 15, g 16, g 17, g 18, g 19] rfl rfl (fun _ _ _ _ h => h) (fun _ _ _ => trivial) (fun H locs hP hD hS => ?_)
    have hP : va_P D vwCl (wX g cA t s r c y d k q u46 m) H := hP
    have hD : va_D A (wX g cA t s r c y d k q u46 m) := hD
    refine lv_iconst (v := 0) hx hb dX12_keeps_288 (by decide +kernel) ?_
    obtain rfl := Option.some.inj hE
    exact rt_i hx hb hr hP hS rfl hlocks dX12_keeps_289
  have w22 : ∀ (y1 : Int32) (z0 : Int32) (s : mS) (y : mY) (o : mO) (H : Heap) (locs : List Loc) (ls : Array Slot), va_P D vwCl (wX g cA t s r c y d k q o m) H → va_D A (wX g cA t s r c y d k q o m) → va_S A S0.heap H locs → lv_has ls 3 [(0, .ref (g 0)), (1, .int y1)] → b_X12_keeps_22  y1 z0 s y o = some u → W PP l EE (headSpec wsX12_keeps ({ frames := 2, cells := 0, slots := 0, locals := 48 })).room S0 MM (#[.ref (g 0), .int x1] : Array Value) below meth CC H locs 0 0 (MQ below (cQi D (wX g cA t u.2.1 r c u.2.2.1 d k q u.2.2.2 m) A u.1) (#[.ref (g 0), .int x1] : Array Value) S0 0 0 A) (F0 MM 22 ls [.int z0]) := by
    intro y1 z0 s y o
    intro H locs ls hP hD hS hl hE
    unfold b_X12_keeps_22 at hE
    refine lv_istore_n (lv' := [(2, .int z0), (0, .ref (g 0)), (1, .int y1)]) hx hb dX12_keeps_22 rfl hl (by decide) rfl (fun ls hl => ?_)
    refine lv_iload_n hx hb dX12_keeps_23 rfl (lv_at hl 2 rfl) ?_
    refine lv_bipush (v := 47) hx hb dX12_keeps_24 (by decide +kernel) ?_
    refine lv_icmp_ge (tgt := 43) hx hb dX12_keeps_26 (by decide) (fun c3 => ?_) (fun c3 => ?_)
    · have hE := if_t c3 hE
      exact w43  y1 z0 s y o H locs ls hP hD hS (lv_sub hl [1, 2, 0] rfl) hE
    · have hE := if_f c3 hE
      refine lv_iload_n hx hb dX12_keeps_29 rfl (lv_at hl 0 rfl) ?_
      refine lv_if_lt (tgt := 40) hx hb dX12_keeps_30 (by decide) (fun c4 => ?_) (fun c4 => ?_)
      · have hE := if_t c4 hE
        refine lv_bipush (v := (-9)) hx hb dX12_keeps_40 (by decide +kernel) ?_
        obtain rfl := Option.some.inj hE
        exact rt_i hx hb hr hP hS rfl hlocks dX12_keeps_42
      · have hE := if_f c4 hE
        refine lv_iload_n hx hb dX12_keeps_33 rfl (lv_at hl 0 rfl) ?_
        refine lv_sipush (v := 400) hx hb dX12_keeps_34 (by decide +kernel) ?_
        refine lv_icmp_lt (tgt := 43) hx hb dX12_keeps_37 (by decide) (fun c5 => ?_) (fun c5 => ?_)
        · have hE := if_t c5 hE
          exact w43  y1 z0 s y o H locs ls hP hD hS (lv_sub hl [1, 2, 0] rfl) hE
        · have hE := if_f c5 hE
          refine lv_bipush (v := (-9)) hx hb dX12_keeps_40 (by decide +kernel) ?_
          obtain rfl := Option.some.inj hE
          exact rt_i hx hb hr hP hS rfl hlocks dX12_keeps_42
  unfold f_X12_keeps at hE
  suffices main : ∀ (H : Heap) (locs : List Loc) (ls : Array Slot), va_P D vwCl (wX g cA t s r c y d k q o m) H → va_D A (wX g cA t s r c y d k q o m) → va_S A S0.heap H locs → lv_has ls 3 [(0, .ref (g 0)), (1, .int x1)] → W PP l EE (headSpec wsX12_keeps ({ frames := 2, cells := 0, slots := 0, locals := 48 })).room S0 MM (#[.ref (g 0), .int x1] : Array Value) below meth CC H locs 0 0 (MQ below (cQi D (wX g cA t u.2.1 r c u.2.2.1 d k q u.2.2.2 m) A u.1) (#[.ref (g 0), .int x1] : Array Value) S0 0 0 A) (F0 MM 0 ls []) from main _ _ _ hP hD hS hl
  intro H locs ls hP hD hS hl
  refine lv_aload_n hx hb dX12_keeps_0 rfl (lv_at hl 0 rfl) ?_
  refine va_get (D := D) (ci := 10) (v := .int s.1) (C := RX12) (T := TX12) (N := 40) hx hb hts inX12 hown hK hP 0 rfl rfl 9 (by decide) k0 (fun _ h9 => h9) rfl dX12_keeps_1 ?_
  refine lv_if_le (tgt := 21) hx hb dX12_keeps_4 (by decide) (fun c1 => ?_) (fun c1 => ?_)
  · have hE := if_t c1 hE
    refine lv_iconst (v := 0) hx hb dX12_keeps_21 (by decide +kernel) ?_
    exact w22  x1 0 s y o H locs ls hP hD hS (lv_sub hl [0, 1] rfl) hE
  · have hE := if_f c1 hE
    refine lv_aload_n hx hb dX12_keeps_7 rfl (lv_at hl 0 rfl) ?_
    refine va_get (D := D) (ci := 10) (v := .ref (g 5)) (C := RX12) (T := TX12) (N := 40) hx hb hts inX12 hown hK hP 0 rfl rfl 8 (by decide) k2 (fun _ h9 => h9) rfl dX12_keeps_8 ?_
    refine lv_aload_n hx hb dX12_keeps_11 rfl (lv_at hl 0 rfl) ?_
    refine va_get (D := D) (ci := 10) (v := .int s.1) (C := RX12) (T := TX12) (N := 40) hx hb hts inX12 hown hK hP 0 rfl rfl 9 (by decide) k0 (fun _ h9 => h9) rfl dX12_keeps_12 ?_
    refine lv_iconst (v := 1) hx hb dX12_keeps_15 (by decide +kernel) ?_
    refine lv_isub hx hb dX12_keeps_16 ?_
    have ⟨c2, hE⟩ := ck_some hE
    refine va_iald hx hb hK hP 5 0 rfl rfl c2 dX12_keeps_17 ?_
    refine lv_goto (tgt := 22) hx hb dX12_keeps_18 (by decide) ?_
    exact w22  x1 (s.2 ((s.1 - 1).toNatClampNeg)) s y o H locs ls hP hD hS (lv_sub hl [0, 1] rfl) hE
set_option maxRecDepth 20000 in
theorem hX12_begins_X12_parse_419 : GoodIn wsX12_begins (wsV RX12 419 RX12 yX12_parse wsX12_parse) := goodIn_r _ [16, 17, 18, 19, 20, 10, 21, 22, 23, 19, 24, 25, 26, 13, 27, 28, 29, 30, 12, 42, 43, 44, 45, 46, 47, 48, 49, 50, 51, 52, 53, 54, 55, 56, 57, 58, 59, 60, 61, 62, 63, 64, 65, 66, 67, 68, 69, 70, 71, 72, 73, 74, 75, 76, 77, 78, 79, 80, 81] rfl (by decide +kernel)
set_option maxRecDepth 20000 in
theorem hX12_begins_X12_pop_390 : GoodIn wsX12_begins (wsV RX12 390 RX12 yX12_pop wsX12_pop) := goodIn_r _ [31, 32, 33, 19, 34, 35, 36, 42, 43, 44, 45, 46, 47, 48, 49, 50, 51, 52, 53, 54, 55, 56, 57, 58, 59, 60, 61, 62, 63, 64, 65, 66, 67, 68, 69, 70, 71, 72, 73, 74, 75, 76, 77, 78, 79, 80, 81] rfl (by decide +kernel)
set_option maxRecDepth 20000 in
theorem hX12_begins_X12_append_279 : GoodIn wsX12_begins (wsV RX12 279 RX12 yX12_append wsX12_append) := goodIn_r _ [37, 38, 39, 19, 40, 41, 3, 42, 43, 44, 45, 46, 47, 48, 49, 50, 51, 52, 53, 54, 55, 56, 57, 58, 59, 60, 61, 62, 63, 64, 65, 66, 67, 68, 69, 70, 71, 72, 73, 74, 75, 76, 77, 78, 79, 80, 81] rfl (by decide +kernel)
set_option maxHeartbeats 4000000 in
set_option maxRecDepth 100000 in
theorem c_X12_begins (l : Launch) (D : va_G) (cA : Nat → ClassId) (g : Nat → Nat) (sz : Nat) (x1 : Int32) (t : mT) (s : mS) (r : mR) (c : mC) (y : mY) (d : mD) (k : mK) (q : mP) (o : mO) (m : mM) (u : Int32 × mT × mS × mY × mD × mK) (hE : f_X12_begins x1 t s y d k = some u) : Met l yX12_begins wsX12_begins ({ frames := 3, cells := 0, slots := 0, locals := 61 }) (va_Pc [.ref (g 0), .int x1] (PRE D cA (wX g cA t s r c y d k q o m) sz (fun _ => True))) (cQi D (wX g cA u.2.1 u.2.2.1 r c u.2.2.2.1 u.2.2.2.2.1 u.2.2.2.2.2 q o m) (va_A (wX g cA t s r c y d k q o m) sz) u.1) 0 0 (va_A (wX g cA t s r c y d k q o m) sz) := by
  refine Met.ofW (cc := cX12_begins) (maxL := 4) (ret := (some .int)) (by decide) rfl ?_
  intro PP EE S0 MM args below meth CC S1 B hml hv
  obtain ⟨rfl, hsz, hP, hK, hD0, hX⟩ := hv
  have hx := B.exec
  have hb := B.bytes
  have hr := B.returns
  have hts := atoms_spec (ws := wsX12_begins) B.pre
  have hown : S0.vm.findClass RX12 = some MM.cls := findClass_of_methodNamed B.named
  have hlocks := B.notSynchronized
  subst hsz
  have hD := hD0.self (sz := S0.heap.size)
  generalize hAe : va_A (wX g cA t s r c y d k q o m) S0.heap.size = A at hD ⊢
  have hA : ∀ q : Nat, S0.heap.size ≤ q → A q := fun q h => by rw [← hAe]; exact Or.inr h
  have hS : va_S A S0.heap S0.heap [] := va_S.rf
  have k0 := hts (.fieldLink RX12 341 "WordForgeModel" "making" "Z") (List.mem_of_getElem? (i := 1) rfl)
  have inX12 : ∀ w ∈ wsX120, w ∈ wsX12_begins := fun _ h => List.mem_cons_of_mem _ (List.mem_append_right _ h)
  have k2 := hts (.fieldLink RX12 239 "WordForgeModel" "made" "I") (List.mem_of_getElem? (i := 2) rfl)
  have k3 := hts (.fieldLink RX12 276 "WordForgeModel" "here" "I") (List.mem_of_getElem? (i := 3) rfl)
  have k4 := hts (.fieldLink RX12 187 "WordForgeModel" "place" "[I") (List.mem_of_getElem? (i := 4) rfl)
  have k5 := hts (.fieldLink RX12 190 "WordForgeModel" "sort" "[I") (List.mem_of_getElem? (i := 5) rfl)
  have k6 := hts (.fieldLink RX12 193 "WordForgeModel" "behaviour" "[I") (List.mem_of_getElem? (i := 6) rfl)
  have k7 := hts (.fieldLink RX12 196 "WordForgeModel" "immediate" "[Z") (List.mem_of_getElem? (i := 7) rfl)
  have k8 := hts (.fieldLink RX12 200 "WordForgeModel" "finished" "[Z") (List.mem_of_getElem? (i := 8) rfl)
  have k9 := hts (.fieldLink RX12 206 "WordForgeModel" "nameSize" "[I") (List.mem_of_getElem? (i := 9) rfl)
  have k10 := hts (.fieldLink RX12 232 "WordForgeModel" "length" "I") (List.mem_of_getElem? (i := 10) rfl)
  have k11 := hts (.fieldLink RX12 344 "WordForgeModel" "begun" "I") (List.mem_of_getElem? (i := 14) rfl)
  have k12 := hts (.fieldLink RX12 203 "WordForgeModel" "names" "[I") (List.mem_of_getElem? (i := 11) rfl)
  have k13 := hts (.fieldLink RX12 162 "WordForgeModel" "text" "[I") (List.mem_of_getElem? (i := 12) rfl)
  have k14 := hts (.fieldLink RX12 229 "WordForgeModel" "from" "I") (List.mem_of_getElem? (i := 13) rfl)
  have k15 := hts (.fieldLink RX12 270 "WordForgeModel" "compiling" "Z") (List.mem_of_getElem? (i := 15) rfl)
  have hl := lv_entry ([.ref (g 0), .int x1]) (n := 4) (Nat.le_of_ble_eq_true rfl)
  rw [lg_entry_eq]
  generalize (lg_sl ([.ref (g 0), .int x1]) ++ List.replicate (4 - (lg_sl ([.ref (g 0), .int x1])).length) Slot.unset).toArray = ls at hl ⊢
  have hl : lv_has ls 4 [(0, .ref (g 0)), (1, .int x1)] := hl
  have w263 : ∀ (y1 : Int32) (t : mT) (s : mS) (y : mY) (d : mD) (k : mK) (H : Heap) (locs : List Loc) (ls : Array Slot), va_P D vwCl (wX g cA t s r c y d k q o m) H → va_D A (wX g cA t s r c y d k q o m) → va_S A S0.heap H locs → lv_has ls 4 [(0, .ref (g 0)), (1, .int y1)] → b_X12_begins_263  y1 t s y d k = some u → W PP l EE (headSpec wsX12_begins ({ frames := 3, cells := 0, slots := 0, locals := 61 })).room S0 MM (#[.ref (g 0), .int x1] : Array Value) below meth CC H locs 0 0 (MQ below (cQi D (wX g cA u.2.1 u.2.2.1 r c u.2.2.2.1 u.2.2.2.2.1 u.2.2.2.2.2 q o m) A u.1) (#[.ref (g 0), .int x1] : Array Value) S0 0 0 A) (F0 MM 263 ls []) := by
    intro y1 t s y d k
    intro H locs ls hP hD hS hl hE
    unfold b_X12_begins_263 at hE
    refine lv_iload_n hx hb dX12_begins_263 rfl (lv_at hl 1 rfl) ?_
    refine lv_bipush (v := 56) hx hb dX12_begins_264 (by decide +kernel) ?_
    refine lv_icmp_ne (tgt := 275) hx hb dX12_begins_266 (by decide) (fun c31 => ?_) (fun c31 => ?_)
    · have hE := if_f c31 hE
      refine lv_iconst (v := 0) hx hb dX12_begins_275 (by decide +kernel) ?_
      obtain rfl := Option.some.inj hE
      exact rt_i hx hb hr hP hS rfl hlocks dX12_begins_276
    · have hE := if_t c31 hE
      refine lv_aload_n hx hb dX12_begins_269 rfl (lv_at hl 0 rfl) ?_
      refine lv_iconst (v := 0) hx hb dX12_begins_270 (by decide +kernel) ?_
      obtain ⟨u32, h33, hE⟩ := bd_some hE
      refine cw_i (As := [.int 0]) (rest := []) (r := u32.1) (wc := (wX g cA t s r c y d k q o m)) ⟨hx, hb, hml, hown, hts⟩ (c_X12_append l D cA g H.size 0 t s r c y d k q o m u32 h33) (cwV 1 hts hX12_begins_X12_append_279 rfl rfl rfl (by decide +kernel) ⟨Nat.le_of_ble_eq_true rfl, Nat.le_of_ble_eq_true rfl⟩) rfl hl.1 rfl (Nat.le_of_ble_eq_true rfl) dX12_begins_271 ⟨Nat.zero_le _, Nat.zero_le _⟩ hK hP hD hS hA (va_recv hK hP (ci := 10) (q0 := 0) rfl rfl) [g 0, g 1, g 2, g 3, g 4, g 5, g 6, g 7, g 8, g 9, g 10, g 11, g 12, g 13, g 14, g 15, g 16, g 17, g 18, g 19] rfl rfl (fun _ _ _ _ h => h) (fun _ _ _ => trivial) (fun H locs hP hD hS => ?_)
      have hP : va_P D vwCl (wX g cA t s r c u32.2 d k q o m) H := hP
      have hD : va_D A (wX g cA t s r c u32.2 d k q o m) := hD
      refine lv_pop hx hb dX12_begins_274 rfl ?_
      refine lv_iconst (v := 0) hx hb dX12_begins_275 (by decide +kernel) ?_
      obtain rfl := Option.some.inj hE
      exact rt_i hx hb hr hP hS rfl hlocks dX12_begins_276
  have w245 : ∀ (y1 : Int32) (z0 : Int32) (t : mT) (s : mS) (y : mY) (d : mD) (k : mK) (H : Heap) (locs : List Loc) (ls : Array Slot), va_P D vwCl (wX g cA t s r c y d k q o m) H → va_D A (wX g cA t s r c y d k q o m) → va_S A S0.heap H locs → lv_has ls 4 [(0, .ref (g 0)), (1, .int y1)] → b_X12_begins_245  y1 z0 t s y d k = some u → W PP l EE (headSpec wsX12_begins ({ frames := 3, cells := 0, slots := 0, locals := 61 })).room S0 MM (#[.ref (g 0), .int x1] : Array Value) below meth CC H locs 0 0 (MQ below (cQi D (wX g cA u.2.1 u.2.2.1 r c u.2.2.2.1 u.2.2.2.2.1 u.2.2.2.2.2 q o m) A u.1) (#[.ref (g 0), .int x1] : Array Value) S0 0 0 A) (F0 MM 245 ls [.int z0, .ref (g 0)]) := by
    intro y1 z0 t s y d k
    intro H locs ls hP hD hS hl hE
    unfold b_X12_begins_245 at hE
    have ⟨c25, hE⟩ := ck_some hE
    refine va_put (D := D) (ci := 10) (v := .int z0) (ty := .boolean) (C := RX12) (T := TX12) (N := 40) hx hb hts inX12 tyX12 tyX12_ok nmX12 hown hK hP hD hS 0 rfl rfl 28 (by decide) k15 (fun _ h9 => h9) rfl (by decide +kernel) (zfit c25).1 (zfit c25).2 (Nat.le_of_ble_eq_true rfl) dX12_begins_245 (fun H locs hP hD hS => ?_)
    have hP : va_P D vwCl (wX g cA t s r c y d z0 q o m) H := hP
    have hD : va_D A (wX g cA t s r c y d z0 q o m) := hD
    refine lv_iload_n hx hb dX12_begins_248 rfl (lv_at hl 1 rfl) ?_
    refine lv_bipush (v := 55) hx hb dX12_begins_249 (by decide +kernel) ?_
    refine lv_icmp_ne (tgt := 263) hx hb dX12_begins_251 (by decide) (fun c26 => ?_) (fun c26 => ?_)
    · have hE := if_f c26 hE
      exact w263  y1 t s y d z0 H locs ls hP hD hS (lv_sub hl [0, 1] rfl) hE
    · have hE := if_t c26 hE
      refine lv_aload_n hx hb dX12_begins_254 rfl (lv_at hl 0 rfl) ?_
      refine lv_aload_n hx hb dX12_begins_255 rfl (lv_at hl 0 rfl) ?_
      obtain ⟨u27, h28, hE⟩ := bd_some hE
      refine cw_i (As := []) (rest := [.ref (g 0)]) (r := u27.1) (wc := (wX g cA t s r c y d z0 q o m)) ⟨hx, hb, hml, hown, hts⟩ (c_X12_pop l D cA g H.size t s r c y d z0 q o m u27 h28) (cwV 0 hts hX12_begins_X12_pop_390 rfl rfl rfl (by decide +kernel) ⟨Nat.le_of_ble_eq_true rfl, Nat.le_of_ble_eq_true rfl⟩) rfl hl.1 rfl (Nat.le_of_ble_eq_true rfl) dX12_begins_256 ⟨Nat.zero_le _, Nat.zero_le _⟩ hK hP hD hS hA (va_recv hK hP (ci := 10) (q0 := 0) rfl rfl) [g 0, g 1, g 2, g 3, g 4, g 5, g 6, g 7, g 8, g 9, g 10, g 11, g 12, g 13, g 14, g 15, g 16, g 17, g 18, g 19] rfl rfl (fun _ _ _ _ h => h) (fun _ _ _ => trivial) (fun H locs hP hD hS => ?_)
      have hP : va_P D vwCl (wX g cA t u27.2 r c y d z0 q o m) H := hP
      have hD : va_D A (wX g cA t u27.2 r c y d z0 q o m) := hD
      obtain ⟨u29, h30, hE⟩ := bd_some hE
      refine cw_i (As := [.int u27.1]) (rest := []) (r := u29.1) (wc := (wX g cA t u27.2 r c y d z0 q o m)) ⟨hx, hb, hml, hown, hts⟩ (c_X12_append l D cA g H.size u27.1 t u27.2 r c y d z0 q o m u29 h30) (cwV 1 hts hX12_begins_X12_append_279 rfl rfl rfl (by decide +kernel) ⟨Nat.le_of_ble_eq_true rfl, Nat.le_of_ble_eq_true rfl⟩) rfl hl.1 rfl (Nat.le_of_ble_eq_true rfl) dX12_begins_259 ⟨Nat.zero_le _, Nat.zero_le _⟩ hK hP hD hS hA (va_recv hK hP (ci := 10) (q0 := 0) rfl rfl) [g 0, g 1, g 2, g 3, g 4, g 5, g 6, g 7, g 8, g 9, g 10, g 11, g 12, g 13, g 14, g 15, g 16, g 17, g 18, g 19] rfl rfl (fun _ _ _ _ h => h) (fun _ _ _ => trivial) (fun H locs hP hD hS => ?_)
      have hP : va_P D vwCl (wX g cA t u27.2 r c u29.2 d z0 q o m) H := hP
      have hD : va_D A (wX g cA t u27.2 r c u29.2 d z0 q o m) := hD
      refine lv_pop hx hb dX12_begins_262 rfl ?_
      exact w263  y1 t u27.2 u29.2 d z0 H locs ls hP hD hS (lv_sub hl [0, 1] rfl) hE
  have w240 : ∀ (y1 : Int32) (t : mT) (s : mS) (y : mY) (d : mD) (k : mK) (H : Heap) (locs : List Loc) (ls : Array Slot), va_P D vwCl (wX g cA t s r c y d k q o m) H → va_D A (wX g cA t s r c y d k q o m) → va_S A S0.heap H locs → lv_has ls 4 [(0, .ref (g 0)), (1, .int y1)] → b_X12_begins_240  y1 t s y d k = some u → W PP l EE (headSpec wsX12_begins ({ frames := 3, cells := 0, slots := 0, locals := 61 })).room S0 MM (#[.ref (g 0), .int x1] : Array Value) below meth CC H locs 0 0 (MQ below (cQi D (wX g cA u.2.1 u.2.2.1 r c u.2.2.2.1 u.2.2.2.2.1 u.2.2.2.2.2 q o m) A u.1) (#[.ref (g 0), .int x1] : Array Value) S0 0 0 A) (F0 MM 240 ls [.ref (g 0)]) := by
    intro y1 t s y d k
    intro H locs ls hP hD hS hl hE
    unfold b_X12_begins_240 at hE
    refine lv_iconst (v := 1) hx hb dX12_begins_240 (by decide +kernel) ?_
    refine lv_goto (tgt := 245) hx hb dX12_begins_241 (by decide) ?_
    exact w245  y1 1 t s y d k H locs ls hP hD hS (lv_sub hl [0, 1] rfl) hE
  have w222 : ∀ (y1 : Int32) (z0 : Int32) (t : mT) (s : mS) (y : mY) (d : mD) (k : mK) (H : Heap) (locs : List Loc) (ls : Array Slot), va_P D vwCl (wX g cA t s r c y d k q o m) H → va_D A (wX g cA t s r c y d k q o m) → va_S A S0.heap H locs → lv_has ls 4 [(0, .ref (g 0)), (1, .int y1)] → b_X12_begins_222  y1 z0 t s y d k = some u → W PP l EE (headSpec wsX12_begins ({ frames := 3, cells := 0, slots := 0, locals := 61 })).room S0 MM (#[.ref (g 0), .int x1] : Array Value) below meth CC H locs 0 0 (MQ below (cQi D (wX g cA u.2.1 u.2.2.1 r c u.2.2.2.1 u.2.2.2.2.1 u.2.2.2.2.2 q o m) A u.1) (#[.ref (g 0), .int x1] : Array Value) S0 0 0 A) (F0 MM 222 ls [.int z0, .ref (g 0)]) := by
    intro y1 z0 t s y d k
    intro H locs ls hP hD hS hl hE
    unfold b_X12_begins_222 at hE
    have ⟨c22, hE⟩ := ck_some hE
    refine va_put (D := D) (ci := 10) (v := .int z0) (ty := .boolean) (C := RX12) (T := TX12) (N := 40) hx hb hts inX12 tyX12 tyX12_ok nmX12 hown hK hP hD hS 0 rfl rfl 26 (by decide) k0 (fun _ h9 => h9) rfl (by decide +kernel) (zfit c22).1 (zfit c22).2 (Nat.le_of_ble_eq_true rfl) dX12_begins_222 (fun H locs hP hD hS => ?_)
    have hP : va_P D vwCl (wX g cA t s r c y ((d.1, z0, d.2.2.1, d.2.2.2.1, d.2.2.2.2.1, d.2.2.2.2.2.1, d.2.2.2.2.2.2.1, d.2.2.2.2.2.2.2.1, d.2.2.2.2.2.2.2.2.1, d.2.2.2.2.2.2.2.2.2)) k q o m) H := hP
    have hD : va_D A (wX g cA t s r c y ((d.1, z0, d.2.2.1, d.2.2.2.1, d.2.2.2.2.1, d.2.2.2.2.2.1, d.2.2.2.2.2.2.1, d.2.2.2.2.2.2.2.1, d.2.2.2.2.2.2.2.2.1, d.2.2.2.2.2.2.2.2.2)) k q o m) := hD
    refine lv_aload_n hx hb dX12_begins_225 rfl (lv_at hl 0 rfl) ?_
    refine lv_aload_n hx hb dX12_begins_226 rfl (lv_at hl 0 rfl) ?_
    refine va_get (D := D) (ci := 10) (v := .int k) (C := RX12) (T := TX12) (N := 40) hx hb hts inX12 hown hK hP 0 rfl rfl 28 (by decide) k15 (fun _ h9 => h9) rfl dX12_begins_227 ?_
    refine lv_if_ne (tgt := 240) hx hb dX12_begins_230 (by decide) (fun c23 => ?_) (fun c23 => ?_)
    · have hE := if_f c23 hE
      exact w240  y1 t s y ((d.1, z0, d.2.2.1, d.2.2.2.1, d.2.2.2.2.1, d.2.2.2.2.2.1, d.2.2.2.2.2.2.1, d.2.2.2.2.2.2.2.1, d.2.2.2.2.2.2.2.2.1, d.2.2.2.2.2.2.2.2.2)) k H locs ls hP hD hS (lv_sub hl [0, 1] rfl) hE
    · have hE := if_t c23 hE
      refine lv_aload_n hx hb dX12_begins_233 rfl (lv_at hl 0 rfl) ?_
      refine va_get (D := D) (ci := 10) (v := .int z0) (C := RX12) (T := TX12) (N := 40) hx hb hts inX12 hown hK hP 0 rfl rfl 26 (by decide) k0 (fun _ h9 => h9) rfl dX12_begins_234 ?_
      refine lv_if_eq (tgt := 244) hx hb dX12_begins_237 (by decide) (fun c24 => ?_) (fun c24 => ?_)
      · have hE := if_t c24 hE
        refine lv_iconst (v := 0) hx hb dX12_begins_244 (by decide +kernel) ?_
        exact w245  y1 0 t s y ((d.1, z0, d.2.2.1, d.2.2.2.1, d.2.2.2.2.1, d.2.2.2.2.2.1, d.2.2.2.2.2.2.1, d.2.2.2.2.2.2.2.1, d.2.2.2.2.2.2.2.2.1, d.2.2.2.2.2.2.2.2.2)) k H locs ls hP hD hS (lv_sub hl [0, 1] rfl) hE
      · have hE := if_f c24 hE
        exact w240  y1 t s y ((d.1, z0, d.2.2.1, d.2.2.2.1, d.2.2.2.2.1, d.2.2.2.2.2.1, d.2.2.2.2.2.2.1, d.2.2.2.2.2.2.2.1, d.2.2.2.2.2.2.2.2.1, d.2.2.2.2.2.2.2.2.2)) k H locs ls hP hD hS (lv_sub hl [0, 1] rfl) hE
  have w153 : ∀ (n : Nat), ∀ (y1 : Int32) (y3 : Int32) (t : mT) (s : mS) (y : mY) (d : mD) (k : mK) (H : Heap) (locs : List Loc) (ls : Array Slot), va_P D vwCl (wX g cA t s r c y d k q o m) H → va_D A (wX g cA t s r c y d k q o m) → va_S A S0.heap H locs → lv_has ls 4 [(0, .ref (g 0)), (1, .int y1), (3, .int y3)] → b_X12_begins_153 n y1 y3 t s y d k = some u → W PP l EE (headSpec wsX12_begins ({ frames := 3, cells := 0, slots := 0, locals := 61 })).room S0 MM (#[.ref (g 0), .int x1] : Array Value) below meth CC H locs 0 0 (MQ below (cQi D (wX g cA u.2.1 u.2.2.1 r c u.2.2.2.1 u.2.2.2.2.1 u.2.2.2.2.2 q o m) A u.1) (#[.ref (g 0), .int x1] : Array Value) S0 0 0 A) (F0 MM 153 ls []) := by
    intro  n
    induction n with
    | zero => intros; rename_i hE; exact absurd hE (by simp [b_X12_begins_153])
    | succ n ih153 =>
      intro y1 y3 t s y d k
      intro H locs ls hP hD hS hl hE
      unfold b_X12_begins_153 at hE
      refine lv_iload_n hx hb dX12_begins_153 rfl (lv_at hl 2 rfl) ?_
      refine lv_aload_n hx hb dX12_begins_154 rfl (lv_at hl 0 rfl) ?_
      refine va_get (D := D) (ci := 10) (v := .int t.2.2.2.1) (C := RX12) (T := TX12) (N := 40) hx hb hts inX12 hown hK hP 0 rfl rfl 33 (by decide) k10 (fun _ h9 => h9) rfl dX12_begins_155 ?_
      refine lv_icmp_ge (tgt := 192) hx hb dX12_begins_158 (by decide) (fun c18 => ?_) (fun c18 => ?_)
      · have hE := if_t c18 hE
        refine lv_aload_n hx hb dX12_begins_192 rfl (lv_at hl 0 rfl) ?_
        refine lv_dup hx hb dX12_begins_193 rfl ?_
        refine va_get (D := D) (ci := 10) (v := .int d.1) (C := RX12) (T := TX12) (N := 40) hx hb hts inX12 hown hK hP 0 rfl rfl 25 (by decide) k2 (fun _ h9 => h9) rfl dX12_begins_194 ?_
        refine lv_iconst (v := 1) hx hb dX12_begins_197 (by decide +kernel) ?_
        refine lv_iadd hx hb dX12_begins_198 ?_
        refine va_put (D := D) (ci := 10) (v := .int (d.1 + 1)) (ty := .int) (C := RX12) (T := TX12) (N := 40) hx hb hts inX12 tyX12 tyX12_ok nmX12 hown hK hP hD hS 0 rfl rfl 25 (by decide) k2 (fun _ h9 => h9) rfl (by decide +kernel) rfl rfl (Nat.le_of_ble_eq_true rfl) dX12_begins_199 (fun H locs hP hD hS => ?_)
        have hP : va_P D vwCl (wX g cA t s r c y ((d.1 + 1, d.2.1, d.2.2.1, d.2.2.2.1, d.2.2.2.2.1, d.2.2.2.2.2.1, d.2.2.2.2.2.2.1, d.2.2.2.2.2.2.2.1, d.2.2.2.2.2.2.2.2.1, d.2.2.2.2.2.2.2.2.2)) k q o m) H := hP
        have hD : va_D A (wX g cA t s r c y ((d.1 + 1, d.2.1, d.2.2.1, d.2.2.2.1, d.2.2.2.2.1, d.2.2.2.2.2.1, d.2.2.2.2.2.2.1, d.2.2.2.2.2.2.2.1, d.2.2.2.2.2.2.2.2.1, d.2.2.2.2.2.2.2.2.2)) k q o m) := hD
        refine lv_aload_n hx hb dX12_begins_202 rfl (lv_at hl 0 rfl) ?_
        refine lv_aload_n hx hb dX12_begins_203 rfl (lv_at hl 0 rfl) ?_
        refine va_get (D := D) (ci := 10) (v := .int y.1) (C := RX12) (T := TX12) (N := 40) hx hb hts inX12 hown hK hP 0 rfl rfl 17 (by decide) k3 (fun _ h9 => h9) rfl dX12_begins_204 ?_
        refine va_put (D := D) (ci := 10) (v := .int y.1) (ty := .int) (C := RX12) (T := TX12) (N := 40) hx hb hts inX12 tyX12 tyX12_ok nmX12 hown hK hP hD hS 0 rfl rfl 27 (by decide) k11 (fun _ h9 => h9) rfl (by decide +kernel) rfl rfl (Nat.le_of_ble_eq_true rfl) dX12_begins_207 (fun H locs hP hD hS => ?_)
        have hP : va_P D vwCl (wX g cA t s r c y ((d.1 + 1, d.2.1, y.1, d.2.2.2.1, d.2.2.2.2.1, d.2.2.2.2.2.1, d.2.2.2.2.2.2.1, d.2.2.2.2.2.2.2.1, d.2.2.2.2.2.2.2.2.1, d.2.2.2.2.2.2.2.2.2)) k q o m) H := hP
        have hD : va_D A (wX g cA t s r c y ((d.1 + 1, d.2.1, y.1, d.2.2.2.1, d.2.2.2.2.1, d.2.2.2.2.2.1, d.2.2.2.2.2.2.1, d.2.2.2.2.2.2.2.1, d.2.2.2.2.2.2.2.2.1, d.2.2.2.2.2.2.2.2.2)) k q o m) := hD
        refine lv_aload_n hx hb dX12_begins_210 rfl (lv_at hl 0 rfl) ?_
        refine lv_iload_n hx hb dX12_begins_211 rfl (lv_at hl 1 rfl) ?_
        refine lv_bipush (v := 53) hx hb dX12_begins_212 (by decide +kernel) ?_
        refine lv_icmp_ne (tgt := 221) hx hb dX12_begins_214 (by decide) (fun c19 => ?_) (fun c19 => ?_)
        · have hE := if_f c19 hE
          refine lv_iconst (v := 0) hx hb dX12_begins_221 (by decide +kernel) ?_
          exact w222  y1 0 t s y ((d.1 + 1, d.2.1, y.1, d.2.2.2.1, d.2.2.2.2.1, d.2.2.2.2.2.1, d.2.2.2.2.2.2.1, d.2.2.2.2.2.2.2.1, d.2.2.2.2.2.2.2.2.1, d.2.2.2.2.2.2.2.2.2)) k H locs ls hP hD hS (lv_sub hl [0, 1] rfl) hE
        · have hE := if_t c19 hE
          refine lv_iconst (v := 1) hx hb dX12_begins_217 (by decide +kernel) ?_
          refine lv_goto (tgt := 222) hx hb dX12_begins_218 (by decide) ?_
          exact w222  y1 1 t s y ((d.1 + 1, d.2.1, y.1, d.2.2.2.1, d.2.2.2.2.1, d.2.2.2.2.2.1, d.2.2.2.2.2.2.1, d.2.2.2.2.2.2.2.1, d.2.2.2.2.2.2.2.2.1, d.2.2.2.2.2.2.2.2.2)) k H locs ls hP hD hS (lv_sub hl [0, 1] rfl) hE
      · have hE := if_f c18 hE
        refine lv_aload_n hx hb dX12_begins_161 rfl (lv_at hl 0 rfl) ?_
        refine va_get (D := D) (ci := 10) (v := .ref (g 16)) (C := RX12) (T := TX12) (N := 40) hx hb hts inX12 hown hK hP 0 rfl rfl 23 (by decide) k12 (fun _ h9 => h9) rfl dX12_begins_162 ?_
        refine lv_bipush (v := 9) hx hb dX12_begins_165 (by decide +kernel) ?_
        refine lv_aload_n hx hb dX12_begins_167 rfl (lv_at hl 0 rfl) ?_
        refine va_get (D := D) (ci := 10) (v := .int d.1) (C := RX12) (T := TX12) (N := 40) hx hb hts inX12 hown hK hP 0 rfl rfl 25 (by decide) k2 (fun _ h9 => h9) rfl dX12_begins_168 ?_
        refine lv_imul hx hb dX12_begins_171 ?_
        refine lv_iload_n hx hb dX12_begins_172 rfl (lv_at hl 2 rfl) ?_
        refine lv_iadd hx hb dX12_begins_173 ?_
        refine lv_aload_n hx hb dX12_begins_174 rfl (lv_at hl 0 rfl) ?_
        refine va_get (D := D) (ci := 10) (v := .ref (g 3)) (C := RX12) (T := TX12) (N := 40) hx hb hts inX12 hown hK hP 0 rfl rfl 3 (by decide) k13 (fun _ h9 => h9) rfl dX12_begins_175 ?_
        refine lv_aload_n hx hb dX12_begins_178 rfl (lv_at hl 0 rfl) ?_
        refine va_get (D := D) (ci := 10) (v := .int t.2.2.1) (C := RX12) (T := TX12) (N := 40) hx hb hts inX12 hown hK hP 0 rfl rfl 32 (by decide) k14 (fun _ h9 => h9) rfl dX12_begins_179 ?_
        refine lv_iload_n hx hb dX12_begins_182 rfl (lv_at hl 2 rfl) ?_
        refine lv_iadd hx hb dX12_begins_183 ?_
        have ⟨c20, hE⟩ := ck_some hE
        refine va_iald hx hb hK hP 3 0 rfl rfl c20 dX12_begins_184 ?_
        have ⟨c21, hE⟩ := ck_some hE
        refine va_iast hx hb hK hP hD hS 16 0 rfl rfl c21 dX12_begins_185 (fun H locs hP hD hS => ?_)
        have hP : va_P D vwCl (wX g cA t s r c y ((d.1, d.2.1, d.2.2.1, d.2.2.2.1, d.2.2.2.2.1, d.2.2.2.2.2.1, d.2.2.2.2.2.2.1, d.2.2.2.2.2.2.2.1, upd d.2.2.2.2.2.2.2.2.1 (((9 * d.1) + y3).toNatClampNeg) (t.2.2.2.2 ((t.2.2.1 + y3).toNatClampNeg)), d.2.2.2.2.2.2.2.2.2)) k q o m) H := hP
        have hD : va_D A (wX g cA t s r c y ((d.1, d.2.1, d.2.2.1, d.2.2.2.1, d.2.2.2.2.1, d.2.2.2.2.2.1, d.2.2.2.2.2.2.1, d.2.2.2.2.2.2.2.1, upd d.2.2.2.2.2.2.2.2.1 (((9 * d.1) + y3).toNatClampNeg) (t.2.2.2.2 ((t.2.2.1 + y3).toNatClampNeg)), d.2.2.2.2.2.2.2.2.2)) k q o m) := hD
        refine lv_iinc (v := y3 + 1) (lv' := [(3, .int (y3 + 1)), (0, .ref (g 0)), (1, .int y1)]) hx hb dX12_begins_186 hl (k := 2) rfl rfl (by decide) rfl (fun ls hl => ?_)
        refine lv_goto (tgt := 153) hx hb dX12_begins_189 (by decide) ?_
        exact ih153 y1 (y3 + 1) t s y ((d.1, d.2.1, d.2.2.1, d.2.2.2.1, d.2.2.2.2.1, d.2.2.2.2.2.1, d.2.2.2.2.2.2.1, d.2.2.2.2.2.2.2.1, upd d.2.2.2.2.2.2.2.2.1 (((9 * d.1) + y3).toNatClampNeg) (t.2.2.2.2 ((t.2.2.1 + y3).toNatClampNeg)), d.2.2.2.2.2.2.2.2.2)) k H locs ls hP hD hS (lv_sub hl [1, 2, 0] rfl) hE
  have w137 : ∀ (y1 : Int32) (z0 : Int32) (z1 : Int32) (t : mT) (s : mS) (y : mY) (d : mD) (k : mK) (H : Heap) (locs : List Loc) (ls : Array Slot), va_P D vwCl (wX g cA t s r c y d k q o m) H → va_D A (wX g cA t s r c y d k q o m) → va_S A S0.heap H locs → lv_has ls 4 [(0, .ref (g 0)), (1, .int y1)] → b_X12_begins_137  y1 z0 z1 t s y d k = some u → W PP l EE (headSpec wsX12_begins ({ frames := 3, cells := 0, slots := 0, locals := 61 })).room S0 MM (#[.ref (g 0), .int x1] : Array Value) below meth CC H locs 0 0 (MQ below (cQi D (wX g cA u.2.1 u.2.2.1 r c u.2.2.2.1 u.2.2.2.2.1 u.2.2.2.2.2 q o m) A u.1) (#[.ref (g 0), .int x1] : Array Value) S0 0 0 A) (F0 MM 137 ls [.int z0, .int z1, .ref (g 15)]) := by
    intro y1 z0 z1 t s y d k
    intro H locs ls hP hD hS hl hE
    unfold b_X12_begins_137 at hE
    have ⟨c16, hE⟩ := ck_some hE
    refine va_zast hx hb hK hP hD hS 15 1 rfl rfl c16 dX12_begins_137 (fun H locs hP hD hS => ?_)
    have hP : va_P D vwCl (wX g cA t s r c y ((d.1, d.2.1, d.2.2.1, d.2.2.2.1, d.2.2.2.2.1, d.2.2.2.2.2.1, d.2.2.2.2.2.2.1, upd d.2.2.2.2.2.2.2.1 z1.toNatClampNeg (vp_nar .boolean z0), d.2.2.2.2.2.2.2.2.1, d.2.2.2.2.2.2.2.2.2)) k q o m) H := hP
    have hD : va_D A (wX g cA t s r c y ((d.1, d.2.1, d.2.2.1, d.2.2.2.1, d.2.2.2.2.1, d.2.2.2.2.2.1, d.2.2.2.2.2.2.1, upd d.2.2.2.2.2.2.2.1 z1.toNatClampNeg (vp_nar .boolean z0), d.2.2.2.2.2.2.2.2.1, d.2.2.2.2.2.2.2.2.2)) k q o m) := hD
    refine lv_aload_n hx hb dX12_begins_138 rfl (lv_at hl 0 rfl) ?_
    refine va_get (D := D) (ci := 10) (v := .ref (g 17)) (C := RX12) (T := TX12) (N := 40) hx hb hts inX12 hown hK hP 0 rfl rfl 24 (by decide) k9 (fun _ h9 => h9) rfl dX12_begins_139 ?_
    refine lv_aload_n hx hb dX12_begins_142 rfl (lv_at hl 0 rfl) ?_
    refine va_get (D := D) (ci := 10) (v := .int d.1) (C := RX12) (T := TX12) (N := 40) hx hb hts inX12 hown hK hP 0 rfl rfl 25 (by decide) k2 (fun _ h9 => h9) rfl dX12_begins_143 ?_
    refine lv_aload_n hx hb dX12_begins_146 rfl (lv_at hl 0 rfl) ?_
    refine va_get (D := D) (ci := 10) (v := .int t.2.2.2.1) (C := RX12) (T := TX12) (N := 40) hx hb hts inX12 hown hK hP 0 rfl rfl 33 (by decide) k10 (fun _ h9 => h9) rfl dX12_begins_147 ?_
    have ⟨c17, hE⟩ := ck_some hE
    refine va_iast hx hb hK hP hD hS 17 0 rfl rfl c17 dX12_begins_150 (fun H locs hP hD hS => ?_)
    have hP : va_P D vwCl (wX g cA t s r c y ((d.1, d.2.1, d.2.2.1, d.2.2.2.1, d.2.2.2.2.1, d.2.2.2.2.2.1, d.2.2.2.2.2.2.1, upd d.2.2.2.2.2.2.2.1 z1.toNatClampNeg (vp_nar .boolean z0), d.2.2.2.2.2.2.2.2.1, upd d.2.2.2.2.2.2.2.2.2 d.1.toNatClampNeg t.2.2.2.1)) k q o m) H := hP
    have hD : va_D A (wX g cA t s r c y ((d.1, d.2.1, d.2.2.1, d.2.2.2.1, d.2.2.2.2.1, d.2.2.2.2.2.1, d.2.2.2.2.2.2.1, upd d.2.2.2.2.2.2.2.1 z1.toNatClampNeg (vp_nar .boolean z0), d.2.2.2.2.2.2.2.2.1, upd d.2.2.2.2.2.2.2.2.2 d.1.toNatClampNeg t.2.2.2.1)) k q o m) := hD
    refine lv_iconst (v := 0) hx hb dX12_begins_151 (by decide +kernel) ?_
    refine lv_istore_n (lv' := [(3, .int 0), (0, .ref (g 0)), (1, .int y1)]) hx hb dX12_begins_152 rfl hl (by decide) rfl (fun ls hl => ?_)
    exact w153 FU y1 0 t s y ((d.1, d.2.1, d.2.2.1, d.2.2.2.1, d.2.2.2.2.1, d.2.2.2.2.2.1, d.2.2.2.2.2.2.1, upd d.2.2.2.2.2.2.2.1 z1.toNatClampNeg (vp_nar .boolean z0), d.2.2.2.2.2.2.2.2.1, upd d.2.2.2.2.2.2.2.2.2 d.1.toNatClampNeg t.2.2.2.1)) k H locs ls hP hD hS (lv_sub hl [1, 2, 0] rfl) hE
  have w97 : ∀ (y1 : Int32) (z0 : Int32) (z1 : Int32) (t : mT) (s : mS) (y : mY) (d : mD) (k : mK) (H : Heap) (locs : List Loc) (ls : Array Slot), va_P D vwCl (wX g cA t s r c y d k q o m) H → va_D A (wX g cA t s r c y d k q o m) → va_S A S0.heap H locs → lv_has ls 4 [(0, .ref (g 0)), (1, .int y1)] → b_X12_begins_97  y1 z0 z1 t s y d k = some u → W PP l EE (headSpec wsX12_begins ({ frames := 3, cells := 0, slots := 0, locals := 61 })).room S0 MM (#[.ref (g 0), .int x1] : Array Value) below meth CC H locs 0 0 (MQ below (cQi D (wX g cA u.2.1 u.2.2.1 r c u.2.2.2.1 u.2.2.2.2.1 u.2.2.2.2.2 q o m) A u.1) (#[.ref (g 0), .int x1] : Array Value) S0 0 0 A) (F0 MM 97 ls [.int z0, .int z1, .ref (g 12)]) := by
    intro y1 z0 z1 t s y d k
    intro H locs ls hP hD hS hl hE
    unfold b_X12_begins_97 at hE
    have ⟨c12, hE⟩ := ck_some hE
    refine va_iast hx hb hK hP hD hS 12 0 rfl rfl c12 dX12_begins_97 (fun H locs hP hD hS => ?_)
    have hP : va_P D vwCl (wX g cA t s r c y ((d.1, d.2.1, d.2.2.1, d.2.2.2.1, upd d.2.2.2.2.1 z1.toNatClampNeg z0, d.2.2.2.2.2.1, d.2.2.2.2.2.2.1, d.2.2.2.2.2.2.2.1, d.2.2.2.2.2.2.2.2.1, d.2.2.2.2.2.2.2.2.2)) k q o m) H := hP
    have hD : va_D A (wX g cA t s r c y ((d.1, d.2.1, d.2.2.1, d.2.2.2.1, upd d.2.2.2.2.1 z1.toNatClampNeg z0, d.2.2.2.2.2.1, d.2.2.2.2.2.2.1, d.2.2.2.2.2.2.2.1, d.2.2.2.2.2.2.2.2.1, d.2.2.2.2.2.2.2.2.2)) k q o m) := hD
    refine lv_aload_n hx hb dX12_begins_98 rfl (lv_at hl 0 rfl) ?_
    refine va_get (D := D) (ci := 10) (v := .ref (g 13)) (C := RX12) (T := TX12) (N := 40) hx hb hts inX12 hown hK hP 0 rfl rfl 20 (by decide) k6 (fun _ h9 => h9) rfl dX12_begins_99 ?_
    refine lv_aload_n hx hb dX12_begins_102 rfl (lv_at hl 0 rfl) ?_
    refine va_get (D := D) (ci := 10) (v := .int d.1) (C := RX12) (T := TX12) (N := 40) hx hb hts inX12 hown hK hP 0 rfl rfl 25 (by decide) k2 (fun _ h9 => h9) rfl dX12_begins_103 ?_
    refine lv_iconst (v := (-1)) hx hb dX12_begins_106 (by decide +kernel) ?_
    have ⟨c13, hE⟩ := ck_some hE
    refine va_iast hx hb hK hP hD hS 13 0 rfl rfl c13 dX12_begins_107 (fun H locs hP hD hS => ?_)
    have hP : va_P D vwCl (wX g cA t s r c y ((d.1, d.2.1, d.2.2.1, d.2.2.2.1, upd d.2.2.2.2.1 z1.toNatClampNeg z0, upd d.2.2.2.2.2.1 d.1.toNatClampNeg ((-1)), d.2.2.2.2.2.2.1, d.2.2.2.2.2.2.2.1, d.2.2.2.2.2.2.2.2.1, d.2.2.2.2.2.2.2.2.2)) k q o m) H := hP
    have hD : va_D A (wX g cA t s r c y ((d.1, d.2.1, d.2.2.1, d.2.2.2.1, upd d.2.2.2.2.1 z1.toNatClampNeg z0, upd d.2.2.2.2.2.1 d.1.toNatClampNeg ((-1)), d.2.2.2.2.2.2.1, d.2.2.2.2.2.2.2.1, d.2.2.2.2.2.2.2.2.1, d.2.2.2.2.2.2.2.2.2)) k q o m) := hD
    refine lv_aload_n hx hb dX12_begins_108 rfl (lv_at hl 0 rfl) ?_
    refine va_get (D := D) (ci := 10) (v := .ref (g 14)) (C := RX12) (T := TX12) (N := 40) hx hb hts inX12 hown hK hP 0 rfl rfl 21 (by decide) k7 (fun _ h9 => h9) rfl dX12_begins_109 ?_
    refine lv_aload_n hx hb dX12_begins_112 rfl (lv_at hl 0 rfl) ?_
    refine va_get (D := D) (ci := 10) (v := .int d.1) (C := RX12) (T := TX12) (N := 40) hx hb hts inX12 hown hK hP 0 rfl rfl 25 (by decide) k2 (fun _ h9 => h9) rfl dX12_begins_113 ?_
    refine lv_iconst (v := 0) hx hb dX12_begins_116 (by decide +kernel) ?_
    have ⟨c14, hE⟩ := ck_some hE
    refine va_zast hx hb hK hP hD hS 14 1 rfl rfl c14 dX12_begins_117 (fun H locs hP hD hS => ?_)
    have hP : va_P D vwCl (wX g cA t s r c y ((d.1, d.2.1, d.2.2.1, d.2.2.2.1, upd d.2.2.2.2.1 z1.toNatClampNeg z0, upd d.2.2.2.2.2.1 d.1.toNatClampNeg ((-1)), upd d.2.2.2.2.2.2.1 d.1.toNatClampNeg (vp_nar .boolean 0), d.2.2.2.2.2.2.2.1, d.2.2.2.2.2.2.2.2.1, d.2.2.2.2.2.2.2.2.2)) k q o m) H := hP
    have hD : va_D A (wX g cA t s r c y ((d.1, d.2.1, d.2.2.1, d.2.2.2.1, upd d.2.2.2.2.1 z1.toNatClampNeg z0, upd d.2.2.2.2.2.1 d.1.toNatClampNeg ((-1)), upd d.2.2.2.2.2.2.1 d.1.toNatClampNeg (vp_nar .boolean 0), d.2.2.2.2.2.2.2.1, d.2.2.2.2.2.2.2.2.1, d.2.2.2.2.2.2.2.2.2)) k q o m) := hD
    refine lv_aload_n hx hb dX12_begins_118 rfl (lv_at hl 0 rfl) ?_
    refine va_get (D := D) (ci := 10) (v := .ref (g 15)) (C := RX12) (T := TX12) (N := 40) hx hb hts inX12 hown hK hP 0 rfl rfl 22 (by decide) k8 (fun _ h9 => h9) rfl dX12_begins_119 ?_
    refine lv_aload_n hx hb dX12_begins_122 rfl (lv_at hl 0 rfl) ?_
    refine va_get (D := D) (ci := 10) (v := .int d.1) (C := RX12) (T := TX12) (N := 40) hx hb hts inX12 hown hK hP 0 rfl rfl 25 (by decide) k2 (fun _ h9 => h9) rfl dX12_begins_123 ?_
    refine lv_iload_n hx hb dX12_begins_126 rfl (lv_at hl 1 rfl) ?_
    refine lv_bipush (v := 53) hx hb dX12_begins_127 (by decide +kernel) ?_
    refine lv_icmp_eq (tgt := 136) hx hb dX12_begins_129 (by decide) (fun c15 => ?_) (fun c15 => ?_)
    · have hE := if_t c15 hE
      refine lv_iconst (v := 0) hx hb dX12_begins_136 (by decide +kernel) ?_
      exact w137  y1 0 d.1 t s y ((d.1, d.2.1, d.2.2.1, d.2.2.2.1, upd d.2.2.2.2.1 z1.toNatClampNeg z0, upd d.2.2.2.2.2.1 d.1.toNatClampNeg ((-1)), upd d.2.2.2.2.2.2.1 d.1.toNatClampNeg (vp_nar .boolean 0), d.2.2.2.2.2.2.2.1, d.2.2.2.2.2.2.2.2.1, d.2.2.2.2.2.2.2.2.2)) k H locs ls hP hD hS (lv_sub hl [0, 1] rfl) hE
    · have hE := if_f c15 hE
      refine lv_iconst (v := 1) hx hb dX12_begins_132 (by decide +kernel) ?_
      refine lv_goto (tgt := 137) hx hb dX12_begins_133 (by decide) ?_
      exact w137  y1 1 d.1 t s y ((d.1, d.2.1, d.2.2.1, d.2.2.2.1, upd d.2.2.2.2.1 z1.toNatClampNeg z0, upd d.2.2.2.2.2.1 d.1.toNatClampNeg ((-1)), upd d.2.2.2.2.2.2.1 d.1.toNatClampNeg (vp_nar .boolean 0), d.2.2.2.2.2.2.2.1, d.2.2.2.2.2.2.2.2.1, d.2.2.2.2.2.2.2.2.2)) k H locs ls hP hD hS (lv_sub hl [0, 1] rfl) hE
  have w55 : ∀ (y1 : Int32) (t : mT) (s : mS) (y : mY) (d : mD) (k : mK) (H : Heap) (locs : List Loc) (ls : Array Slot), va_P D vwCl (wX g cA t s r c y d k q o m) H → va_D A (wX g cA t s r c y d k q o m) → va_S A S0.heap H locs → lv_has ls 4 [(0, .ref (g 0)), (1, .int y1)] → b_X12_begins_55  y1 t s y d k = some u → W PP l EE (headSpec wsX12_begins ({ frames := 3, cells := 0, slots := 0, locals := 61 })).room S0 MM (#[.ref (g 0), .int x1] : Array Value) below meth CC H locs 0 0 (MQ below (cQi D (wX g cA u.2.1 u.2.2.1 r c u.2.2.2.1 u.2.2.2.2.1 u.2.2.2.2.2 q o m) A u.1) (#[.ref (g 0), .int x1] : Array Value) S0 0 0 A) (F0 MM 55 ls []) := by
    intro y1 t s y d k
    intro H locs ls hP hD hS hl hE
    unfold b_X12_begins_55 at hE
    refine lv_aload_n hx hb dX12_begins_55 rfl (lv_at hl 0 rfl) ?_
    refine va_get (D := D) (ci := 10) (v := .ref (g 11)) (C := RX12) (T := TX12) (N := 40) hx hb hts inX12 hown hK hP 0 rfl rfl 18 (by decide) k4 (fun _ h9 => h9) rfl dX12_begins_56 ?_
    refine lv_aload_n hx hb dX12_begins_59 rfl (lv_at hl 0 rfl) ?_
    refine va_get (D := D) (ci := 10) (v := .int d.1) (C := RX12) (T := TX12) (N := 40) hx hb hts inX12 hown hK hP 0 rfl rfl 25 (by decide) k2 (fun _ h9 => h9) rfl dX12_begins_60 ?_
    refine lv_aload_n hx hb dX12_begins_63 rfl (lv_at hl 0 rfl) ?_
    refine va_get (D := D) (ci := 10) (v := .int y.1) (C := RX12) (T := TX12) (N := 40) hx hb hts inX12 hown hK hP 0 rfl rfl 17 (by decide) k3 (fun _ h9 => h9) rfl dX12_begins_64 ?_
    have ⟨c9, hE⟩ := ck_some hE
    refine va_iast hx hb hK hP hD hS 11 0 rfl rfl c9 dX12_begins_67 (fun H locs hP hD hS => ?_)
    have hP : va_P D vwCl (wX g cA t s r c y ((d.1, d.2.1, d.2.2.1, upd d.2.2.2.1 d.1.toNatClampNeg y.1, d.2.2.2.2.1, d.2.2.2.2.2.1, d.2.2.2.2.2.2.1, d.2.2.2.2.2.2.2.1, d.2.2.2.2.2.2.2.2.1, d.2.2.2.2.2.2.2.2.2)) k q o m) H := hP
    have hD : va_D A (wX g cA t s r c y ((d.1, d.2.1, d.2.2.1, upd d.2.2.2.1 d.1.toNatClampNeg y.1, d.2.2.2.2.1, d.2.2.2.2.2.1, d.2.2.2.2.2.2.1, d.2.2.2.2.2.2.2.1, d.2.2.2.2.2.2.2.2.1, d.2.2.2.2.2.2.2.2.2)) k q o m) := hD
    refine lv_aload_n hx hb dX12_begins_68 rfl (lv_at hl 0 rfl) ?_
    refine va_get (D := D) (ci := 10) (v := .ref (g 12)) (C := RX12) (T := TX12) (N := 40) hx hb hts inX12 hown hK hP 0 rfl rfl 19 (by decide) k5 (fun _ h9 => h9) rfl dX12_begins_69 ?_
    refine lv_aload_n hx hb dX12_begins_72 rfl (lv_at hl 0 rfl) ?_
    refine va_get (D := D) (ci := 10) (v := .int d.1) (C := RX12) (T := TX12) (N := 40) hx hb hts inX12 hown hK hP 0 rfl rfl 25 (by decide) k2 (fun _ h9 => h9) rfl dX12_begins_73 ?_
    refine lv_iload_n hx hb dX12_begins_76 rfl (lv_at hl 1 rfl) ?_
    refine lv_bipush (v := 53) hx hb dX12_begins_77 (by decide +kernel) ?_
    refine lv_icmp_ne (tgt := 86) hx hb dX12_begins_79 (by decide) (fun c10 => ?_) (fun c10 => ?_)
    · have hE := if_f c10 hE
      refine lv_iload_n hx hb dX12_begins_86 rfl (lv_at hl 1 rfl) ?_
      refine lv_bipush (v := 55) hx hb dX12_begins_87 (by decide +kernel) ?_
      refine lv_icmp_ne (tgt := 96) hx hb dX12_begins_89 (by decide) (fun c11 => ?_) (fun c11 => ?_)
      · have hE := if_f c11 hE
        refine lv_iconst (v := 2) hx hb dX12_begins_96 (by decide +kernel) ?_
        exact w97  y1 2 d.1 t s y ((d.1, d.2.1, d.2.2.1, upd d.2.2.2.1 d.1.toNatClampNeg y.1, d.2.2.2.2.1, d.2.2.2.2.2.1, d.2.2.2.2.2.2.1, d.2.2.2.2.2.2.2.1, d.2.2.2.2.2.2.2.2.1, d.2.2.2.2.2.2.2.2.2)) k H locs ls hP hD hS (lv_sub hl [0, 1] rfl) hE
      · have hE := if_t c11 hE
        refine lv_iconst (v := 3) hx hb dX12_begins_92 (by decide +kernel) ?_
        refine lv_goto (tgt := 97) hx hb dX12_begins_93 (by decide) ?_
        exact w97  y1 3 d.1 t s y ((d.1, d.2.1, d.2.2.1, upd d.2.2.2.1 d.1.toNatClampNeg y.1, d.2.2.2.2.1, d.2.2.2.2.2.1, d.2.2.2.2.2.2.1, d.2.2.2.2.2.2.2.1, d.2.2.2.2.2.2.2.2.1, d.2.2.2.2.2.2.2.2.2)) k H locs ls hP hD hS (lv_sub hl [0, 1] rfl) hE
    · have hE := if_t c10 hE
      refine lv_iconst (v := 1) hx hb dX12_begins_82 (by decide +kernel) ?_
      refine lv_goto (tgt := 97) hx hb dX12_begins_83 (by decide) ?_
      exact w97  y1 1 d.1 t s y ((d.1, d.2.1, d.2.2.1, upd d.2.2.2.1 d.1.toNatClampNeg y.1, d.2.2.2.2.1, d.2.2.2.2.2.1, d.2.2.2.2.2.2.1, d.2.2.2.2.2.2.2.1, d.2.2.2.2.2.2.2.2.1, d.2.2.2.2.2.2.2.2.2)) k H locs ls hP hD hS (lv_sub hl [0, 1] rfl) hE
  have w42 : ∀ (y1 : Int32) (t : mT) (s : mS) (y : mY) (d : mD) (k : mK) (H : Heap) (locs : List Loc) (ls : Array Slot), va_P D vwCl (wX g cA t s r c y d k q o m) H → va_D A (wX g cA t s r c y d k q o m) → va_S A S0.heap H locs → lv_has ls 4 [(0, .ref (g 0)), (1, .int y1)] → b_X12_begins_42  y1 t s y d k = some u → W PP l EE (headSpec wsX12_begins ({ frames := 3, cells := 0, slots := 0, locals := 61 })).room S0 MM (#[.ref (g 0), .int x1] : Array Value) below meth CC H locs 0 0 (MQ below (cQi D (wX g cA u.2.1 u.2.2.1 r c u.2.2.2.1 u.2.2.2.2.1 u.2.2.2.2.2 q o m) A u.1) (#[.ref (g 0), .int x1] : Array Value) S0 0 0 A) (F0 MM 42 ls []) := by
    intro y1 t s y d k
    intro H locs ls hP hD hS hl hE
    unfold b_X12_begins_42 at hE
    refine lv_aload_n hx hb dX12_begins_42 rfl (lv_at hl 0 rfl) ?_
    refine va_get (D := D) (ci := 10) (v := .int y.1) (C := RX12) (T := TX12) (N := 40) hx hb hts inX12 hown hK hP 0 rfl rfl 17 (by decide) k3 (fun _ h9 => h9) rfl dX12_begins_43 ?_
    refine lv_sipush (v := 400) hx hb dX12_begins_46 (by decide +kernel) ?_
    refine lv_icmp_ne (tgt := 55) hx hb dX12_begins_49 (by decide) (fun c8 => ?_) (fun c8 => ?_)
    · have hE := if_f c8 hE
      exact w55  y1 t s y d k H locs ls hP hD hS (lv_sub hl [0, 1] rfl) hE
    · have hE := if_t c8 hE
      refine lv_bipush (v := (-8)) hx hb dX12_begins_52 (by decide +kernel) ?_
      obtain rfl := Option.some.inj hE
      exact rt_i hx hb hr hP hS rfl hlocks dX12_begins_54
  unfold f_X12_begins at hE
  suffices main : ∀ (H : Heap) (locs : List Loc) (ls : Array Slot), va_P D vwCl (wX g cA t s r c y d k q o m) H → va_D A (wX g cA t s r c y d k q o m) → va_S A S0.heap H locs → lv_has ls 4 [(0, .ref (g 0)), (1, .int x1)] → W PP l EE (headSpec wsX12_begins ({ frames := 3, cells := 0, slots := 0, locals := 61 })).room S0 MM (#[.ref (g 0), .int x1] : Array Value) below meth CC H locs 0 0 (MQ below (cQi D (wX g cA u.2.1 u.2.2.1 r c u.2.2.2.1 u.2.2.2.2.1 u.2.2.2.2.2 q o m) A u.1) (#[.ref (g 0), .int x1] : Array Value) S0 0 0 A) (F0 MM 0 ls []) from main _ _ _ hP hD hS hl
  intro H locs ls hP hD hS hl
  refine lv_aload_n hx hb dX12_begins_0 rfl (lv_at hl 0 rfl) ?_
  refine va_get (D := D) (ci := 10) (v := .int d.2.1) (C := RX12) (T := TX12) (N := 40) hx hb hts inX12 hown hK hP 0 rfl rfl 26 (by decide) k0 (fun _ h9 => h9) rfl dX12_begins_1 ?_
  refine lv_if_eq (tgt := 10) hx hb dX12_begins_4 (by decide) (fun c1 => ?_) (fun c1 => ?_)
  · have hE := if_t c1 hE
    refine lv_aload_n hx hb dX12_begins_10 rfl (lv_at hl 0 rfl) ?_
    obtain ⟨u2, h3, hE⟩ := bd_some hE
    refine cw_i (As := []) (rest := []) (r := u2.1) (wc := (wX g cA t s r c y d k q o m)) ⟨hx, hb, hml, hown, hts⟩ (c_X12_parse l D cA g H.size t s r c y d k q o m u2 h3) (cwV 0 hts hX12_begins_X12_parse_419 rfl rfl rfl (by decide +kernel) ⟨Nat.le_of_ble_eq_true rfl, Nat.le_of_ble_eq_true rfl⟩) rfl hl.1 rfl (Nat.le_of_ble_eq_true rfl) dX12_begins_11 ⟨Nat.zero_le _, Nat.zero_le _⟩ hK hP hD hS hA (va_recv hK hP (ci := 10) (q0 := 0) rfl rfl) [g 0, g 1, g 2, g 3, g 4, g 5, g 6, g 7, g 8, g 9, g 10, g 11, g 12, g 13, g 14, g 15, g 16, g 17, g 18, g 19] rfl rfl (fun _ _ _ _ h => h) (fun _ _ _ => trivial) (fun H locs hP hD hS => ?_)
    have hP : va_P D vwCl (wX g cA u2.2 s r c y d k q o m) H := hP
    have hD : va_D A (wX g cA u2.2 s r c y d k q o m) := hD
    refine lv_istore_n (lv' := [(2, .int u2.1), (0, .ref (g 0)), (1, .int x1)]) hx hb dX12_begins_14 rfl hl (by decide) rfl (fun ls hl => ?_)
    refine lv_iload_n hx hb dX12_begins_15 rfl (lv_at hl 0 rfl) ?_
    refine lv_if_eq (tgt := 21) hx hb dX12_begins_16 (by decide) (fun c4 => ?_) (fun c4 => ?_)
    · have hE := if_t c4 hE
      refine lv_aload_n hx hb dX12_begins_21 rfl (lv_at hl 1 rfl) ?_
      refine va_get (D := D) (ci := 10) (v := .int d.1) (C := RX12) (T := TX12) (N := 40) hx hb hts inX12 hown hK hP 0 rfl rfl 25 (by decide) k2 (fun _ h9 => h9) rfl dX12_begins_22 ?_
      refine lv_bipush (v := 40) hx hb dX12_begins_25 (by decide +kernel) ?_
      refine lv_icmp_eq (tgt := 52) hx hb dX12_begins_27 (by decide) (fun c5 => ?_) (fun c5 => ?_)
      · have hE := if_t c5 hE
        refine lv_bipush (v := (-8)) hx hb dX12_begins_52 (by decide +kernel) ?_
        obtain rfl := Option.some.inj hE
        exact rt_i hx hb hr hP hS rfl hlocks dX12_begins_54
      · have hE := if_f c5 hE
        refine lv_iload_n hx hb dX12_begins_30 rfl (lv_at hl 2 rfl) ?_
        refine lv_bipush (v := 55) hx hb dX12_begins_31 (by decide +kernel) ?_
        refine lv_icmp_eq (tgt := 42) hx hb dX12_begins_33 (by decide) (fun c6 => ?_) (fun c6 => ?_)
        · have hE := if_t c6 hE
          exact w42  x1 u2.2 s y d k H locs ls hP hD hS (lv_sub hl [1, 2] rfl) hE
        · have hE := if_f c6 hE
          refine lv_iload_n hx hb dX12_begins_36 rfl (lv_at hl 2 rfl) ?_
          refine lv_bipush (v := 56) hx hb dX12_begins_37 (by decide +kernel) ?_
          refine lv_icmp_ne (tgt := 55) hx hb dX12_begins_39 (by decide) (fun c7 => ?_) (fun c7 => ?_)
          · have hE := if_f c7 hE
            exact w55  x1 u2.2 s y d k H locs ls hP hD hS (lv_sub hl [1, 2] rfl) hE
          · have hE := if_t c7 hE
            exact w42  x1 u2.2 s y d k H locs ls hP hD hS (lv_sub hl [1, 2] rfl) hE
    · have hE := if_f c4 hE
      refine lv_iload_n hx hb dX12_begins_19 rfl (lv_at hl 0 rfl) ?_
      obtain rfl := Option.some.inj hE
      exact rt_i hx hb hr hP hS rfl hlocks dX12_begins_20
  · have hE := if_f c1 hE
    refine lv_bipush (v := (-29)) hx hb dX12_begins_7 (by decide +kernel) ?_
    obtain rfl := Option.some.inj hE
    exact rt_i hx hb hr hP hS rfl hlocks dX12_begins_9
set_option maxRecDepth 20000 in
theorem hX12_makes_X12_append_279 : GoodIn wsX12_makes (wsV RX12 279 RX12 yX12_append wsX12_append) := goodIn_r _ [8, 9, 10, 11, 12, 13, 2, 47, 48, 49, 50, 51, 52, 53, 54, 55, 56, 57, 58, 59, 60, 61, 62, 63, 64, 65, 66, 67, 68, 69, 70, 71, 72, 73, 74, 75, 76, 77, 78, 79, 80, 81, 82, 83, 84, 85, 86] rfl (by decide +kernel)
set_option maxRecDepth 20000 in
theorem hX12_makes_X12_begins_416 : GoodIn wsX12_makes (wsV RX12 416 RX12 yX12_begins wsX12_begins) := goodIn_r _ [14, 15, 16, 11, 17, 5, 4, 2, 18, 19, 20, 7, 3, 21, 22, 23, 24, 25, 26, 6, 27, 28, 29, 11, 30, 31, 32, 33, 34, 35, 36, 37, 38, 39, 40, 41, 42, 43, 44, 45, 46, 8, 9, 10, 12, 13, 47, 48, 49, 50, 51, 52, 53, 54, 55, 56, 57, 58, 59, 60, 61, 62, 63, 64, 65, 66, 67, 68, 69, 70, 71, 72, 73, 74, 75, 76, 77, 78, 79, 80, 81, 82, 83, 84, 85, 86] rfl (by decide +kernel)
set_option maxHeartbeats 4000000 in
set_option maxRecDepth 100000 in
theorem c_X12_makes (l : Launch) (D : va_G) (cA : Nat → ClassId) (g : Nat → Nat) (sz : Nat) (x1 : Int32) (t : mT) (s : mS) (r : mR) (c : mC) (y : mY) (d : mD) (k : mK) (q : mP) (o : mO) (m : mM) (u : Int32 × mT × mS × mY × mD × mK) (hE : f_X12_makes x1 t s y d k q = some u) : Met l yX12_makes wsX12_makes ({ frames := 4, cells := 0, slots := 0, locals := 84 }) (va_Pc [.ref (g 0), .int x1] (PRE D cA (wX g cA t s r c y d k q o m) sz (fun _ => True))) (cQi D (wX g cA u.2.1 u.2.2.1 r c u.2.2.2.1 u.2.2.2.2.1 u.2.2.2.2.2 q o m) (va_A (wX g cA t s r c y d k q o m) sz) u.1) 0 0 (va_A (wX g cA t s r c y d k q o m) sz) := by
  refine Met.ofW (cc := cX12_makes) (maxL := 2) (ret := (some .int)) (by decide) rfl ?_
  intro PP EE S0 MM args below meth CC S1 B hml hv
  obtain ⟨rfl, hsz, hP, hK, hD0, hX⟩ := hv
  have hx := B.exec
  have hb := B.bytes
  have hr := B.returns
  have hts := atoms_spec (ws := wsX12_makes) B.pre
  have hown : S0.vm.findClass RX12 = some MM.cls := findClass_of_methodNamed B.named
  have hlocks := B.notSynchronized
  subst hsz
  have hD := hD0.self (sz := S0.heap.size)
  generalize hAe : va_A (wX g cA t s r c y d k q o m) S0.heap.size = A at hD ⊢
  have hA : ∀ q : Nat, S0.heap.size ≤ q → A q := fun q h => by rw [← hAe]; exact Or.inr h
  have hS : va_S A S0.heap S0.heap [] := va_S.rf
  have k0 := hts (.fieldLink RX12 338 "WordForgeModel" "opens" "I") (List.mem_of_getElem? (i := 1) rfl)
  have inX12 : ∀ w ∈ wsX120, w ∈ wsX12_makes := fun _ h => List.mem_cons_of_mem _ (List.mem_append_right _ h)
  have k2 := hts (.fieldLink RX12 276 "WordForgeModel" "here" "I") (List.mem_of_getElem? (i := 2) rfl)
  have k3 := hts (.fieldLink RX12 200 "WordForgeModel" "finished" "[Z") (List.mem_of_getElem? (i := 3) rfl)
  have k4 := hts (.fieldLink RX12 239 "WordForgeModel" "made" "I") (List.mem_of_getElem? (i := 4) rfl)
  have k5 := hts (.fieldLink RX12 341 "WordForgeModel" "making" "Z") (List.mem_of_getElem? (i := 5) rfl)
  have k6 := hts (.fieldLink RX12 270 "WordForgeModel" "compiling" "Z") (List.mem_of_getElem? (i := 6) rfl)
  have k7 := hts (.fieldLink RX12 196 "WordForgeModel" "immediate" "[Z") (List.mem_of_getElem? (i := 7) rfl)
  have hl := lv_entry ([.ref (g 0), .int x1]) (n := 2) (Nat.le_of_ble_eq_true rfl)
  rw [lg_entry_eq]
  generalize (lg_sl ([.ref (g 0), .int x1]) ++ List.replicate (2 - (lg_sl ([.ref (g 0), .int x1])).length) Slot.unset).toArray = ls at hl ⊢
  have hl : lv_has ls 2 [(0, .ref (g 0)), (1, .int x1)] := hl
  unfold f_X12_makes at hE
  suffices main : ∀ (H : Heap) (locs : List Loc) (ls : Array Slot), va_P D vwCl (wX g cA t s r c y d k q o m) H → va_D A (wX g cA t s r c y d k q o m) → va_S A S0.heap H locs → lv_has ls 2 [(0, .ref (g 0)), (1, .int x1)] → W PP l EE (headSpec wsX12_makes ({ frames := 4, cells := 0, slots := 0, locals := 84 })).room S0 MM (#[.ref (g 0), .int x1] : Array Value) below meth CC H locs 0 0 (MQ below (cQi D (wX g cA u.2.1 u.2.2.1 r c u.2.2.2.1 u.2.2.2.2.1 u.2.2.2.2.2 q o m) A u.1) (#[.ref (g 0), .int x1] : Array Value) S0 0 0 A) (F0 MM 0 ls []) from main _ _ _ hP hD hS hl
  intro H locs ls hP hD hS hl
  refine lv_iload_n hx hb dX12_makes_0 rfl (lv_at hl 1 rfl) ?_
  by_cases c1 : x1 = 54
  · have hE := if_t c1 hE
    refine lv_lookup (tgt := 36) (off := 35) hx hb dX12_makes_1 (by decide +kernel) (by rw [c1]; decide +kernel) (by decide) ?_
    refine lv_aload_n hx hb dX12_makes_36 rfl (lv_at hl 0 rfl) ?_
    refine va_get (D := D) (ci := 10) (v := .int q.1) (C := RX12) (T := TX12) (N := 40) hx hb hts inX12 hown hK hP 0 rfl rfl 31 (by decide) k0 (fun _ h9 => h9) rfl dX12_makes_37 ?_
    refine lv_if_le (tgt := 46) hx hb dX12_makes_40 (by decide) (fun c2 => ?_) (fun c2 => ?_)
    · have hE := if_t c2 hE
      refine lv_aload_n hx hb dX12_makes_46 rfl (lv_at hl 0 rfl) ?_
      refine va_get (D := D) (ci := 10) (v := .int y.1) (C := RX12) (T := TX12) (N := 40) hx hb hts inX12 hown hK hP 0 rfl rfl 17 (by decide) k2 (fun _ h9 => h9) rfl dX12_makes_47 ?_
      refine lv_sipush (v := 400) hx hb dX12_makes_50 (by decide +kernel) ?_
      refine lv_icmp_ne (tgt := 59) hx hb dX12_makes_53 (by decide) (fun c3 => ?_) (fun c3 => ?_)
      · have hE := if_f c3 hE
        refine lv_aload_n hx hb dX12_makes_59 rfl (lv_at hl 0 rfl) ?_
        refine lv_iconst (v := 0) hx hb dX12_makes_60 (by decide +kernel) ?_
        obtain ⟨u4, h5, hE⟩ := bd_some hE
        refine cw_i (As := [.int 0]) (rest := []) (r := u4.1) (wc := (wX g cA t s r c y d k q o m)) ⟨hx, hb, hml, hown, hts⟩ (c_X12_append l D cA g H.size 0 t s r c y d k q o m u4 h5) (cwV 1 hts hX12_makes_X12_append_279 rfl rfl rfl (by decide +kernel) ⟨Nat.le_of_ble_eq_true rfl, Nat.le_of_ble_eq_true rfl⟩) rfl hl.1 rfl (Nat.le_of_ble_eq_true rfl) dX12_makes_61 ⟨Nat.zero_le _, Nat.zero_le _⟩ hK hP hD hS hA (va_recv hK hP (ci := 10) (q0 := 0) rfl rfl) [g 0, g 1, g 2, g 3, g 4, g 5, g 6, g 7, g 8, g 9, g 10, g 11, g 12, g 13, g 14, g 15, g 16, g 17, g 18, g 19] rfl rfl (fun _ _ _ _ h => h) (fun _ _ _ => trivial) (fun H locs hP hD hS => ?_)
        have hP : va_P D vwCl (wX g cA t s r c u4.2 d k q o m) H := hP
        have hD : va_D A (wX g cA t s r c u4.2 d k q o m) := hD
        refine lv_pop hx hb dX12_makes_64 rfl ?_
        refine lv_aload_n hx hb dX12_makes_65 rfl (lv_at hl 0 rfl) ?_
        refine va_get (D := D) (ci := 10) (v := .ref (g 15)) (C := RX12) (T := TX12) (N := 40) hx hb hts inX12 hown hK hP 0 rfl rfl 22 (by decide) k3 (fun _ h9 => h9) rfl dX12_makes_66 ?_
        refine lv_aload_n hx hb dX12_makes_69 rfl (lv_at hl 0 rfl) ?_
        refine va_get (D := D) (ci := 10) (v := .int d.1) (C := RX12) (T := TX12) (N := 40) hx hb hts inX12 hown hK hP 0 rfl rfl 25 (by decide) k4 (fun _ h9 => h9) rfl dX12_makes_70 ?_
        refine lv_iconst (v := 1) hx hb dX12_makes_73 (by decide +kernel) ?_
        refine lv_isub hx hb dX12_makes_74 ?_
        refine lv_iconst (v := 1) hx hb dX12_makes_75 (by decide +kernel) ?_
        have ⟨c6, hE⟩ := ck_some hE
        refine va_zast hx hb hK hP hD hS 15 1 rfl rfl c6 dX12_makes_76 (fun H locs hP hD hS => ?_)
        have hP : va_P D vwCl (wX g cA t s r c u4.2 ((d.1, d.2.1, d.2.2.1, d.2.2.2.1, d.2.2.2.2.1, d.2.2.2.2.2.1, d.2.2.2.2.2.2.1, upd d.2.2.2.2.2.2.2.1 ((d.1 - 1).toNatClampNeg) (vp_nar .boolean 1), d.2.2.2.2.2.2.2.2.1, d.2.2.2.2.2.2.2.2.2)) k q o m) H := hP
        have hD : va_D A (wX g cA t s r c u4.2 ((d.1, d.2.1, d.2.2.1, d.2.2.2.1, d.2.2.2.2.1, d.2.2.2.2.2.1, d.2.2.2.2.2.2.1, upd d.2.2.2.2.2.2.2.1 ((d.1 - 1).toNatClampNeg) (vp_nar .boolean 1), d.2.2.2.2.2.2.2.2.1, d.2.2.2.2.2.2.2.2.2)) k q o m) := hD
        refine lv_aload_n hx hb dX12_makes_77 rfl (lv_at hl 0 rfl) ?_
        refine lv_iconst (v := 0) hx hb dX12_makes_78 (by decide +kernel) ?_
        refine va_put (D := D) (ci := 10) (v := .int 0) (ty := .boolean) (C := RX12) (T := TX12) (N := 40) hx hb hts inX12 tyX12 tyX12_ok nmX12 hown hK hP hD hS 0 rfl rfl 26 (by decide) k5 (fun _ h9 => h9) rfl (by decide +kernel) (by decide +kernel) (by decide +kernel) (Nat.le_of_ble_eq_true rfl) dX12_makes_79 (fun H locs hP hD hS => ?_)
        have hP : va_P D vwCl (wX g cA t s r c u4.2 ((d.1, 0, d.2.2.1, d.2.2.2.1, d.2.2.2.2.1, d.2.2.2.2.2.1, d.2.2.2.2.2.2.1, upd d.2.2.2.2.2.2.2.1 ((d.1 - 1).toNatClampNeg) (vp_nar .boolean 1), d.2.2.2.2.2.2.2.2.1, d.2.2.2.2.2.2.2.2.2)) k q o m) H := hP
        have hD : va_D A (wX g cA t s r c u4.2 ((d.1, 0, d.2.2.1, d.2.2.2.1, d.2.2.2.2.1, d.2.2.2.2.2.1, d.2.2.2.2.2.2.1, upd d.2.2.2.2.2.2.2.1 ((d.1 - 1).toNatClampNeg) (vp_nar .boolean 1), d.2.2.2.2.2.2.2.2.1, d.2.2.2.2.2.2.2.2.2)) k q o m) := hD
        refine lv_aload_n hx hb dX12_makes_82 rfl (lv_at hl 0 rfl) ?_
        refine lv_iconst (v := 0) hx hb dX12_makes_83 (by decide +kernel) ?_
        refine va_put (D := D) (ci := 10) (v := .int 0) (ty := .boolean) (C := RX12) (T := TX12) (N := 40) hx hb hts inX12 tyX12 tyX12_ok nmX12 hown hK hP hD hS 0 rfl rfl 28 (by decide) k6 (fun _ h9 => h9) rfl (by decide +kernel) (by decide +kernel) (by decide +kernel) (Nat.le_of_ble_eq_true rfl) dX12_makes_84 (fun H locs hP hD hS => ?_)
        have hP : va_P D vwCl (wX g cA t s r c u4.2 ((d.1, 0, d.2.2.1, d.2.2.2.1, d.2.2.2.2.1, d.2.2.2.2.2.1, d.2.2.2.2.2.2.1, upd d.2.2.2.2.2.2.2.1 ((d.1 - 1).toNatClampNeg) (vp_nar .boolean 1), d.2.2.2.2.2.2.2.2.1, d.2.2.2.2.2.2.2.2.2)) 0 q o m) H := hP
        have hD : va_D A (wX g cA t s r c u4.2 ((d.1, 0, d.2.2.1, d.2.2.2.1, d.2.2.2.2.1, d.2.2.2.2.2.1, d.2.2.2.2.2.2.1, upd d.2.2.2.2.2.2.2.1 ((d.1 - 1).toNatClampNeg) (vp_nar .boolean 1), d.2.2.2.2.2.2.2.2.1, d.2.2.2.2.2.2.2.2.2)) 0 q o m) := hD
        refine lv_iconst (v := 0) hx hb dX12_makes_87 (by decide +kernel) ?_
        obtain rfl := Option.some.inj hE
        exact rt_i hx hb hr hP hS rfl hlocks dX12_makes_88
      · have hE := if_t c3 hE
        refine lv_bipush (v := (-8)) hx hb dX12_makes_56 (by decide +kernel) ?_
        obtain rfl := Option.some.inj hE
        exact rt_i hx hb hr hP hS rfl hlocks dX12_makes_58
    · have hE := if_f c2 hE
      refine lv_bipush (v := (-22)) hx hb dX12_makes_43 (by decide +kernel) ?_
      obtain rfl := Option.some.inj hE
      exact rt_i hx hb hr hP hS rfl hlocks dX12_makes_45
  have hE := if_f c1 hE
  by_cases c7 : x1 = 58
  · have hE := if_t c7 hE
    refine lv_lookup (tgt := 89) (off := 88) hx hb dX12_makes_1 (by decide +kernel) (by rw [c7]; decide +kernel) (by decide) ?_
    refine lv_aload_n hx hb dX12_makes_89 rfl (lv_at hl 0 rfl) ?_
    refine va_get (D := D) (ci := 10) (v := .int y.1) (C := RX12) (T := TX12) (N := 40) hx hb hts inX12 hown hK hP 0 rfl rfl 17 (by decide) k2 (fun _ h9 => h9) rfl dX12_makes_90 ?_
    refine lv_sipush (v := 400) hx hb dX12_makes_93 (by decide +kernel) ?_
    refine lv_icmp_ne (tgt := 104) hx hb dX12_makes_96 (by decide) (fun c8 => ?_) (fun c8 => ?_)
    · have hE := if_f c8 hE
      refine lv_aload_n hx hb dX12_makes_104 rfl (lv_at hl 0 rfl) ?_
      refine lv_bipush (v := 7) hx hb dX12_makes_105 (by decide +kernel) ?_
      obtain ⟨u9, h10, hE⟩ := bd_some hE
      refine cw_i (As := [.int 7]) (rest := []) (r := u9.1) (wc := (wX g cA t s r c y d k q o m)) ⟨hx, hb, hml, hown, hts⟩ (c_X12_append l D cA g H.size 7 t s r c y d k q o m u9 h10) (cwV 1 hts hX12_makes_X12_append_279 rfl rfl rfl (by decide +kernel) ⟨Nat.le_of_ble_eq_true rfl, Nat.le_of_ble_eq_true rfl⟩) rfl hl.1 rfl (Nat.le_of_ble_eq_true rfl) dX12_makes_107 ⟨Nat.zero_le _, Nat.zero_le _⟩ hK hP hD hS hA (va_recv hK hP (ci := 10) (q0 := 0) rfl rfl) [g 0, g 1, g 2, g 3, g 4, g 5, g 6, g 7, g 8, g 9, g 10, g 11, g 12, g 13, g 14, g 15, g 16, g 17, g 18, g 19] rfl rfl (fun _ _ _ _ h => h) (fun _ _ _ => trivial) (fun H locs hP hD hS => ?_)
      have hP : va_P D vwCl (wX g cA t s r c u9.2 d k q o m) H := hP
      have hD : va_D A (wX g cA t s r c u9.2 d k q o m) := hD
      obtain rfl := Option.some.inj hE
      exact rt_i hx hb hr hP hS rfl hlocks dX12_makes_110
    · have hE := if_t c8 hE
      refine lv_bipush (v := (-8)) hx hb dX12_makes_99 (by decide +kernel) ?_
      refine lv_goto (tgt := 110) hx hb dX12_makes_101 (by decide) ?_
      obtain rfl := Option.some.inj hE
      exact rt_i hx hb hr hP hS rfl hlocks dX12_makes_110
  have hE := if_f c7 hE
  by_cases c11 : x1 = 59
  · have hE := if_t c11 hE
    refine lv_lookup (tgt := 111) (off := 110) hx hb dX12_makes_1 (by decide +kernel) (by rw [c11]; decide +kernel) (by decide) ?_
    refine lv_aload_n hx hb dX12_makes_111 rfl (lv_at hl 0 rfl) ?_
    refine va_get (D := D) (ci := 10) (v := .int d.1) (C := RX12) (T := TX12) (N := 40) hx hb hts inX12 hown hK hP 0 rfl rfl 25 (by decide) k4 (fun _ h9 => h9) rfl dX12_makes_112 ?_
    refine lv_if_ne (tgt := 121) hx hb dX12_makes_115 (by decide) (fun c12 => ?_) (fun c12 => ?_)
    · have hE := if_f c12 hE
      refine lv_aload_n hx hb dX12_makes_121 rfl (lv_at hl 0 rfl) ?_
      refine va_get (D := D) (ci := 10) (v := .ref (g 14)) (C := RX12) (T := TX12) (N := 40) hx hb hts inX12 hown hK hP 0 rfl rfl 21 (by decide) k7 (fun _ h9 => h9) rfl dX12_makes_122 ?_
      refine lv_aload_n hx hb dX12_makes_125 rfl (lv_at hl 0 rfl) ?_
      refine va_get (D := D) (ci := 10) (v := .int d.1) (C := RX12) (T := TX12) (N := 40) hx hb hts inX12 hown hK hP 0 rfl rfl 25 (by decide) k4 (fun _ h9 => h9) rfl dX12_makes_126 ?_
      refine lv_iconst (v := 1) hx hb dX12_makes_129 (by decide +kernel) ?_
      refine lv_isub hx hb dX12_makes_130 ?_
      refine lv_iconst (v := 1) hx hb dX12_makes_131 (by decide +kernel) ?_
      have ⟨c13, hE⟩ := ck_some hE
      refine va_zast hx hb hK hP hD hS 14 1 rfl rfl c13 dX12_makes_132 (fun H locs hP hD hS => ?_)
      have hP : va_P D vwCl (wX g cA t s r c y ((d.1, d.2.1, d.2.2.1, d.2.2.2.1, d.2.2.2.2.1, d.2.2.2.2.2.1, upd d.2.2.2.2.2.2.1 ((d.1 - 1).toNatClampNeg) (vp_nar .boolean 1), d.2.2.2.2.2.2.2.1, d.2.2.2.2.2.2.2.2.1, d.2.2.2.2.2.2.2.2.2)) k q o m) H := hP
      have hD : va_D A (wX g cA t s r c y ((d.1, d.2.1, d.2.2.1, d.2.2.2.1, d.2.2.2.2.1, d.2.2.2.2.2.1, upd d.2.2.2.2.2.2.1 ((d.1 - 1).toNatClampNeg) (vp_nar .boolean 1), d.2.2.2.2.2.2.2.1, d.2.2.2.2.2.2.2.2.1, d.2.2.2.2.2.2.2.2.2)) k q o m) := hD
      refine lv_iconst (v := 0) hx hb dX12_makes_133 (by decide +kernel) ?_
      obtain rfl := Option.some.inj hE
      exact rt_i hx hb hr hP hS rfl hlocks dX12_makes_134
    · have hE := if_t c12 hE
      refine lv_bipush (v := (-32)) hx hb dX12_makes_118 (by decide +kernel) ?_
      obtain rfl := Option.some.inj hE
      exact rt_i hx hb hr hP hS rfl hlocks dX12_makes_120
  have hE := if_f c11 hE
  refine lv_lookup (tgt := 135) (off := 134) hx hb dX12_makes_1 (by decide +kernel) (by show Op.lookupswitch.offset _ _ _ = _; rw [lv_osw c1 (show (54 : Int32).toInt = 54 by decide +kernel), lv_osw c7 (show (58 : Int32).toInt = 58 by decide +kernel), lv_osw c11 (show (59 : Int32).toInt = 59 by decide +kernel)]; rfl) (by decide) ?_
  refine lv_aload_n hx hb dX12_makes_135 rfl (lv_at hl 0 rfl) ?_
  refine lv_iload_n hx hb dX12_makes_136 rfl (lv_at hl 1 rfl) ?_
  obtain ⟨u14, h15, hE⟩ := bd_some hE
  refine cw_i (As := [.int x1]) (rest := []) (r := u14.1) (wc := (wX g cA t s r c y d k q o m)) ⟨hx, hb, hml, hown, hts⟩ (c_X12_begins l D cA g H.size x1 t s r c y d k q o m u14 h15) (cwV 1 hts hX12_makes_X12_begins_416 rfl rfl rfl (by decide +kernel) ⟨Nat.le_of_ble_eq_true rfl, Nat.le_of_ble_eq_true rfl⟩) rfl hl.1 rfl (Nat.le_of_ble_eq_true rfl) dX12_makes_137 ⟨Nat.zero_le _, Nat.zero_le _⟩ hK hP hD hS hA (va_recv hK hP (ci := 10) (q0 := 0) rfl rfl) [g 0, g 1, g 2, g 3, g 4, g 5, g 6, g 7, g 8, g 9, g 10, g 11, g 12, g 13, g 14, g 15, g 16, g 17, g 18, g 19] rfl rfl (fun _ _ _ _ h => h) (fun _ _ _ => trivial) (fun H locs hP hD hS => ?_)
  have hP : va_P D vwCl (wX g cA u14.2.1 u14.2.2.1 r c u14.2.2.2.1 u14.2.2.2.2.1 u14.2.2.2.2.2 q o m) H := hP
  have hD : va_D A (wX g cA u14.2.1 u14.2.2.1 r c u14.2.2.2.1 u14.2.2.2.2.1 u14.2.2.2.2.2 q o m) := hD
  obtain rfl := Option.some.inj hE
  exact rt_i hx hb hr hP hS rfl hlocks dX12_makes_140
set_option maxHeartbeats 4000000 in
set_option maxRecDepth 100000 in
theorem c_X12_isWord (l : Launch) (D : va_G) (cA : Nat → ClassId) (g : Nat → Nat) (sz : Nat) (x1 : Int32) (t : mT) (s : mS) (r : mR) (c : mC) (y : mY) (d : mD) (k : mK) (q : mP) (o : mO) (m : mM) (u : Int32) (hE : f_X12_isWord x1 d = some u) : Met l yX12_isWord wsX12_isWord ({ frames := 0, cells := 0, slots := 0, locals := 0 }) (va_Pc [.ref (g 0), .int x1] (PRE D cA (wX g cA t s r c y d k q o m) sz (fun _ => True))) (cQi D (wX g cA t s r c y d k q o m) (va_A (wX g cA t s r c y d k q o m) sz) u) 0 0 (va_A (wX g cA t s r c y d k q o m) sz) := by
  refine Met.ofW (cc := cX12_isWord) (maxL := 2) (ret := (some .boolean)) (by decide) rfl ?_
  intro PP EE S0 MM args below meth CC S1 B hml hv
  obtain ⟨rfl, hsz, hP, hK, hD0, hX⟩ := hv
  have hx := B.exec
  have hb := B.bytes
  have hr := B.returns
  have hts := atoms_spec (ws := wsX12_isWord) B.pre
  have hown : S0.vm.findClass RX12 = some MM.cls := findClass_of_methodNamed B.named
  have hlocks := B.notSynchronized
  subst hsz
  have hD := hD0.self (sz := S0.heap.size)
  generalize hAe : va_A (wX g cA t s r c y d k q o m) S0.heap.size = A at hD ⊢
  have hA : ∀ q : Nat, S0.heap.size ≤ q → A q := fun q h => by rw [← hAe]; exact Or.inr h
  have hS : va_S A S0.heap S0.heap [] := va_S.rf
  have k0 := hts (.fieldLink RX12 239 "WordForgeModel" "made" "I") (List.mem_of_getElem? (i := 1) rfl)
  have inX12 : ∀ w ∈ wsX120, w ∈ wsX12_isWord := fun _ h => List.mem_cons_of_mem _ (List.mem_append_right _ h)
  have hl := lv_entry ([.ref (g 0), .int x1]) (n := 2) (Nat.le_of_ble_eq_true rfl)
  rw [lg_entry_eq]
  generalize (lg_sl ([.ref (g 0), .int x1]) ++ List.replicate (2 - (lg_sl ([.ref (g 0), .int x1])).length) Slot.unset).toArray = ls at hl ⊢
  have hl : lv_has ls 2 [(0, .ref (g 0)), (1, .int x1)] := hl
  unfold f_X12_isWord at hE
  suffices main : ∀ (H : Heap) (locs : List Loc) (ls : Array Slot), va_P D vwCl (wX g cA t s r c y d k q o m) H → va_D A (wX g cA t s r c y d k q o m) → va_S A S0.heap H locs → lv_has ls 2 [(0, .ref (g 0)), (1, .int x1)] → W PP l EE (headSpec wsX12_isWord ({ frames := 0, cells := 0, slots := 0, locals := 0 })).room S0 MM (#[.ref (g 0), .int x1] : Array Value) below meth CC H locs 0 0 (MQ below (cQi D (wX g cA t s r c y d k q o m) A u) (#[.ref (g 0), .int x1] : Array Value) S0 0 0 A) (F0 MM 0 ls []) from main _ _ _ hP hD hS hl
  intro H locs ls hP hD hS hl
  refine lv_iload_n hx hb dX12_isWord_0 rfl (lv_at hl 1 rfl) ?_
  refine lv_if_lt (tgt := 19) hx hb dX12_isWord_1 (by decide) (fun c1 => ?_) (fun c1 => ?_)
  · have hE := if_t c1 hE
    refine lv_iconst (v := 0) hx hb dX12_isWord_19 (by decide +kernel) ?_
    obtain rfl := Option.some.inj hE
    exact rt_n hx hb hr (by decide +kernel) hP hS rfl hlocks dX12_isWord_20
  · have hE := if_f c1 hE
    refine lv_iload_n hx hb dX12_isWord_4 rfl (lv_at hl 1 rfl) ?_
    refine lv_bipush (v := 82) hx hb dX12_isWord_5 (by decide +kernel) ?_
    refine lv_aload_n hx hb dX12_isWord_7 rfl (lv_at hl 0 rfl) ?_
    refine va_get (D := D) (ci := 10) (v := .int d.1) (C := RX12) (T := TX12) (N := 40) hx hb hts inX12 hown hK hP 0 rfl rfl 25 (by decide) k0 (fun _ h9 => h9) rfl dX12_isWord_8 ?_
    refine lv_iadd hx hb dX12_isWord_11 ?_
    refine lv_icmp_ge (tgt := 19) hx hb dX12_isWord_12 (by decide) (fun c2 => ?_) (fun c2 => ?_)
    · have hE := if_t c2 hE
      refine lv_iconst (v := 0) hx hb dX12_isWord_19 (by decide +kernel) ?_
      obtain rfl := Option.some.inj hE
      exact rt_n hx hb hr (by decide +kernel) hP hS rfl hlocks dX12_isWord_20
    · have hE := if_f c2 hE
      refine lv_iconst (v := 1) hx hb dX12_isWord_15 (by decide +kernel) ?_
      refine lv_goto (tgt := 20) hx hb dX12_isWord_16 (by decide) ?_
      obtain rfl := Option.some.inj hE
      exact rt_n hx hb hr (by decide +kernel) hP hS rfl hlocks dX12_isWord_20
set_option maxRecDepth 20000 in
theorem hX12_tells_X12_parse_419 : GoodIn wsX12_tells (wsV RX12 419 RX12 yX12_parse wsX12_parse) := goodIn_r _ [8, 9, 10, 11, 12, 13, 14, 15, 16, 11, 17, 18, 19, 20, 21, 22, 23, 24, 25, 64, 65, 66, 67, 68, 69, 70, 71, 72, 73, 74, 75, 76, 77, 78, 79, 80, 81, 82, 83, 84, 85, 86, 87, 88, 89, 90, 91, 92, 93, 94, 95, 96, 97, 98, 99, 100, 101, 102, 103] rfl (by decide +kernel)
set_option maxRecDepth 20000 in
theorem hX12_tells_X12_meaning_266 : GoodIn wsX12_tells (wsV RX12 266 RX12 yX12_meaning wsX12_meaning) := goodIn_r _ [26, 27, 28, 11, 29, 13, 3, 25, 20, 30, 31, 32, 33, 34, 35, 36, 37, 11, 38, 39, 40, 41, 64, 65, 66, 67, 68, 69, 70, 71, 72, 73, 74, 75, 76, 77, 78, 79, 80, 81, 82, 83, 84, 85, 86, 87, 88, 89, 90, 91, 92, 93, 94, 95, 96, 97, 98, 99, 100, 101, 102, 103] rfl (by decide +kernel)
set_option maxRecDepth 20000 in
theorem hX12_tells_X12_isWord_323 : GoodIn wsX12_tells (wsV RX12 323 RX12 yX12_isWord wsX12_isWord) := goodIn_r _ [42, 43, 44, 11, 45, 3, 64, 65, 66, 67, 68, 69, 70, 71, 72, 73, 74, 75, 76, 77, 78, 79, 80, 81, 82, 83, 84, 85, 86, 87, 88, 89, 90, 91, 92, 93, 94, 95, 96, 97, 98, 99, 100, 101, 102, 103] rfl (by decide +kernel)
set_option maxRecDepth 20000 in
theorem hX12_tells_X12_push_296 : GoodIn wsX12_tells (wsV RX12 296 RX12 yX12_push wsX12_push) := goodIn_r _ [46, 47, 48, 11, 49, 1, 2, 64, 65, 66, 67, 68, 69, 70, 71, 72, 73, 74, 75, 76, 77, 78, 79, 80, 81, 82, 83, 84, 85, 86, 87, 88, 89, 90, 91, 92, 93, 94, 95, 96, 97, 98, 99, 100, 101, 102, 103] rfl (by decide +kernel)
set_option maxRecDepth 20000 in
theorem hX12_tells_X12_pop_390 : GoodIn wsX12_tells (wsV RX12 390 RX12 yX12_pop wsX12_pop) := goodIn_r _ [50, 51, 52, 11, 53, 2, 1, 64, 65, 66, 67, 68, 69, 70, 71, 72, 73, 74, 75, 76, 77, 78, 79, 80, 81, 82, 83, 84, 85, 86, 87, 88, 89, 90, 91, 92, 93, 94, 95, 96, 97, 98, 99, 100, 101, 102, 103] rfl (by decide +kernel)
set_option maxRecDepth 20000 in
theorem hX12_tells_X12_isImmediate_273 : GoodIn wsX12_tells (wsV RX12 273 RX12 yX12_isImmediate wsX12_isImmediate) := goodIn_r _ [54, 55, 56, 11, 57, 58, 64, 65, 66, 67, 68, 69, 70, 71, 72, 73, 74, 75, 76, 77, 78, 79, 80, 81, 82, 83, 84, 85, 86, 87, 88, 89, 90, 91, 92, 93, 94, 95, 96, 97, 98, 99, 100, 101, 102, 103] rfl (by decide +kernel)
set_option maxRecDepth 20000 in
theorem hX12_tells_X12_append_279 : GoodIn wsX12_tells (wsV RX12 279 RX12 yX12_append wsX12_append) := goodIn_r _ [59, 60, 61, 11, 62, 63, 7, 64, 65, 66, 67, 68, 69, 70, 71, 72, 73, 74, 75, 76, 77, 78, 79, 80, 81, 82, 83, 84, 85, 86, 87, 88, 89, 90, 91, 92, 93, 94, 95, 96, 97, 98, 99, 100, 101, 102, 103] rfl (by decide +kernel)
set_option maxHeartbeats 4000000 in
set_option maxRecDepth 100000 in
theorem c_X12_tells (l : Launch) (D : va_G) (cA : Nat → ClassId) (g : Nat → Nat) (sz : Nat) (x1 : Int32) (t : mT) (s : mS) (r : mR) (c : mC) (y : mY) (d : mD) (k : mK) (q : mP) (o : mO) (m : mM) (u : Int32 × mT × mS × mY × mK × mM) (hE : f_X12_tells x1 t s y d k m = some u) : Met l yX12_tells wsX12_tells ({ frames := 3, cells := 0, slots := 0, locals := 61 }) (va_Pc [.ref (g 0), .int x1] (PRE D cA (wX g cA t s r c y d k q o m) sz (fun _ => True))) (cQi D (wX g cA u.2.1 u.2.2.1 r c u.2.2.2.1 d u.2.2.2.2.1 q o u.2.2.2.2.2) (va_A (wX g cA t s r c y d k q o m) sz) u.1) 0 0 (va_A (wX g cA t s r c y d k q o m) sz) := by
  refine Met.ofW (cc := cX12_tells) (maxL := 6) (ret := (some .int)) (by decide) rfl ?_
  intro PP EE S0 MM args below meth CC S1 B hml hv
  obtain ⟨rfl, hsz, hP, hK, hD0, hX⟩ := hv
  have hx := B.exec
  have hb := B.bytes
  have hr := B.returns
  have hts := atoms_spec (ws := wsX12_tells) B.pre
  have hown : S0.vm.findClass RX12 = some MM.cls := findClass_of_methodNamed B.named
  have hlocks := B.notSynchronized
  subst hsz
  have hD := hD0.self (sz := S0.heap.size)
  generalize hAe : va_A (wX g cA t s r c y d k q o m) S0.heap.size = A at hD ⊢
  have hA : ∀ q : Nat, S0.heap.size ≤ q → A q := fun q h => by rw [← hAe]; exact Or.inr h
  have hS : va_S A S0.heap S0.heap [] := va_S.rf
  have k0 := hts (.fieldLink RX12 239 "WordForgeModel" "made" "I") (List.mem_of_getElem? (i := 3) rfl)
  have inX12 : ∀ w ∈ wsX120, w ∈ wsX12_tells := fun _ h => List.mem_cons_of_mem _ (List.mem_append_right _ h)
  have k2 := hts (.fieldLink RX12 169 "WordForgeModel" "stack" "[I") (List.mem_of_getElem? (i := 1) rfl)
  have k3 := hts (.fieldLink RX12 293 "WordForgeModel" "depth" "I") (List.mem_of_getElem? (i := 2) rfl)
  have k4 := hts (.fieldLink RX12 326 "WordForgeModel" "next" "I") (List.mem_of_getElem? (i := 4) rfl)
  have k5 := hts (.fieldLink RX12 341 "WordForgeModel" "making" "Z") (List.mem_of_getElem? (i := 5) rfl)
  have k6 := hts (.fieldLink RX12 276 "WordForgeModel" "here" "I") (List.mem_of_getElem? (i := 7) rfl)
  have k7 := hts (.fieldLink RX12 270 "WordForgeModel" "compiling" "Z") (List.mem_of_getElem? (i := 6) rfl)
  have hl := lv_entry ([.ref (g 0), .int x1]) (n := 6) (Nat.le_of_ble_eq_true rfl)
  rw [lg_entry_eq]
  generalize (lg_sl ([.ref (g 0), .int x1]) ++ List.replicate (6 - (lg_sl ([.ref (g 0), .int x1])).length) Slot.unset).toArray = ls at hl ⊢
  have hl : lv_has ls 6 [(0, .ref (g 0)), (1, .int x1)] := hl
  have w226 : ∀ (z0 : Int32) (t : mT) (s : mS) (y : mY) (d : mD) (k : mK) (m : mM) (H : Heap) (locs : List Loc) (ls : Array Slot), va_P D vwCl (wX g cA t s r c y d k q o m) H → va_D A (wX g cA t s r c y d k q o m) → va_S A S0.heap H locs → lv_has ls 6 [] → b_X12_tells_226  z0 t s y d k m = some u → W PP l EE (headSpec wsX12_tells ({ frames := 3, cells := 0, slots := 0, locals := 61 })).room S0 MM (#[.ref (g 0), .int x1] : Array Value) below meth CC H locs 0 0 (MQ below (cQi D (wX g cA u.2.1 u.2.2.1 r c u.2.2.2.1 d u.2.2.2.2.1 q o u.2.2.2.2.2) A u.1) (#[.ref (g 0), .int x1] : Array Value) S0 0 0 A) (F0 MM 226 ls [.int z0, .ref (g 0)]) := by
    intro z0 t s y d k m
    intro H locs ls hP hD hS hl hE
    unfold b_X12_tells_226 at hE
    have ⟨c43, hE⟩ := ck_some hE
    refine va_put (D := D) (ci := 10) (v := .int z0) (ty := .boolean) (C := RX12) (T := TX12) (N := 40) hx hb hts inX12 tyX12 tyX12_ok nmX12 hown hK hP hD hS 0 rfl rfl 28 (by decide) k7 (fun _ h9 => h9) rfl (by decide +kernel) (zfit c43).1 (zfit c43).2 (Nat.le_of_ble_eq_true rfl) dX12_tells_226 (fun H locs hP hD hS => ?_)
    have hP : va_P D vwCl (wX g cA t s r c y d z0 q o m) H := hP
    have hD : va_D A (wX g cA t s r c y d z0 q o m) := hD
    refine lv_iconst (v := 0) hx hb dX12_tells_229 (by decide +kernel) ?_
    obtain rfl := Option.some.inj hE
    exact rt_i hx hb hr hP hS rfl hlocks dX12_tells_230
  have w214 : ∀ (y1 : Int32) (t : mT) (s : mS) (y : mY) (d : mD) (k : mK) (m : mM) (H : Heap) (locs : List Loc) (ls : Array Slot), va_P D vwCl (wX g cA t s r c y d k q o m) H → va_D A (wX g cA t s r c y d k q o m) → va_S A S0.heap H locs → lv_has ls 6 [(0, .ref (g 0)), (1, .int y1)] → b_X12_tells_214  y1 t s y d k m = some u → W PP l EE (headSpec wsX12_tells ({ frames := 3, cells := 0, slots := 0, locals := 61 })).room S0 MM (#[.ref (g 0), .int x1] : Array Value) below meth CC H locs 0 0 (MQ below (cQi D (wX g cA u.2.1 u.2.2.1 r c u.2.2.2.1 d u.2.2.2.2.1 q o u.2.2.2.2.2) A u.1) (#[.ref (g 0), .int x1] : Array Value) S0 0 0 A) (F0 MM 214 ls []) := by
    intro y1 t s y d k m
    intro H locs ls hP hD hS hl hE
    unfold b_X12_tells_214 at hE
    refine lv_aload_n hx hb dX12_tells_214 rfl (lv_at hl 0 rfl) ?_
    refine lv_iload_n hx hb dX12_tells_215 rfl (lv_at hl 1 rfl) ?_
    refine lv_bipush (v := 67) hx hb dX12_tells_216 (by decide +kernel) ?_
    refine lv_icmp_ne (tgt := 225) hx hb dX12_tells_218 (by decide) (fun c40 => ?_) (fun c40 => ?_)
    · have hE := if_f c40 hE
      refine lv_iconst (v := 0) hx hb dX12_tells_225 (by decide +kernel) ?_
      exact w226  0 t s y d k m H locs ls hP hD hS (lv_sub hl [] rfl) hE
    · have hE := if_t c40 hE
      refine lv_iconst (v := 1) hx hb dX12_tells_221 (by decide +kernel) ?_
      refine lv_goto (tgt := 226) hx hb dX12_tells_222 (by decide) ?_
      exact w226  1 t s y d k m H locs ls hP hD hS (lv_sub hl [] rfl) hE
  have w198 : ∀ (y1 : Int32) (t : mT) (s : mS) (y : mY) (d : mD) (k : mK) (m : mM) (H : Heap) (locs : List Loc) (ls : Array Slot), va_P D vwCl (wX g cA t s r c y d k q o m) H → va_D A (wX g cA t s r c y d k q o m) → va_S A S0.heap H locs → lv_has ls 6 [(0, .ref (g 0)), (1, .int y1)] → b_X12_tells_198  y1 t s y d k m = some u → W PP l EE (headSpec wsX12_tells ({ frames := 3, cells := 0, slots := 0, locals := 61 })).room S0 MM (#[.ref (g 0), .int x1] : Array Value) below meth CC H locs 0 0 (MQ below (cQi D (wX g cA u.2.1 u.2.2.1 r c u.2.2.2.1 d u.2.2.2.2.1 q o u.2.2.2.2.2) A u.1) (#[.ref (g 0), .int x1] : Array Value) S0 0 0 A) (F0 MM 198 ls []) := by
    intro y1 t s y d k m
    intro H locs ls hP hD hS hl hE
    unfold b_X12_tells_198 at hE
    refine lv_iload_n hx hb dX12_tells_198 rfl (lv_at hl 1 rfl) ?_
    refine lv_bipush (v := 67) hx hb dX12_tells_199 (by decide +kernel) ?_
    refine lv_icmp_ne (tgt := 214) hx hb dX12_tells_201 (by decide) (fun c38 => ?_) (fun c38 => ?_)
    · have hE := if_f c38 hE
      exact w214  y1 t s y d k m H locs ls hP hD hS (lv_sub hl [0, 1] rfl) hE
    · have hE := if_t c38 hE
      refine lv_aload_n hx hb dX12_tells_204 rfl (lv_at hl 0 rfl) ?_
      refine va_get (D := D) (ci := 10) (v := .int d.2.1) (C := RX12) (T := TX12) (N := 40) hx hb hts inX12 hown hK hP 0 rfl rfl 26 (by decide) k5 (fun _ h9 => h9) rfl dX12_tells_205 ?_
      refine lv_if_ne (tgt := 214) hx hb dX12_tells_208 (by decide) (fun c39 => ?_) (fun c39 => ?_)
      · have hE := if_f c39 hE
        exact w214  y1 t s y d k m H locs ls hP hD hS (lv_sub hl [0, 1] rfl) hE
      · have hE := if_t c39 hE
        refine lv_bipush (v := (-14)) hx hb dX12_tells_211 (by decide +kernel) ?_
        obtain rfl := Option.some.inj hE
        exact rt_i hx hb hr hP hS rfl hlocks dX12_tells_213
  have w347 : ∀ (t : mT) (s : mS) (y : mY) (d : mD) (k : mK) (m : mM) (H : Heap) (locs : List Loc) (ls : Array Slot), va_P D vwCl (wX g cA t s r c y d k q o m) H → va_D A (wX g cA t s r c y d k q o m) → va_S A S0.heap H locs → lv_has ls 6 [(0, .ref (g 0))] → b_X12_tells_347  t s y d k m = some u → W PP l EE (headSpec wsX12_tells ({ frames := 3, cells := 0, slots := 0, locals := 61 })).room S0 MM (#[.ref (g 0), .int x1] : Array Value) below meth CC H locs 0 0 (MQ below (cQi D (wX g cA u.2.1 u.2.2.1 r c u.2.2.2.1 d u.2.2.2.2.1 q o u.2.2.2.2.2) A u.1) (#[.ref (g 0), .int x1] : Array Value) S0 0 0 A) (F0 MM 347 ls []) := by
    intro t s y d k m
    intro H locs ls hP hD hS hl hE
    unfold b_X12_tells_347 at hE
    refine lv_aload_n hx hb dX12_tells_347 rfl (lv_at hl 0 rfl) ?_
    refine lv_dup hx hb dX12_tells_348 rfl ?_
    refine va_get (D := D) (ci := 10) (v := .int s.1) (C := RX12) (T := TX12) (N := 40) hx hb hts inX12 hown hK hP 0 rfl rfl 9 (by decide) k3 (fun _ h9 => h9) rfl dX12_tells_349 ?_
    refine lv_iconst (v := 1) hx hb dX12_tells_352 (by decide +kernel) ?_
    refine lv_isub hx hb dX12_tells_353 ?_
    refine va_put (D := D) (ci := 10) (v := .int (s.1 - 1)) (ty := .int) (C := RX12) (T := TX12) (N := 40) hx hb hts inX12 tyX12 tyX12_ok nmX12 hown hK hP hD hS 0 rfl rfl 9 (by decide) k3 (fun _ h9 => h9) rfl (by decide +kernel) rfl rfl (Nat.le_of_ble_eq_true rfl) dX12_tells_354 (fun H locs hP hD hS => ?_)
    have hP : va_P D vwCl (wX g cA t ((s.1 - 1, s.2)) r c y d k q o m) H := hP
    have hD : va_D A (wX g cA t ((s.1 - 1, s.2)) r c y d k q o m) := hD
    refine lv_iconst (v := 0) hx hb dX12_tells_357 (by decide +kernel) ?_
    obtain rfl := Option.some.inj hE
    exact rt_i hx hb hr hP hS rfl hlocks dX12_tells_358
  have w335 : ∀ (y1 : Int32) (t : mT) (s : mS) (y : mY) (d : mD) (k : mK) (m : mM) (H : Heap) (locs : List Loc) (ls : Array Slot), va_P D vwCl (wX g cA t s r c y d k q o m) H → va_D A (wX g cA t s r c y d k q o m) → va_S A S0.heap H locs → lv_has ls 6 [(0, .ref (g 0)), (1, .int y1)] → b_X12_tells_335  y1 t s y d k m = some u → W PP l EE (headSpec wsX12_tells ({ frames := 3, cells := 0, slots := 0, locals := 61 })).room S0 MM (#[.ref (g 0), .int x1] : Array Value) below meth CC H locs 0 0 (MQ below (cQi D (wX g cA u.2.1 u.2.2.1 r c u.2.2.2.1 d u.2.2.2.2.1 q o u.2.2.2.2.2) A u.1) (#[.ref (g 0), .int x1] : Array Value) S0 0 0 A) (F0 MM 335 ls []) := by
    intro y1 t s y d k m
    intro H locs ls hP hD hS hl hE
    unfold b_X12_tells_335 at hE
    refine lv_iload_n hx hb dX12_tells_335 rfl (lv_at hl 1 rfl) ?_
    refine lv_bipush (v := 63) hx hb dX12_tells_336 (by decide +kernel) ?_
    refine lv_icmp_eq (tgt := 347) hx hb dX12_tells_338 (by decide) (fun c54 => ?_) (fun c54 => ?_)
    · have hE := if_t c54 hE
      exact w347  t s y d k m H locs ls hP hD hS (lv_sub hl [0] rfl) hE
    · have hE := if_f c54 hE
      refine lv_iload_n hx hb dX12_tells_341 rfl (lv_at hl 1 rfl) ?_
      refine lv_bipush (v := 64) hx hb dX12_tells_342 (by decide +kernel) ?_
      refine lv_icmp_ne (tgt := 357) hx hb dX12_tells_344 (by decide) (fun c55 => ?_) (fun c55 => ?_)
      · have hE := if_f c55 hE
        refine lv_iconst (v := 0) hx hb dX12_tells_357 (by decide +kernel) ?_
        obtain rfl := Option.some.inj hE
        exact rt_i hx hb hr hP hS rfl hlocks dX12_tells_358
      · have hE := if_t c55 hE
        exact w347  t s y d k m H locs ls hP hD hS (lv_sub hl [0] rfl) hE
  have w310 : ∀ (y1 : Int32) (y4 : Int32) (y5 : Int32) (t : mT) (s : mS) (y : mY) (d : mD) (k : mK) (m : mM) (H : Heap) (locs : List Loc) (ls : Array Slot), va_P D vwCl (wX g cA t s r c y d k q o m) H → va_D A (wX g cA t s r c y d k q o m) → va_S A S0.heap H locs → lv_has ls 6 [(0, .ref (g 0)), (1, .int y1), (4, .int y4), (5, .int y5)] → b_X12_tells_310  y1 y4 y5 t s y d k m = some u → W PP l EE (headSpec wsX12_tells ({ frames := 3, cells := 0, slots := 0, locals := 61 })).room S0 MM (#[.ref (g 0), .int x1] : Array Value) below meth CC H locs 0 0 (MQ below (cQi D (wX g cA u.2.1 u.2.2.1 r c u.2.2.2.1 d u.2.2.2.2.1 q o u.2.2.2.2.2) A u.1) (#[.ref (g 0), .int x1] : Array Value) S0 0 0 A) (F0 MM 310 ls []) := by
    intro y1 y4 y5 t s y d k m
    intro H locs ls hP hD hS hl hE
    unfold b_X12_tells_310 at hE
    refine lv_aload_n hx hb dX12_tells_310 rfl (lv_at hl 0 rfl) ?_
    refine lv_iload hx hb dX12_tells_311 (lv_at hl 2 rfl) ?_
    obtain ⟨u48, h49, hE⟩ := bd_some hE
    refine cw_i (As := [.int y4]) (rest := []) (r := u48.1) (wc := (wX g cA t s r c y d k q o m)) ⟨hx, hb, hml, hown, hts⟩ (c_X12_append l D cA g H.size y4 t s r c y d k q o m u48 h49) (cwV 1 hts hX12_tells_X12_append_279 rfl rfl rfl (by decide +kernel) ⟨Nat.le_of_ble_eq_true rfl, Nat.le_of_ble_eq_true rfl⟩) rfl hl.1 rfl (Nat.le_of_ble_eq_true rfl) dX12_tells_313 ⟨Nat.zero_le _, Nat.zero_le _⟩ hK hP hD hS hA (va_recv hK hP (ci := 10) (q0 := 0) rfl rfl) [g 0, g 1, g 2, g 3, g 4, g 5, g 6, g 7, g 8, g 9, g 10, g 11, g 12, g 13, g 14, g 15, g 16, g 17, g 18, g 19] rfl rfl (fun _ _ _ _ h => h) (fun _ _ _ => trivial) (fun H locs hP hD hS => ?_)
    have hP : va_P D vwCl (wX g cA t s r c u48.2 d k q o m) H := hP
    have hD : va_D A (wX g cA t s r c u48.2 d k q o m) := hD
    refine lv_pop hx hb dX12_tells_316 rfl ?_
    refine lv_iload hx hb dX12_tells_317 (lv_at hl 3 rfl) ?_
    refine lv_if_ne (tgt := 335) hx hb dX12_tells_319 (by decide) (fun c50 => ?_) (fun c50 => ?_)
    · have hE := if_f c50 hE
      exact w335  y1 t s u48.2 d k m H locs ls hP hD hS (lv_sub hl [0, 1] rfl) hE
    · have hE := if_t c50 hE
      refine lv_iload_n hx hb dX12_tells_322 rfl (lv_at hl 1 rfl) ?_
      refine lv_bipush (v := 65) hx hb dX12_tells_323 (by decide +kernel) ?_
      refine lv_icmp_ne (tgt := 335) hx hb dX12_tells_325 (by decide) (fun c51 => ?_) (fun c51 => ?_)
      · have hE := if_f c51 hE
        exact w335  y1 t s u48.2 d k m H locs ls hP hD hS (lv_sub hl [0, 1] rfl) hE
      · have hE := if_t c51 hE
        refine lv_aload_n hx hb dX12_tells_328 rfl (lv_at hl 0 rfl) ?_
        refine lv_bipush (v := 63) hx hb dX12_tells_329 (by decide +kernel) ?_
        obtain ⟨u52, h53, hE⟩ := bd_some hE
        refine cw_i (As := [.int 63]) (rest := []) (r := u52.1) (wc := (wX g cA t s r c u48.2 d k q o m)) ⟨hx, hb, hml, hown, hts⟩ (c_X12_append l D cA g H.size 63 t s r c u48.2 d k q o m u52 h53) (cwV 1 hts hX12_tells_X12_append_279 rfl rfl rfl (by decide +kernel) ⟨Nat.le_of_ble_eq_true rfl, Nat.le_of_ble_eq_true rfl⟩) rfl hl.1 rfl (Nat.le_of_ble_eq_true rfl) dX12_tells_331 ⟨Nat.zero_le _, Nat.zero_le _⟩ hK hP hD hS hA (va_recv hK hP (ci := 10) (q0 := 0) rfl rfl) [g 0, g 1, g 2, g 3, g 4, g 5, g 6, g 7, g 8, g 9, g 10, g 11, g 12, g 13, g 14, g 15, g 16, g 17, g 18, g 19] rfl rfl (fun _ _ _ _ h => h) (fun _ _ _ => trivial) (fun H locs hP hD hS => ?_)
        have hP : va_P D vwCl (wX g cA t s r c u52.2 d k q o m) H := hP
        have hD : va_D A (wX g cA t s r c u52.2 d k q o m) := hD
        refine lv_pop hx hb dX12_tells_334 rfl ?_
        exact w335  y1 t s u52.2 d k m H locs ls hP hD hS (lv_sub hl [0, 1] rfl) hE
  have w292 : ∀ (y1 : Int32) (y4 : Int32) (y5 : Int32) (z0 : Int32) (z1 : Int32) (z2 : Int32) (t : mT) (s : mS) (y : mY) (d : mD) (k : mK) (m : mM) (H : Heap) (locs : List Loc) (ls : Array Slot), va_P D vwCl (wX g cA t s r c y d k q o m) H → va_D A (wX g cA t s r c y d k q o m) → va_S A S0.heap H locs → lv_has ls 6 [(0, .ref (g 0)), (1, .int y1), (4, .int y4), (5, .int y5)] → b_X12_tells_292  y1 y4 y5 z0 z1 z2 t s y d k m = some u → W PP l EE (headSpec wsX12_tells ({ frames := 3, cells := 0, slots := 0, locals := 61 })).room S0 MM (#[.ref (g 0), .int x1] : Array Value) below meth CC H locs 0 0 (MQ below (cQi D (wX g cA u.2.1 u.2.2.1 r c u.2.2.2.1 d u.2.2.2.2.1 q o u.2.2.2.2.2) A u.1) (#[.ref (g 0), .int x1] : Array Value) S0 0 0 A) (F0 MM 292 ls [.int z0, .int z1, .int z2]) := by
    intro y1 y4 y5 z0 z1 z2 t s y d k m
    intro H locs ls hP hD hS hl hE
    unfold b_X12_tells_292 at hE
    refine lv_isub hx hb dX12_tells_292 ?_
    refine lv_icmp_le (tgt := 299) hx hb dX12_tells_293 (by decide) (fun c44 => ?_) (fun c44 => ?_)
    · have hE := if_t c44 hE
      refine lv_iload hx hb dX12_tells_299 (lv_at hl 3 rfl) ?_
      refine lv_if_ne (tgt := 310) hx hb dX12_tells_301 (by decide) (fun c45 => ?_) (fun c45 => ?_)
      · have hE := if_f c45 hE
        exact w310  y1 y4 y5 t s y d k m H locs ls hP hD hS (lv_sub hl [0, 1, 2, 3] rfl) hE
      · have hE := if_t c45 hE
        refine lv_aload_n hx hb dX12_tells_304 rfl (lv_at hl 0 rfl) ?_
        refine lv_iconst (v := 1) hx hb dX12_tells_305 (by decide +kernel) ?_
        obtain ⟨u46, h47, hE⟩ := bd_some hE
        refine cw_i (As := [.int 1]) (rest := []) (r := u46.1) (wc := (wX g cA t s r c y d k q o m)) ⟨hx, hb, hml, hown, hts⟩ (c_X12_append l D cA g H.size 1 t s r c y d k q o m u46 h47) (cwV 1 hts hX12_tells_X12_append_279 rfl rfl rfl (by decide +kernel) ⟨Nat.le_of_ble_eq_true rfl, Nat.le_of_ble_eq_true rfl⟩) rfl hl.1 rfl (Nat.le_of_ble_eq_true rfl) dX12_tells_306 ⟨Nat.zero_le _, Nat.zero_le _⟩ hK hP hD hS hA (va_recv hK hP (ci := 10) (q0 := 0) rfl rfl) [g 0, g 1, g 2, g 3, g 4, g 5, g 6, g 7, g 8, g 9, g 10, g 11, g 12, g 13, g 14, g 15, g 16, g 17, g 18, g 19] rfl rfl (fun _ _ _ _ h => h) (fun _ _ _ => trivial) (fun H locs hP hD hS => ?_)
        have hP : va_P D vwCl (wX g cA t s r c u46.2 d k q o m) H := hP
        have hD : va_D A (wX g cA t s r c u46.2 d k q o m) := hD
        refine lv_pop hx hb dX12_tells_309 rfl ?_
        exact w310  y1 y4 y5 t s u46.2 d k m H locs ls hP hD hS (lv_sub hl [0, 1, 2, 3] rfl) hE
    · have hE := if_f c44 hE
      refine lv_bipush (v := (-8)) hx hb dX12_tells_296 (by decide +kernel) ?_
      obtain rfl := Option.some.inj hE
      exact rt_i hx hb hr hP hS rfl hlocks dX12_tells_298
  have w263 : ∀ (y1 : Int32) (y4 : Int32) (z0 : Int32) (t : mT) (s : mS) (y : mY) (d : mD) (k : mK) (m : mM) (H : Heap) (locs : List Loc) (ls : Array Slot), va_P D vwCl (wX g cA t s r c y d k q o m) H → va_D A (wX g cA t s r c y d k q o m) → va_S A S0.heap H locs → lv_has ls 6 [(0, .ref (g 0)), (1, .int y1), (4, .int y4)] → b_X12_tells_263  y1 y4 z0 t s y d k m = some u → W PP l EE (headSpec wsX12_tells ({ frames := 3, cells := 0, slots := 0, locals := 61 })).room S0 MM (#[.ref (g 0), .int x1] : Array Value) below meth CC H locs 0 0 (MQ below (cQi D (wX g cA u.2.1 u.2.2.1 r c u.2.2.2.1 d u.2.2.2.2.1 q o u.2.2.2.2.2) A u.1) (#[.ref (g 0), .int x1] : Array Value) S0 0 0 A) (F0 MM 263 ls [.int z0]) := by
    intro y1 y4 z0 t s y d k m
    intro H locs ls hP hD hS hl hE
    unfold b_X12_tells_263 at hE
    refine lv_istore (lv' := [(5, .int z0), (0, .ref (g 0)), (1, .int y1), (4, .int y4)]) hx hb dX12_tells_263 hl (by decide) rfl (fun ls hl => ?_)
    refine lv_aload_n hx hb dX12_tells_265 rfl (lv_at hl 1 rfl) ?_
    refine va_get (D := D) (ci := 10) (v := .int y.1) (C := RX12) (T := TX12) (N := 40) hx hb hts inX12 hown hK hP 0 rfl rfl 17 (by decide) k6 (fun _ h9 => h9) rfl dX12_tells_266 ?_
    refine lv_sipush (v := 400) hx hb dX12_tells_269 (by decide +kernel) ?_
    refine lv_iload hx hb dX12_tells_272 (lv_at hl 0 rfl) ?_
    refine lv_if_eq (tgt := 281) hx hb dX12_tells_274 (by decide) (fun c41 => ?_) (fun c41 => ?_)
    · have hE := if_t c41 hE
      refine lv_iload_n hx hb dX12_tells_281 rfl (lv_at hl 2 rfl) ?_
      refine lv_bipush (v := 65) hx hb dX12_tells_282 (by decide +kernel) ?_
      refine lv_icmp_ne (tgt := 291) hx hb dX12_tells_284 (by decide) (fun c42 => ?_) (fun c42 => ?_)
      · have hE := if_f c42 hE
        refine lv_iconst (v := 2) hx hb dX12_tells_291 (by decide +kernel) ?_
        exact w292  y1 y4 z0 2 400 y.1 t s y d k m H locs ls hP hD hS (lv_sub hl [1, 2, 3, 0] rfl) hE
      · have hE := if_t c42 hE
        refine lv_iconst (v := 3) hx hb dX12_tells_287 (by decide +kernel) ?_
        refine lv_goto (tgt := 292) hx hb dX12_tells_288 (by decide) ?_
        exact w292  y1 y4 z0 3 400 y.1 t s y d k m H locs ls hP hD hS (lv_sub hl [1, 2, 3, 0] rfl) hE
    · have hE := if_f c41 hE
      refine lv_iconst (v := 1) hx hb dX12_tells_277 (by decide +kernel) ?_
      refine lv_goto (tgt := 292) hx hb dX12_tells_278 (by decide) ?_
      exact w292  y1 y4 z0 1 400 y.1 t s y d k m H locs ls hP hD hS (lv_sub hl [1, 2, 3, 0] rfl) hE
  have w258 : ∀ (y1 : Int32) (y4 : Int32) (t : mT) (s : mS) (y : mY) (d : mD) (k : mK) (m : mM) (H : Heap) (locs : List Loc) (ls : Array Slot), va_P D vwCl (wX g cA t s r c y d k q o m) H → va_D A (wX g cA t s r c y d k q o m) → va_S A S0.heap H locs → lv_has ls 6 [(0, .ref (g 0)), (1, .int y1), (4, .int y4)] → b_X12_tells_258  y1 y4 t s y d k m = some u → W PP l EE (headSpec wsX12_tells ({ frames := 3, cells := 0, slots := 0, locals := 61 })).room S0 MM (#[.ref (g 0), .int x1] : Array Value) below meth CC H locs 0 0 (MQ below (cQi D (wX g cA u.2.1 u.2.2.1 r c u.2.2.2.1 d u.2.2.2.2.1 q o u.2.2.2.2.2) A u.1) (#[.ref (g 0), .int x1] : Array Value) S0 0 0 A) (F0 MM 258 ls []) := by
    intro y1 y4 t s y d k m
    intro H locs ls hP hD hS hl hE
    unfold b_X12_tells_258 at hE
    refine lv_iconst (v := 1) hx hb dX12_tells_258 (by decide +kernel) ?_
    refine lv_goto (tgt := 263) hx hb dX12_tells_259 (by decide) ?_
    exact w263  y1 y4 1 t s y d k m H locs ls hP hD hS (lv_sub hl [0, 1, 2] rfl) hE
  have w262 : ∀ (y1 : Int32) (y4 : Int32) (t : mT) (s : mS) (y : mY) (d : mD) (k : mK) (m : mM) (H : Heap) (locs : List Loc) (ls : Array Slot), va_P D vwCl (wX g cA t s r c y d k q o m) H → va_D A (wX g cA t s r c y d k q o m) → va_S A S0.heap H locs → lv_has ls 6 [(0, .ref (g 0)), (1, .int y1), (4, .int y4)] → b_X12_tells_262  y1 y4 t s y d k m = some u → W PP l EE (headSpec wsX12_tells ({ frames := 3, cells := 0, slots := 0, locals := 61 })).room S0 MM (#[.ref (g 0), .int x1] : Array Value) below meth CC H locs 0 0 (MQ below (cQi D (wX g cA u.2.1 u.2.2.1 r c u.2.2.2.1 d u.2.2.2.2.1 q o u.2.2.2.2.2) A u.1) (#[.ref (g 0), .int x1] : Array Value) S0 0 0 A) (F0 MM 262 ls []) := by
    intro y1 y4 t s y d k m
    intro H locs ls hP hD hS hl hE
    unfold b_X12_tells_262 at hE
    refine lv_iconst (v := 0) hx hb dX12_tells_262 (by decide +kernel) ?_
    exact w263  y1 y4 0 t s y d k m H locs ls hP hD hS (lv_sub hl [0, 1, 2] rfl) hE
  have w143 : ∀ (y1 : Int32) (y4 : Int32) (t : mT) (s : mS) (y : mY) (d : mD) (k : mK) (m : mM) (H : Heap) (locs : List Loc) (ls : Array Slot), va_P D vwCl (wX g cA t s r c y d k q o m) H → va_D A (wX g cA t s r c y d k q o m) → va_S A S0.heap H locs → lv_has ls 6 [(0, .ref (g 0)), (1, .int y1), (4, .int y4)] → b_X12_tells_143  y1 y4 t s y d k m = some u → W PP l EE (headSpec wsX12_tells ({ frames := 3, cells := 0, slots := 0, locals := 61 })).room S0 MM (#[.ref (g 0), .int x1] : Array Value) below meth CC H locs 0 0 (MQ below (cQi D (wX g cA u.2.1 u.2.2.1 r c u.2.2.2.1 d u.2.2.2.2.1 q o u.2.2.2.2.2) A u.1) (#[.ref (g 0), .int x1] : Array Value) S0 0 0 A) (F0 MM 143 ls []) := by
    intro y1 y4 t s y d k m
    intro H locs ls hP hD hS hl hE
    unfold b_X12_tells_143 at hE
    refine lv_iload_n hx hb dX12_tells_143 rfl (lv_at hl 1 rfl) ?_
    refine lv_bipush (v := 60) hx hb dX12_tells_144 (by decide +kernel) ?_
    refine lv_icmp_ne (tgt := 170) hx hb dX12_tells_146 (by decide) (fun c23 => ?_) (fun c23 => ?_)
    · have hE := if_f c23 hE
      refine lv_iload_n hx hb dX12_tells_170 rfl (lv_at hl 1 rfl) ?_
      refine lv_bipush (v := 62) hx hb dX12_tells_171 (by decide +kernel) ?_
      refine lv_icmp_ne (tgt := 186) hx hb dX12_tells_173 (by decide) (fun c24 => ?_) (fun c24 => ?_)
      · have hE := if_f c24 hE
        refine lv_iload_n hx hb dX12_tells_186 rfl (lv_at hl 1 rfl) ?_
        refine lv_bipush (v := 66) hx hb dX12_tells_187 (by decide +kernel) ?_
        refine lv_icmp_eq (tgt := 198) hx hb dX12_tells_189 (by decide) (fun c25 => ?_) (fun c25 => ?_)
        · have hE := if_t c25 hE
          exact w198  y1 t s y d k m H locs ls hP hD hS (lv_sub hl [0, 1] rfl) hE
        · have hE := if_f c25 hE
          refine lv_iload_n hx hb dX12_tells_192 rfl (lv_at hl 1 rfl) ?_
          refine lv_bipush (v := 67) hx hb dX12_tells_193 (by decide +kernel) ?_
          refine lv_icmp_ne (tgt := 231) hx hb dX12_tells_195 (by decide) (fun c26 => ?_) (fun c26 => ?_)
          · have hE := if_f c26 hE
            refine lv_iload_n hx hb dX12_tells_231 rfl (lv_at hl 1 rfl) ?_
            refine lv_bipush (v := 63) hx hb dX12_tells_232 (by decide +kernel) ?_
            refine lv_icmp_eq (tgt := 258) hx hb dX12_tells_234 (by decide) (fun c27 => ?_) (fun c27 => ?_)
            · have hE := if_t c27 hE
              exact w258  y1 y4 t s y d k m H locs ls hP hD hS (lv_sub hl [0, 1, 2] rfl) hE
            · have hE := if_f c27 hE
              refine lv_iload_n hx hb dX12_tells_237 rfl (lv_at hl 1 rfl) ?_
              refine lv_bipush (v := 68) hx hb dX12_tells_238 (by decide +kernel) ?_
              refine lv_icmp_eq (tgt := 258) hx hb dX12_tells_240 (by decide) (fun c28 => ?_) (fun c28 => ?_)
              · have hE := if_t c28 hE
                exact w258  y1 y4 t s y d k m H locs ls hP hD hS (lv_sub hl [0, 1, 2] rfl) hE
              · have hE := if_f c28 hE
                refine lv_iload_n hx hb dX12_tells_243 rfl (lv_at hl 1 rfl) ?_
                refine lv_bipush (v := 65) hx hb dX12_tells_244 (by decide +kernel) ?_
                refine lv_icmp_ne (tgt := 262) hx hb dX12_tells_246 (by decide) (fun c29 => ?_) (fun c29 => ?_)
                · have hE := if_f c29 hE
                  exact w262  y1 y4 t s y d k m H locs ls hP hD hS (lv_sub hl [0, 1, 2] rfl) hE
                · have hE := if_t c29 hE
                  refine lv_aload_n hx hb dX12_tells_249 rfl (lv_at hl 0 rfl) ?_
                  refine lv_iload hx hb dX12_tells_250 (lv_at hl 2 rfl) ?_
                  obtain ⟨u30, h31, hE⟩ := bd_some hE
                  refine cw_i (As := [.int y4]) (rest := []) (r := u30) (wc := (wX g cA t s r c y d k q o m)) ⟨hx, hb, hml, hown, hts⟩ (c_X12_isImmediate l D cA g H.size y4 t s r c y d k q o m u30 h31) (cwV 1 hts hX12_tells_X12_isImmediate_273 rfl rfl rfl (by decide +kernel) ⟨Nat.le_of_ble_eq_true rfl, Nat.le_of_ble_eq_true rfl⟩) rfl hl.1 rfl (Nat.le_of_ble_eq_true rfl) dX12_tells_252 ⟨Nat.zero_le _, Nat.zero_le _⟩ hK hP hD hS hA (va_recv hK hP (ci := 10) (q0 := 0) rfl rfl) [g 0, g 1, g 2, g 3, g 4, g 5, g 6, g 7, g 8, g 9, g 10, g 11, g 12, g 13, g 14, g 15, g 16, g 17, g 18, g 19] rfl rfl (fun _ _ _ _ h => h) (fun _ _ _ => trivial) (fun H locs hP hD hS => ?_)
                  have hP : va_P D vwCl (wX g cA t s r c y d k q o m) H := hP
                  have hD : va_D A (wX g cA t s r c y d k q o m) := hD
                  refine lv_if_eq (tgt := 262) hx hb dX12_tells_255 (by decide) (fun c32 => ?_) (fun c32 => ?_)
                  · have hE := if_t c32 hE
                    exact w262  y1 y4 t s y d k m H locs ls hP hD hS (lv_sub hl [0, 1, 2] rfl) hE
                  · have hE := if_f c32 hE
                    exact w258  y1 y4 t s y d k m H locs ls hP hD hS (lv_sub hl [0, 1, 2] rfl) hE
          · have hE := if_t c26 hE
            exact w198  y1 t s y d k m H locs ls hP hD hS (lv_sub hl [0, 1] rfl) hE
      · have hE := if_t c24 hE
        refine lv_aload_n hx hb dX12_tells_176 rfl (lv_at hl 0 rfl) ?_
        refine lv_aload_n hx hb dX12_tells_177 rfl (lv_at hl 0 rfl) ?_
        obtain ⟨u33, h34, hE⟩ := bd_some hE
        refine cw_i (As := []) (rest := [.ref (g 0)]) (r := u33.1) (wc := (wX g cA t s r c y d k q o m)) ⟨hx, hb, hml, hown, hts⟩ (c_X12_pop l D cA g H.size t s r c y d k q o m u33 h34) (cwV 0 hts hX12_tells_X12_pop_390 rfl rfl rfl (by decide +kernel) ⟨Nat.le_of_ble_eq_true rfl, Nat.le_of_ble_eq_true rfl⟩) rfl hl.1 rfl (Nat.le_of_ble_eq_true rfl) dX12_tells_178 ⟨Nat.zero_le _, Nat.zero_le _⟩ hK hP hD hS hA (va_recv hK hP (ci := 10) (q0 := 0) rfl rfl) [g 0, g 1, g 2, g 3, g 4, g 5, g 6, g 7, g 8, g 9, g 10, g 11, g 12, g 13, g 14, g 15, g 16, g 17, g 18, g 19] rfl rfl (fun _ _ _ _ h => h) (fun _ _ _ => trivial) (fun H locs hP hD hS => ?_)
        have hP : va_P D vwCl (wX g cA t u33.2 r c y d k q o m) H := hP
        have hD : va_D A (wX g cA t u33.2 r c y d k q o m) := hD
        refine va_put (D := D) (ci := 10) (v := .int u33.1) (ty := .int) (C := RX12) (T := TX12) (N := 40) hx hb hts inX12 tyX12 tyX12_ok nmX12 hown hK hP hD hS 0 rfl rfl 37 (by decide) k4 (fun _ h9 => h9) rfl (by decide +kernel) rfl rfl (Nat.le_of_ble_eq_true rfl) dX12_tells_181 (fun H locs hP hD hS => ?_)
        have hP : va_P D vwCl (wX g cA t u33.2 r c y d k q o ((m.1, m.2.1, m.2.2.1, m.2.2.2.1, u33.1, m.2.2.2.2.2.1, m.2.2.2.2.2.2))) H := hP
        have hD : va_D A (wX g cA t u33.2 r c y d k q o ((m.1, m.2.1, m.2.2.1, m.2.2.2.1, u33.1, m.2.2.2.2.2.1, m.2.2.2.2.2.2))) := hD
        refine lv_iconst (v := 0) hx hb dX12_tells_184 (by decide +kernel) ?_
        obtain rfl := Option.some.inj hE
        exact rt_i hx hb hr hP hS rfl hlocks dX12_tells_185
    · have hE := if_t c23 hE
      refine lv_aload_n hx hb dX12_tells_149 rfl (lv_at hl 0 rfl) ?_
      refine va_get (D := D) (ci := 10) (v := .int s.1) (C := RX12) (T := TX12) (N := 40) hx hb hts inX12 hown hK hP 0 rfl rfl 9 (by decide) k3 (fun _ h9 => h9) rfl dX12_tells_150 ?_
      refine lv_bipush (v := 30) hx hb dX12_tells_153 (by decide +kernel) ?_
      refine lv_icmp_ne (tgt := 163) hx hb dX12_tells_155 (by decide) (fun c35 => ?_) (fun c35 => ?_)
      · have hE := if_f c35 hE
        refine lv_aload_n hx hb dX12_tells_163 rfl (lv_at hl 0 rfl) ?_
        refine lv_iload hx hb dX12_tells_164 (lv_at hl 2 rfl) ?_
        obtain ⟨u36, h37, hE⟩ := bd_some hE
        refine cw_i (As := [.int y4]) (rest := []) (r := u36.1) (wc := (wX g cA t s r c y d k q o m)) ⟨hx, hb, hml, hown, hts⟩ (c_X12_push l D cA g H.size y4 t s r c y d k q o m u36 h37) (cwV 1 hts hX12_tells_X12_push_296 rfl rfl rfl (by decide +kernel) ⟨Nat.le_of_ble_eq_true rfl, Nat.le_of_ble_eq_true rfl⟩) rfl hl.1 rfl (Nat.le_of_ble_eq_true rfl) dX12_tells_166 ⟨Nat.zero_le _, Nat.zero_le _⟩ hK hP hD hS hA (va_recv hK hP (ci := 10) (q0 := 0) rfl rfl) [g 0, g 1, g 2, g 3, g 4, g 5, g 6, g 7, g 8, g 9, g 10, g 11, g 12, g 13, g 14, g 15, g 16, g 17, g 18, g 19] rfl rfl (fun _ _ _ _ h => h) (fun _ _ _ => trivial) (fun H locs hP hD hS => ?_)
        have hP : va_P D vwCl (wX g cA t u36.2 r c y d k q o m) H := hP
        have hD : va_D A (wX g cA t u36.2 r c y d k q o m) := hD
        obtain rfl := Option.some.inj hE
        exact rt_i hx hb hr hP hS rfl hlocks dX12_tells_169
      · have hE := if_t c35 hE
        refine lv_bipush (v := (-3)) hx hb dX12_tells_158 (by decide +kernel) ?_
        refine lv_goto (tgt := 169) hx hb dX12_tells_160 (by decide) ?_
        obtain rfl := Option.some.inj hE
        exact rt_i hx hb hr hP hS rfl hlocks dX12_tells_169
  have w131 : ∀ (y1 : Int32) (y4 : Int32) (t : mT) (s : mS) (y : mY) (d : mD) (k : mK) (m : mM) (H : Heap) (locs : List Loc) (ls : Array Slot), va_P D vwCl (wX g cA t s r c y d k q o m) H → va_D A (wX g cA t s r c y d k q o m) → va_S A S0.heap H locs → lv_has ls 6 [(0, .ref (g 0)), (1, .int y1), (4, .int y4)] → b_X12_tells_131  y1 y4 t s y d k m = some u → W PP l EE (headSpec wsX12_tells ({ frames := 3, cells := 0, slots := 0, locals := 61 })).room S0 MM (#[.ref (g 0), .int x1] : Array Value) below meth CC H locs 0 0 (MQ below (cQi D (wX g cA u.2.1 u.2.2.1 r c u.2.2.2.1 d u.2.2.2.2.1 q o u.2.2.2.2.2) A u.1) (#[.ref (g 0), .int x1] : Array Value) S0 0 0 A) (F0 MM 131 ls []) := by
    intro y1 y4 t s y d k m
    intro H locs ls hP hD hS hl hE
    unfold b_X12_tells_131 at hE
    refine lv_aload_n hx hb dX12_tells_131 rfl (lv_at hl 0 rfl) ?_
    refine lv_iload hx hb dX12_tells_132 (lv_at hl 2 rfl) ?_
    obtain ⟨u20, h21, hE⟩ := bd_some hE
    refine cw_i (As := [.int y4]) (rest := []) (r := u20) (wc := (wX g cA t s r c y d k q o m)) ⟨hx, hb, hml, hown, hts⟩ (c_X12_isWord l D cA g H.size y4 t s r c y d k q o m u20 h21) (cwV 1 hts hX12_tells_X12_isWord_323 rfl rfl rfl (by decide +kernel) ⟨Nat.le_of_ble_eq_true rfl, Nat.le_of_ble_eq_true rfl⟩) rfl hl.1 rfl (Nat.le_of_ble_eq_true rfl) dX12_tells_134 ⟨Nat.zero_le _, Nat.zero_le _⟩ hK hP hD hS hA (va_recv hK hP (ci := 10) (q0 := 0) rfl rfl) [g 0, g 1, g 2, g 3, g 4, g 5, g 6, g 7, g 8, g 9, g 10, g 11, g 12, g 13, g 14, g 15, g 16, g 17, g 18, g 19] rfl rfl (fun _ _ _ _ h => h) (fun _ _ _ => trivial) (fun H locs hP hD hS => ?_)
    have hP : va_P D vwCl (wX g cA t s r c y d k q o m) H := hP
    have hD : va_D A (wX g cA t s r c y d k q o m) := hD
    refine lv_if_ne (tgt := 143) hx hb dX12_tells_137 (by decide) (fun c22 => ?_) (fun c22 => ?_)
    · have hE := if_f c22 hE
      exact w143  y1 y4 t s y d k m H locs ls hP hD hS (lv_sub hl [0, 1, 2] rfl) hE
    · have hE := if_t c22 hE
      refine lv_bipush (v := (-9)) hx hb dX12_tells_140 (by decide +kernel) ?_
      obtain rfl := Option.some.inj hE
      exact rt_i hx hb hr hP hS rfl hlocks dX12_tells_142
  have w119 : ∀ (y1 : Int32) (y4 : Int32) (t : mT) (s : mS) (y : mY) (d : mD) (k : mK) (m : mM) (H : Heap) (locs : List Loc) (ls : Array Slot), va_P D vwCl (wX g cA t s r c y d k q o m) H → va_D A (wX g cA t s r c y d k q o m) → va_S A S0.heap H locs → lv_has ls 6 [(0, .ref (g 0)), (1, .int y1), (4, .int y4)] → b_X12_tells_119  y1 y4 t s y d k m = some u → W PP l EE (headSpec wsX12_tells ({ frames := 3, cells := 0, slots := 0, locals := 61 })).room S0 MM (#[.ref (g 0), .int x1] : Array Value) below meth CC H locs 0 0 (MQ below (cQi D (wX g cA u.2.1 u.2.2.1 r c u.2.2.2.1 d u.2.2.2.2.1 q o u.2.2.2.2.2) A u.1) (#[.ref (g 0), .int x1] : Array Value) S0 0 0 A) (F0 MM 119 ls []) := by
    intro y1 y4 t s y d k m
    intro H locs ls hP hD hS hl hE
    unfold b_X12_tells_119 at hE
    refine lv_iload_n hx hb dX12_tells_119 rfl (lv_at hl 1 rfl) ?_
    refine lv_bipush (v := 62) hx hb dX12_tells_120 (by decide +kernel) ?_
    refine lv_icmp_eq (tgt := 131) hx hb dX12_tells_122 (by decide) (fun c18 => ?_) (fun c18 => ?_)
    · have hE := if_t c18 hE
      exact w131  y1 y4 t s y d k m H locs ls hP hD hS (lv_sub hl [0, 1, 2] rfl) hE
    · have hE := if_f c18 hE
      refine lv_iload_n hx hb dX12_tells_125 rfl (lv_at hl 1 rfl) ?_
      refine lv_bipush (v := 63) hx hb dX12_tells_126 (by decide +kernel) ?_
      refine lv_icmp_ne (tgt := 143) hx hb dX12_tells_128 (by decide) (fun c19 => ?_) (fun c19 => ?_)
      · have hE := if_f c19 hE
        exact w143  y1 y4 t s y d k m H locs ls hP hD hS (lv_sub hl [0, 1, 2] rfl) hE
      · have hE := if_t c19 hE
        exact w131  y1 y4 t s y d k m H locs ls hP hD hS (lv_sub hl [0, 1, 2] rfl) hE
  have w105 : ∀ (y1 : Int32) (y2 : Int32) (z0 : Int32) (t : mT) (s : mS) (y : mY) (d : mD) (k : mK) (m : mM) (H : Heap) (locs : List Loc) (ls : Array Slot), va_P D vwCl (wX g cA t s r c y d k q o m) H → va_D A (wX g cA t s r c y d k q o m) → va_S A S0.heap H locs → lv_has ls 6 [(0, .ref (g 0)), (1, .int y1), (2, .int y2)] → b_X12_tells_105  y1 y2 z0 t s y d k m = some u → W PP l EE (headSpec wsX12_tells ({ frames := 3, cells := 0, slots := 0, locals := 61 })).room S0 MM (#[.ref (g 0), .int x1] : Array Value) below meth CC H locs 0 0 (MQ below (cQi D (wX g cA u.2.1 u.2.2.1 r c u.2.2.2.1 d u.2.2.2.2.1 q o u.2.2.2.2.2) A u.1) (#[.ref (g 0), .int x1] : Array Value) S0 0 0 A) (F0 MM 105 ls [.int z0]) := by
    intro y1 y2 z0 t s y d k m
    intro H locs ls hP hD hS hl hE
    unfold b_X12_tells_105 at hE
    refine lv_istore (lv' := [(4, .int z0), (0, .ref (g 0)), (1, .int y1), (2, .int y2)]) hx hb dX12_tells_105 hl (by decide) rfl (fun ls hl => ?_)
    refine lv_iload_n hx hb dX12_tells_107 rfl (lv_at hl 3 rfl) ?_
    refine lv_if_eq (tgt := 119) hx hb dX12_tells_108 (by decide) (fun c16 => ?_) (fun c16 => ?_)
    · have hE := if_t c16 hE
      exact w119  y1 z0 t s y d k m H locs ls hP hD hS (lv_sub hl [1, 2, 0] rfl) hE
    · have hE := if_f c16 hE
      refine lv_iload hx hb dX12_tells_111 (lv_at hl 0 rfl) ?_
      refine lv_if_ge (tgt := 119) hx hb dX12_tells_113 (by decide) (fun c17 => ?_) (fun c17 => ?_)
      · have hE := if_t c17 hE
        exact w119  y1 z0 t s y d k m H locs ls hP hD hS (lv_sub hl [1, 2, 0] rfl) hE
      · have hE := if_f c17 hE
        refine lv_bipush (v := (-13)) hx hb dX12_tells_116 (by decide +kernel) ?_
        obtain rfl := Option.some.inj hE
        exact rt_i hx hb hr hP hS rfl hlocks dX12_tells_118
  have w72 : ∀ (y1 : Int32) (y2 : Int32) (t : mT) (s : mS) (y : mY) (d : mD) (k : mK) (m : mM) (H : Heap) (locs : List Loc) (ls : Array Slot), va_P D vwCl (wX g cA t s r c y d k q o m) H → va_D A (wX g cA t s r c y d k q o m) → va_S A S0.heap H locs → lv_has ls 6 [(0, .ref (g 0)), (1, .int y1), (2, .int y2)] → b_X12_tells_72  y1 y2 t s y d k m = some u → W PP l EE (headSpec wsX12_tells ({ frames := 3, cells := 0, slots := 0, locals := 61 })).room S0 MM (#[.ref (g 0), .int x1] : Array Value) below meth CC H locs 0 0 (MQ below (cQi D (wX g cA u.2.1 u.2.2.1 r c u.2.2.2.1 d u.2.2.2.2.1 q o u.2.2.2.2.2) A u.1) (#[.ref (g 0), .int x1] : Array Value) S0 0 0 A) (F0 MM 72 ls []) := by
    intro y1 y2 t s y d k m
    intro H locs ls hP hD hS hl hE
    unfold b_X12_tells_72 at hE
    refine lv_aload_n hx hb dX12_tells_72 rfl (lv_at hl 0 rfl) ?_
    refine va_get (D := D) (ci := 10) (v := .ref (g 5)) (C := RX12) (T := TX12) (N := 40) hx hb hts inX12 hown hK hP 0 rfl rfl 8 (by decide) k2 (fun _ h9 => h9) rfl dX12_tells_73 ?_
    refine lv_aload_n hx hb dX12_tells_76 rfl (lv_at hl 0 rfl) ?_
    refine va_get (D := D) (ci := 10) (v := .int s.1) (C := RX12) (T := TX12) (N := 40) hx hb hts inX12 hown hK hP 0 rfl rfl 9 (by decide) k3 (fun _ h9 => h9) rfl dX12_tells_77 ?_
    refine lv_iconst (v := 1) hx hb dX12_tells_80 (by decide +kernel) ?_
    refine lv_isub hx hb dX12_tells_81 ?_
    have ⟨c15, hE⟩ := ck_some hE
    refine va_iald hx hb hK hP 5 0 rfl rfl c15 dX12_tells_82 ?_
    refine lv_goto (tgt := 105) hx hb dX12_tells_83 (by decide) ?_
    exact w105  y1 y2 (s.2 ((s.1 - 1).toNatClampNeg)) t s y d k m H locs ls hP hD hS (lv_sub hl [0, 1, 2] rfl) hE
  have w36 : ∀ (y1 : Int32) (y2 : Int32) (z0 : Int32) (t : mT) (s : mS) (y : mY) (d : mD) (k : mK) (m : mM) (H : Heap) (locs : List Loc) (ls : Array Slot), va_P D vwCl (wX g cA t s r c y d k q o m) H → va_D A (wX g cA t s r c y d k q o m) → va_S A S0.heap H locs → lv_has ls 6 [(0, .ref (g 0)), (1, .int y1), (2, .int y2)] → b_X12_tells_36  y1 y2 z0 t s y d k m = some u → W PP l EE (headSpec wsX12_tells ({ frames := 3, cells := 0, slots := 0, locals := 61 })).room S0 MM (#[.ref (g 0), .int x1] : Array Value) below meth CC H locs 0 0 (MQ below (cQi D (wX g cA u.2.1 u.2.2.1 r c u.2.2.2.1 d u.2.2.2.2.1 q o u.2.2.2.2.2) A u.1) (#[.ref (g 0), .int x1] : Array Value) S0 0 0 A) (F0 MM 36 ls [.int z0]) := by
    intro y1 y2 z0 t s y d k m
    intro H locs ls hP hD hS hl hE
    unfold b_X12_tells_36 at hE
    refine lv_istore_n (lv' := [(3, .int z0), (0, .ref (g 0)), (1, .int y1), (2, .int y2)]) hx hb dX12_tells_36 rfl hl (by decide) rfl (fun ls hl => ?_)
    refine lv_iload_n hx hb dX12_tells_37 rfl (lv_at hl 0 rfl) ?_
    refine lv_if_eq (tgt := 43) hx hb dX12_tells_38 (by decide) (fun c7 => ?_) (fun c7 => ?_)
    · have hE := if_t c7 hE
      refine lv_iload_n hx hb dX12_tells_43 rfl (lv_at hl 3 rfl) ?_
      refine lv_if_eq (tgt := 54) hx hb dX12_tells_44 (by decide) (fun c8 => ?_) (fun c8 => ?_)
      · have hE := if_t c8 hE
        refine lv_iload_n hx hb dX12_tells_54 rfl (lv_at hl 2 rfl) ?_
        refine lv_bipush (v := 62) hx hb dX12_tells_55 (by decide +kernel) ?_
        refine lv_icmp_eq (tgt := 72) hx hb dX12_tells_57 (by decide) (fun c9 => ?_) (fun c9 => ?_)
        · have hE := if_t c9 hE
          exact w72  y1 y2 t s y d k m H locs ls hP hD hS (lv_sub hl [1, 2, 3] rfl) hE
        · have hE := if_f c9 hE
          refine lv_iload_n hx hb dX12_tells_60 rfl (lv_at hl 2 rfl) ?_
          refine lv_bipush (v := 63) hx hb dX12_tells_61 (by decide +kernel) ?_
          refine lv_icmp_eq (tgt := 72) hx hb dX12_tells_63 (by decide) (fun c10 => ?_) (fun c10 => ?_)
          · have hE := if_t c10 hE
            exact w72  y1 y2 t s y d k m H locs ls hP hD hS (lv_sub hl [1, 2, 3] rfl) hE
          · have hE := if_f c10 hE
            refine lv_iload_n hx hb dX12_tells_66 rfl (lv_at hl 2 rfl) ?_
            refine lv_bipush (v := 64) hx hb dX12_tells_67 (by decide +kernel) ?_
            refine lv_icmp_ne (tgt := 86) hx hb dX12_tells_69 (by decide) (fun c11 => ?_) (fun c11 => ?_)
            · have hE := if_f c11 hE
              refine lv_iload_n hx hb dX12_tells_86 rfl (lv_at hl 2 rfl) ?_
              refine lv_bipush (v := 68) hx hb dX12_tells_87 (by decide +kernel) ?_
              refine lv_icmp_ne (tgt := 104) hx hb dX12_tells_89 (by decide) (fun c12 => ?_) (fun c12 => ?_)
              · have hE := if_f c12 hE
                refine lv_iconst (v := 0) hx hb dX12_tells_104 (by decide +kernel) ?_
                exact w105  y1 y2 0 t s y d k m H locs ls hP hD hS (lv_sub hl [1, 2, 3] rfl) hE
              · have hE := if_t c12 hE
                refine lv_bipush (v := 82) hx hb dX12_tells_92 (by decide +kernel) ?_
                refine lv_aload_n hx hb dX12_tells_94 rfl (lv_at hl 1 rfl) ?_
                refine va_get (D := D) (ci := 10) (v := .int d.1) (C := RX12) (T := TX12) (N := 40) hx hb hts inX12 hown hK hP 0 rfl rfl 25 (by decide) k0 (fun _ h9 => h9) rfl dX12_tells_95 ?_
                refine lv_iadd hx hb dX12_tells_98 ?_
                refine lv_iconst (v := 1) hx hb dX12_tells_99 (by decide +kernel) ?_
                refine lv_isub hx hb dX12_tells_100 ?_
                refine lv_goto (tgt := 105) hx hb dX12_tells_101 (by decide) ?_
                exact w105  y1 y2 ((82 + d.1) - 1) t s y d k m H locs ls hP hD hS (lv_sub hl [1, 2, 3] rfl) hE
            · have hE := if_t c11 hE
              exact w72  y1 y2 t s y d k m H locs ls hP hD hS (lv_sub hl [1, 2, 3] rfl) hE
      · have hE := if_f c8 hE
        refine lv_aload_n hx hb dX12_tells_47 rfl (lv_at hl 1 rfl) ?_
        obtain ⟨u13, h14, hE⟩ := bd_some hE
        refine cw_i (As := []) (rest := []) (r := u13) (wc := (wX g cA t s r c y d k q o m)) ⟨hx, hb, hml, hown, hts⟩ (c_X12_meaning l D cA g H.size t s r c y d k q o m u13 h14) (cwV 0 hts hX12_tells_X12_meaning_266 rfl rfl rfl (by decide +kernel) ⟨Nat.le_of_ble_eq_true rfl, Nat.le_of_ble_eq_true rfl⟩) rfl hl.1 rfl (Nat.le_of_ble_eq_true rfl) dX12_tells_48 ⟨Nat.zero_le _, Nat.zero_le _⟩ hK hP hD hS hA (va_recv hK hP (ci := 10) (q0 := 0) rfl rfl) [g 0, g 1, g 2, g 3, g 4, g 5, g 6, g 7, g 8, g 9, g 10, g 11, g 12, g 13, g 14, g 15, g 16, g 17, g 18, g 19] rfl rfl (fun _ _ _ _ h => h) (fun _ _ _ => trivial) (fun H locs hP hD hS => ?_)
        have hP : va_P D vwCl (wX g cA t s r c y d k q o m) H := hP
        have hD : va_D A (wX g cA t s r c y d k q o m) := hD
        refine lv_goto (tgt := 105) hx hb dX12_tells_51 (by decide) ?_
        exact w105  y1 y2 u13 t s y d k m H locs ls hP hD hS (lv_sub hl [1, 2, 3] rfl) hE
    · have hE := if_f c7 hE
      refine lv_iload_n hx hb dX12_tells_41 rfl (lv_at hl 0 rfl) ?_
      obtain rfl := Option.some.inj hE
      exact rt_i hx hb hr hP hS rfl hlocks dX12_tells_42
  have w23 : ∀ (y1 : Int32) (z0 : Int32) (t : mT) (s : mS) (y : mY) (d : mD) (k : mK) (m : mM) (H : Heap) (locs : List Loc) (ls : Array Slot), va_P D vwCl (wX g cA t s r c y d k q o m) H → va_D A (wX g cA t s r c y d k q o m) → va_S A S0.heap H locs → lv_has ls 6 [(0, .ref (g 0)), (1, .int y1)] → b_X12_tells_23  y1 z0 t s y d k m = some u → W PP l EE (headSpec wsX12_tells ({ frames := 3, cells := 0, slots := 0, locals := 61 })).room S0 MM (#[.ref (g 0), .int x1] : Array Value) below meth CC H locs 0 0 (MQ below (cQi D (wX g cA u.2.1 u.2.2.1 r c u.2.2.2.1 d u.2.2.2.2.1 q o u.2.2.2.2.2) A u.1) (#[.ref (g 0), .int x1] : Array Value) S0 0 0 A) (F0 MM 23 ls [.int z0]) := by
    intro y1 z0 t s y d k m
    intro H locs ls hP hD hS hl hE
    unfold b_X12_tells_23 at hE
    refine lv_istore_n (lv' := [(2, .int z0), (0, .ref (g 0)), (1, .int y1)]) hx hb dX12_tells_23 rfl hl (by decide) rfl (fun ls hl => ?_)
    refine lv_iload_n hx hb dX12_tells_24 rfl (lv_at hl 0 rfl) ?_
    refine lv_if_eq (tgt := 35) hx hb dX12_tells_25 (by decide) (fun c4 => ?_) (fun c4 => ?_)
    · have hE := if_t c4 hE
      refine lv_iconst (v := 0) hx hb dX12_tells_35 (by decide +kernel) ?_
      exact w36  y1 z0 0 t s y d k m H locs ls hP hD hS (lv_sub hl [1, 2, 0] rfl) hE
    · have hE := if_f c4 hE
      refine lv_aload_n hx hb dX12_tells_28 rfl (lv_at hl 1 rfl) ?_
      obtain ⟨u5, h6, hE⟩ := bd_some hE
      refine cw_i (As := []) (rest := []) (r := u5.1) (wc := (wX g cA t s r c y d k q o m)) ⟨hx, hb, hml, hown, hts⟩ (c_X12_parse l D cA g H.size t s r c y d k q o m u5 h6) (cwV 0 hts hX12_tells_X12_parse_419 rfl rfl rfl (by decide +kernel) ⟨Nat.le_of_ble_eq_true rfl, Nat.le_of_ble_eq_true rfl⟩) rfl hl.1 rfl (Nat.le_of_ble_eq_true rfl) dX12_tells_29 ⟨Nat.zero_le _, Nat.zero_le _⟩ hK hP hD hS hA (va_recv hK hP (ci := 10) (q0 := 0) rfl rfl) [g 0, g 1, g 2, g 3, g 4, g 5, g 6, g 7, g 8, g 9, g 10, g 11, g 12, g 13, g 14, g 15, g 16, g 17, g 18, g 19] rfl rfl (fun _ _ _ _ h => h) (fun _ _ _ => trivial) (fun H locs hP hD hS => ?_)
      have hP : va_P D vwCl (wX g cA u5.2 s r c y d k q o m) H := hP
      have hD : va_D A (wX g cA u5.2 s r c y d k q o m) := hD
      refine lv_goto (tgt := 36) hx hb dX12_tells_32 (by decide) ?_
      exact w36  y1 z0 u5.1 u5.2 s y d k m H locs ls hP hD hS (lv_sub hl [1, 2, 0] rfl) hE
  have w18 : ∀ (y1 : Int32) (t : mT) (s : mS) (y : mY) (d : mD) (k : mK) (m : mM) (H : Heap) (locs : List Loc) (ls : Array Slot), va_P D vwCl (wX g cA t s r c y d k q o m) H → va_D A (wX g cA t s r c y d k q o m) → va_S A S0.heap H locs → lv_has ls 6 [(0, .ref (g 0)), (1, .int y1)] → b_X12_tells_18  y1 t s y d k m = some u → W PP l EE (headSpec wsX12_tells ({ frames := 3, cells := 0, slots := 0, locals := 61 })).room S0 MM (#[.ref (g 0), .int x1] : Array Value) below meth CC H locs 0 0 (MQ below (cQi D (wX g cA u.2.1 u.2.2.1 r c u.2.2.2.1 d u.2.2.2.2.1 q o u.2.2.2.2.2) A u.1) (#[.ref (g 0), .int x1] : Array Value) S0 0 0 A) (F0 MM 18 ls []) := by
    intro y1 t s y d k m
    intro H locs ls hP hD hS hl hE
    unfold b_X12_tells_18 at hE
    refine lv_iconst (v := 1) hx hb dX12_tells_18 (by decide +kernel) ?_
    refine lv_goto (tgt := 23) hx hb dX12_tells_19 (by decide) ?_
    exact w23  y1 1 t s y d k m H locs ls hP hD hS (lv_sub hl [0, 1] rfl) hE
  unfold f_X12_tells at hE
  suffices main : ∀ (H : Heap) (locs : List Loc) (ls : Array Slot), va_P D vwCl (wX g cA t s r c y d k q o m) H → va_D A (wX g cA t s r c y d k q o m) → va_S A S0.heap H locs → lv_has ls 6 [(0, .ref (g 0)), (1, .int x1)] → W PP l EE (headSpec wsX12_tells ({ frames := 3, cells := 0, slots := 0, locals := 61 })).room S0 MM (#[.ref (g 0), .int x1] : Array Value) below meth CC H locs 0 0 (MQ below (cQi D (wX g cA u.2.1 u.2.2.1 r c u.2.2.2.1 d u.2.2.2.2.1 q o u.2.2.2.2.2) A u.1) (#[.ref (g 0), .int x1] : Array Value) S0 0 0 A) (F0 MM 0 ls []) from main _ _ _ hP hD hS hl
  intro H locs ls hP hD hS hl
  refine lv_iload_n hx hb dX12_tells_0 rfl (lv_at hl 1 rfl) ?_
  refine lv_bipush (v := 60) hx hb dX12_tells_1 (by decide +kernel) ?_
  refine lv_icmp_eq (tgt := 18) hx hb dX12_tells_3 (by decide) (fun c1 => ?_) (fun c1 => ?_)
  · have hE := if_t c1 hE
    exact w18  x1 t s y d k m H locs ls hP hD hS (lv_sub hl [0, 1] rfl) hE
  · have hE := if_f c1 hE
    refine lv_iload_n hx hb dX12_tells_6 rfl (lv_at hl 1 rfl) ?_
    refine lv_bipush (v := 61) hx hb dX12_tells_7 (by decide +kernel) ?_
    refine lv_icmp_eq (tgt := 18) hx hb dX12_tells_9 (by decide) (fun c2 => ?_) (fun c2 => ?_)
    · have hE := if_t c2 hE
      exact w18  x1 t s y d k m H locs ls hP hD hS (lv_sub hl [0, 1] rfl) hE
    · have hE := if_f c2 hE
      refine lv_iload_n hx hb dX12_tells_12 rfl (lv_at hl 1 rfl) ?_
      refine lv_bipush (v := 65) hx hb dX12_tells_13 (by decide +kernel) ?_
      refine lv_icmp_ne (tgt := 22) hx hb dX12_tells_15 (by decide) (fun c3 => ?_) (fun c3 => ?_)
      · have hE := if_f c3 hE
        refine lv_iconst (v := 0) hx hb dX12_tells_22 (by decide +kernel) ?_
        exact w23  x1 0 t s y d k m H locs ls hP hD hS (lv_sub hl [0, 1] rfl) hE
      · have hE := if_t c3 hE
        exact w18  x1 t s y d k m H locs ls hP hD hS (lv_sub hl [0, 1] rfl) hE
set_option maxHeartbeats 4000000 in
set_option maxRecDepth 100000 in
theorem c_X12_expected (l : Launch) (x0 : Int32) (sz : Nat) (u : Int32) (hE : f_X12_expected x0 = some u) : Met l yX12_expected wsX12_expected ({ frames := 0, cells := 0, slots := 0, locals := 0 }) (va_Pc [.int x0] (fun _ => True)) (va_Qi (fun (r0 : Int32) (_ : Unit) => r0 = u) (fun _ _ => True) (fun q => sz ≤ q)) 0 0 (fun q => sz ≤ q) := by
  refine Met.ofW (cc := cX12_expected) (maxL := 1) (ret := (some .int)) (by decide) rfl ?_
  intro PP EE S0 MM args below meth CC S1 B hml hv
  obtain ⟨rfl, hsz⟩ := hv
  have hx := B.exec
  have hb := B.bytes
  have hr := B.returns
  have hts := atoms_spec (ws := wsX12_expected) B.pre
  have hown : S0.vm.findClass RX12 = some MM.cls := findClass_of_methodNamed B.named
  have hlocks := B.notSynchronized
  have hl := lv_entry ([.int x0]) (n := 1) (Nat.le_of_ble_eq_true rfl)
  rw [lg_entry_eq]
  generalize (lg_sl ([.int x0]) ++ List.replicate (1 - (lg_sl ([.int x0])).length) Slot.unset).toArray = ls at hl ⊢
  have hl : lv_has ls 1 [(0, .int x0)] := hl
  have w12 : ∀ (ls : Array Slot), lv_has ls 1 [] → b_X12_expected_12   = some u → W PP l EE (headSpec wsX12_expected ({ frames := 0, cells := 0, slots := 0, locals := 0 })).room S0 MM (#[.int x0] : Array Value) below meth CC S0.heap [] 0 0 (MQ below (va_Qi (fun (r0 : Int32) (_ : Unit) => r0 = u) (fun _ _ => True) (fun q => sz ≤ q)) (#[.int x0] : Array Value) S0 0 0 (fun q => sz ≤ q)) (F0 MM 12 ls []) := by
    intro ls hl hE
    unfold b_X12_expected_12 at hE
    refine lv_iconst (v := 1) hx hb dX12_expected_12 (by decide +kernel) ?_
    refine lv_goto (tgt := 59) hx hb dX12_expected_13 (by decide) ?_
    obtain rfl := Option.some.inj hE
    exact rs_j hx hb hr rfl rfl rfl hlocks dX12_expected_59
  have w28 : ∀ (ls : Array Slot), lv_has ls 1 [] → b_X12_expected_28   = some u → W PP l EE (headSpec wsX12_expected ({ frames := 0, cells := 0, slots := 0, locals := 0 })).room S0 MM (#[.int x0] : Array Value) below meth CC S0.heap [] 0 0 (MQ below (va_Qi (fun (r0 : Int32) (_ : Unit) => r0 = u) (fun _ _ => True) (fun q => sz ≤ q)) (#[.int x0] : Array Value) S0 0 0 (fun q => sz ≤ q)) (F0 MM 28 ls []) := by
    intro ls hl hE
    unfold b_X12_expected_28 at hE
    refine lv_iconst (v := 2) hx hb dX12_expected_28 (by decide +kernel) ?_
    refine lv_goto (tgt := 59) hx hb dX12_expected_29 (by decide) ?_
    obtain rfl := Option.some.inj hE
    exact rs_j hx hb hr rfl rfl rfl hlocks dX12_expected_59
  have w54 : ∀ (ls : Array Slot), lv_has ls 1 [] → b_X12_expected_54   = some u → W PP l EE (headSpec wsX12_expected ({ frames := 0, cells := 0, slots := 0, locals := 0 })).room S0 MM (#[.int x0] : Array Value) below meth CC S0.heap [] 0 0 (MQ below (va_Qi (fun (r0 : Int32) (_ : Unit) => r0 = u) (fun _ _ => True) (fun q => sz ≤ q)) (#[.int x0] : Array Value) S0 0 0 (fun q => sz ≤ q)) (F0 MM 54 ls []) := by
    intro ls hl hE
    unfold b_X12_expected_54 at hE
    refine lv_iconst (v := 4) hx hb dX12_expected_54 (by decide +kernel) ?_
    refine lv_goto (tgt := 59) hx hb dX12_expected_55 (by decide) ?_
    obtain rfl := Option.some.inj hE
    exact rs_j hx hb hr rfl rfl rfl hlocks dX12_expected_59
  unfold f_X12_expected at hE
  refine lv_iload_n hx hb dX12_expected_0 rfl (lv_at hl 0 rfl) ?_
  refine lv_bipush (v := 70) hx hb dX12_expected_1 (by decide +kernel) ?_
  refine lv_icmp_eq (tgt := 12) hx hb dX12_expected_3 (by decide) (fun c1 => ?_) (fun c1 => ?_)
  · have hE := if_t c1 hE
    exact w12   ls (lv_sub hl [] rfl) hE
  · have hE := if_f c1 hE
    refine lv_iload_n hx hb dX12_expected_6 rfl (lv_at hl 0 rfl) ?_
    refine lv_bipush (v := 71) hx hb dX12_expected_7 (by decide +kernel) ?_
    refine lv_icmp_ne (tgt := 16) hx hb dX12_expected_9 (by decide) (fun c2 => ?_) (fun c2 => ?_)
    · have hE := if_f c2 hE
      refine lv_iload_n hx hb dX12_expected_16 rfl (lv_at hl 0 rfl) ?_
      refine lv_bipush (v := 73) hx hb dX12_expected_17 (by decide +kernel) ?_
      refine lv_icmp_eq (tgt := 28) hx hb dX12_expected_19 (by decide) (fun c3 => ?_) (fun c3 => ?_)
      · have hE := if_t c3 hE
        exact w28   ls (lv_sub hl [] rfl) hE
      · have hE := if_f c3 hE
        refine lv_iload_n hx hb dX12_expected_22 rfl (lv_at hl 0 rfl) ?_
        refine lv_bipush (v := 74) hx hb dX12_expected_23 (by decide +kernel) ?_
        refine lv_icmp_ne (tgt := 32) hx hb dX12_expected_25 (by decide) (fun c4 => ?_) (fun c4 => ?_)
        · have hE := if_f c4 hE
          refine lv_iload_n hx hb dX12_expected_32 rfl (lv_at hl 0 rfl) ?_
          refine lv_bipush (v := 75) hx hb dX12_expected_33 (by decide +kernel) ?_
          refine lv_icmp_ne (tgt := 42) hx hb dX12_expected_35 (by decide) (fun c5 => ?_) (fun c5 => ?_)
          · have hE := if_f c5 hE
            refine lv_iload_n hx hb dX12_expected_42 rfl (lv_at hl 0 rfl) ?_
            refine lv_bipush (v := 77) hx hb dX12_expected_43 (by decide +kernel) ?_
            refine lv_icmp_eq (tgt := 54) hx hb dX12_expected_45 (by decide) (fun c6 => ?_) (fun c6 => ?_)
            · have hE := if_t c6 hE
              exact w54   ls (lv_sub hl [] rfl) hE
            · have hE := if_f c6 hE
              refine lv_iload_n hx hb dX12_expected_48 rfl (lv_at hl 0 rfl) ?_
              refine lv_bipush (v := 78) hx hb dX12_expected_49 (by decide +kernel) ?_
              refine lv_icmp_ne (tgt := 58) hx hb dX12_expected_51 (by decide) (fun c7 => ?_) (fun c7 => ?_)
              · have hE := if_f c7 hE
                refine lv_iconst (v := 0) hx hb dX12_expected_58 (by decide +kernel) ?_
                obtain rfl := Option.some.inj hE
                exact rs_j hx hb hr rfl rfl rfl hlocks dX12_expected_59
              · have hE := if_t c7 hE
                exact w54   ls (lv_sub hl [] rfl) hE
          · have hE := if_t c5 hE
            refine lv_iconst (v := 3) hx hb dX12_expected_38 (by decide +kernel) ?_
            refine lv_goto (tgt := 59) hx hb dX12_expected_39 (by decide) ?_
            obtain rfl := Option.some.inj hE
            exact rs_j hx hb hr rfl rfl rfl hlocks dX12_expected_59
        · have hE := if_t c4 hE
          exact w28   ls (lv_sub hl [] rfl) hE
    · have hE := if_t c2 hE
      exact w12   ls (lv_sub hl [] rfl) hE
set_option maxHeartbeats 4000000 in
set_option maxRecDepth 100000 in
theorem c_X12_isOpen (l : Launch) (D : va_G) (cA : Nat → ClassId) (g : Nat → Nat) (sz : Nat) (x1 : Int32) (t : mT) (s : mS) (r : mR) (c : mC) (y : mY) (d : mD) (k : mK) (q : mP) (o : mO) (m : mM) (u : Int32) (hE : f_X12_isOpen x1 q = some u) : Met l yX12_isOpen wsX12_isOpen ({ frames := 0, cells := 0, slots := 0, locals := 0 }) (va_Pc [.ref (g 0), .int x1] (PRE D cA (wX g cA t s r c y d k q o m) sz (fun _ => True))) (cQi D (wX g cA t s r c y d k q o m) (va_A (wX g cA t s r c y d k q o m) sz) u) 0 0 (va_A (wX g cA t s r c y d k q o m) sz) := by
  refine Met.ofW (cc := cX12_isOpen) (maxL := 2) (ret := (some .boolean)) (by decide) rfl ?_
  intro PP EE S0 MM args below meth CC S1 B hml hv
  obtain ⟨rfl, hsz, hP, hK, hD0, hX⟩ := hv
  have hx := B.exec
  have hb := B.bytes
  have hr := B.returns
  have hts := atoms_spec (ws := wsX12_isOpen) B.pre
  have hown : S0.vm.findClass RX12 = some MM.cls := findClass_of_methodNamed B.named
  have hlocks := B.notSynchronized
  subst hsz
  have hD := hD0.self (sz := S0.heap.size)
  generalize hAe : va_A (wX g cA t s r c y d k q o m) S0.heap.size = A at hD ⊢
  have hA : ∀ q : Nat, S0.heap.size ≤ q → A q := fun q h => by rw [← hAe]; exact Or.inr h
  have hS : va_S A S0.heap S0.heap [] := va_S.rf
  have k0 := hts (.fieldLink RX12 338 "WordForgeModel" "opens" "I") (List.mem_of_getElem? (i := 1) rfl)
  have inX12 : ∀ w ∈ wsX120, w ∈ wsX12_isOpen := fun _ h => List.mem_cons_of_mem _ (List.mem_append_right _ h)
  have k2 := hts (.fieldLink RX12 209 "WordForgeModel" "openSort" "[I") (List.mem_of_getElem? (i := 2) rfl)
  have hl := lv_entry ([.ref (g 0), .int x1]) (n := 2) (Nat.le_of_ble_eq_true rfl)
  rw [lg_entry_eq]
  generalize (lg_sl ([.ref (g 0), .int x1]) ++ List.replicate (2 - (lg_sl ([.ref (g 0), .int x1])).length) Slot.unset).toArray = ls at hl ⊢
  have hl : lv_has ls 2 [(0, .ref (g 0)), (1, .int x1)] := hl
  unfold f_X12_isOpen at hE
  suffices main : ∀ (H : Heap) (locs : List Loc) (ls : Array Slot), va_P D vwCl (wX g cA t s r c y d k q o m) H → va_D A (wX g cA t s r c y d k q o m) → va_S A S0.heap H locs → lv_has ls 2 [(0, .ref (g 0)), (1, .int x1)] → W PP l EE (headSpec wsX12_isOpen ({ frames := 0, cells := 0, slots := 0, locals := 0 })).room S0 MM (#[.ref (g 0), .int x1] : Array Value) below meth CC H locs 0 0 (MQ below (cQi D (wX g cA t s r c y d k q o m) A u) (#[.ref (g 0), .int x1] : Array Value) S0 0 0 A) (F0 MM 0 ls []) from main _ _ _ hP hD hS hl
  intro H locs ls hP hD hS hl
  refine lv_aload_n hx hb dX12_isOpen_0 rfl (lv_at hl 0 rfl) ?_
  refine va_get (D := D) (ci := 10) (v := .int q.1) (C := RX12) (T := TX12) (N := 40) hx hb hts inX12 hown hK hP 0 rfl rfl 31 (by decide) k0 (fun _ h9 => h9) rfl dX12_isOpen_1 ?_
  refine lv_if_le (tgt := 26) hx hb dX12_isOpen_4 (by decide) (fun c1 => ?_) (fun c1 => ?_)
  · have hE := if_t c1 hE
    refine lv_iconst (v := 0) hx hb dX12_isOpen_26 (by decide +kernel) ?_
    obtain rfl := Option.some.inj hE
    exact rt_n hx hb hr (by decide +kernel) hP hS rfl hlocks dX12_isOpen_27
  · have hE := if_f c1 hE
    refine lv_aload_n hx hb dX12_isOpen_7 rfl (lv_at hl 0 rfl) ?_
    refine va_get (D := D) (ci := 10) (v := .ref (g 18)) (C := RX12) (T := TX12) (N := 40) hx hb hts inX12 hown hK hP 0 rfl rfl 29 (by decide) k2 (fun _ h9 => h9) rfl dX12_isOpen_8 ?_
    refine lv_aload_n hx hb dX12_isOpen_11 rfl (lv_at hl 0 rfl) ?_
    refine va_get (D := D) (ci := 10) (v := .int q.1) (C := RX12) (T := TX12) (N := 40) hx hb hts inX12 hown hK hP 0 rfl rfl 31 (by decide) k0 (fun _ h9 => h9) rfl dX12_isOpen_12 ?_
    refine lv_iconst (v := 1) hx hb dX12_isOpen_15 (by decide +kernel) ?_
    refine lv_isub hx hb dX12_isOpen_16 ?_
    have ⟨c2, hE⟩ := ck_some hE
    refine va_iald hx hb hK hP 18 0 rfl rfl c2 dX12_isOpen_17 ?_
    refine lv_iload_n hx hb dX12_isOpen_18 rfl (lv_at hl 1 rfl) ?_
    refine lv_icmp_ne (tgt := 26) hx hb dX12_isOpen_19 (by decide) (fun c3 => ?_) (fun c3 => ?_)
    · have hE := if_f c3 hE
      refine lv_iconst (v := 0) hx hb dX12_isOpen_26 (by decide +kernel) ?_
      obtain rfl := Option.some.inj hE
      exact rt_n hx hb hr (by decide +kernel) hP hS rfl hlocks dX12_isOpen_27
    · have hE := if_t c3 hE
      refine lv_iconst (v := 1) hx hb dX12_isOpen_22 (by decide +kernel) ?_
      refine lv_goto (tgt := 27) hx hb dX12_isOpen_23 (by decide) ?_
      obtain rfl := Option.some.inj hE
      exact rt_n hx hb hr (by decide +kernel) hP hS rfl hlocks dX12_isOpen_27
set_option maxHeartbeats 4000000 in
set_option maxRecDepth 100000 in
theorem c_X12_open (l : Launch) (D : va_G) (cA : Nat → ClassId) (g : Nat → Nat) (sz : Nat) (x1 : Int32) (x2 : Int32) (t : mT) (s : mS) (r : mR) (c : mC) (y : mY) (d : mD) (k : mK) (q : mP) (o : mO) (m : mM) (u : Int32 × mP) (hE : f_X12_open x1 x2 q = some u) : Met l yX12_open wsX12_open ({ frames := 0, cells := 0, slots := 0, locals := 0 }) (va_Pc [.ref (g 0), .int x1, .int x2] (PRE D cA (wX g cA t s r c y d k q o m) sz (fun _ => True))) (cQi D (wX g cA t s r c y d k u.2 o m) (va_A (wX g cA t s r c y d k q o m) sz) u.1) 0 0 (va_A (wX g cA t s r c y d k q o m) sz) := by
  refine Met.ofW (cc := cX12_open) (maxL := 3) (ret := (some .int)) (by decide) rfl ?_
  intro PP EE S0 MM args below meth CC S1 B hml hv
  obtain ⟨rfl, hsz, hP, hK, hD0, hX⟩ := hv
  have hx := B.exec
  have hb := B.bytes
  have hr := B.returns
  have hts := atoms_spec (ws := wsX12_open) B.pre
  have hown : S0.vm.findClass RX12 = some MM.cls := findClass_of_methodNamed B.named
  have hlocks := B.notSynchronized
  subst hsz
  have hD := hD0.self (sz := S0.heap.size)
  generalize hAe : va_A (wX g cA t s r c y d k q o m) S0.heap.size = A at hD ⊢
  have hA : ∀ q : Nat, S0.heap.size ≤ q → A q := fun q h => by rw [← hAe]; exact Or.inr h
  have hS : va_S A S0.heap S0.heap [] := va_S.rf
  have k0 := hts (.fieldLink RX12 209 "WordForgeModel" "openSort" "[I") (List.mem_of_getElem? (i := 1) rfl)
  have inX12 : ∀ w ∈ wsX120, w ∈ wsX12_open := fun _ h => List.mem_cons_of_mem _ (List.mem_append_right _ h)
  have k2 := hts (.fieldLink RX12 338 "WordForgeModel" "opens" "I") (List.mem_of_getElem? (i := 2) rfl)
  have k3 := hts (.fieldLink RX12 212 "WordForgeModel" "openAt" "[I") (List.mem_of_getElem? (i := 3) rfl)
  have hl := lv_entry ([.ref (g 0), .int x1, .int x2]) (n := 3) (Nat.le_of_ble_eq_true rfl)
  rw [lg_entry_eq]
  generalize (lg_sl ([.ref (g 0), .int x1, .int x2]) ++ List.replicate (3 - (lg_sl ([.ref (g 0), .int x1, .int x2])).length) Slot.unset).toArray = ls at hl ⊢
  have hl : lv_has ls 3 [(0, .ref (g 0)), (1, .int x1), (2, .int x2)] := hl
  unfold f_X12_open at hE
  suffices main : ∀ (H : Heap) (locs : List Loc) (ls : Array Slot), va_P D vwCl (wX g cA t s r c y d k q o m) H → va_D A (wX g cA t s r c y d k q o m) → va_S A S0.heap H locs → lv_has ls 3 [(0, .ref (g 0)), (1, .int x1), (2, .int x2)] → W PP l EE (headSpec wsX12_open ({ frames := 0, cells := 0, slots := 0, locals := 0 })).room S0 MM (#[.ref (g 0), .int x1, .int x2] : Array Value) below meth CC H locs 0 0 (MQ below (cQi D (wX g cA t s r c y d k u.2 o m) A u.1) (#[.ref (g 0), .int x1, .int x2] : Array Value) S0 0 0 A) (F0 MM 0 ls []) from main _ _ _ hP hD hS hl
  intro H locs ls hP hD hS hl
  refine lv_aload_n hx hb dX12_open_0 rfl (lv_at hl 0 rfl) ?_
  refine va_get (D := D) (ci := 10) (v := .ref (g 18)) (C := RX12) (T := TX12) (N := 40) hx hb hts inX12 hown hK hP 0 rfl rfl 29 (by decide) k0 (fun _ h9 => h9) rfl dX12_open_1 ?_
  refine lv_aload_n hx hb dX12_open_4 rfl (lv_at hl 0 rfl) ?_
  refine va_get (D := D) (ci := 10) (v := .int q.1) (C := RX12) (T := TX12) (N := 40) hx hb hts inX12 hown hK hP 0 rfl rfl 31 (by decide) k2 (fun _ h9 => h9) rfl dX12_open_5 ?_
  refine lv_iload_n hx hb dX12_open_8 rfl (lv_at hl 1 rfl) ?_
  have ⟨c1, hE⟩ := ck_some hE
  refine va_iast hx hb hK hP hD hS 18 0 rfl rfl c1 dX12_open_9 (fun H locs hP hD hS => ?_)
  have hP : va_P D vwCl (wX g cA t s r c y d k ((q.1, upd q.2.1 q.1.toNatClampNeg x1, q.2.2)) o m) H := hP
  have hD : va_D A (wX g cA t s r c y d k ((q.1, upd q.2.1 q.1.toNatClampNeg x1, q.2.2)) o m) := hD
  refine lv_aload_n hx hb dX12_open_10 rfl (lv_at hl 0 rfl) ?_
  refine va_get (D := D) (ci := 10) (v := .ref (g 19)) (C := RX12) (T := TX12) (N := 40) hx hb hts inX12 hown hK hP 0 rfl rfl 30 (by decide) k3 (fun _ h9 => h9) rfl dX12_open_11 ?_
  refine lv_aload_n hx hb dX12_open_14 rfl (lv_at hl 0 rfl) ?_
  refine va_get (D := D) (ci := 10) (v := .int q.1) (C := RX12) (T := TX12) (N := 40) hx hb hts inX12 hown hK hP 0 rfl rfl 31 (by decide) k2 (fun _ h9 => h9) rfl dX12_open_15 ?_
  refine lv_iload_n hx hb dX12_open_18 rfl (lv_at hl 2 rfl) ?_
  have ⟨c2, hE⟩ := ck_some hE
  refine va_iast hx hb hK hP hD hS 19 0 rfl rfl c2 dX12_open_19 (fun H locs hP hD hS => ?_)
  have hP : va_P D vwCl (wX g cA t s r c y d k ((q.1, upd q.2.1 q.1.toNatClampNeg x1, upd q.2.2 q.1.toNatClampNeg x2)) o m) H := hP
  have hD : va_D A (wX g cA t s r c y d k ((q.1, upd q.2.1 q.1.toNatClampNeg x1, upd q.2.2 q.1.toNatClampNeg x2)) o m) := hD
  refine lv_aload_n hx hb dX12_open_20 rfl (lv_at hl 0 rfl) ?_
  refine lv_dup hx hb dX12_open_21 rfl ?_
  refine va_get (D := D) (ci := 10) (v := .int q.1) (C := RX12) (T := TX12) (N := 40) hx hb hts inX12 hown hK hP 0 rfl rfl 31 (by decide) k2 (fun _ h9 => h9) rfl dX12_open_22 ?_
  refine lv_iconst (v := 1) hx hb dX12_open_25 (by decide +kernel) ?_
  refine lv_iadd hx hb dX12_open_26 ?_
  refine va_put (D := D) (ci := 10) (v := .int (q.1 + 1)) (ty := .int) (C := RX12) (T := TX12) (N := 40) hx hb hts inX12 tyX12 tyX12_ok nmX12 hown hK hP hD hS 0 rfl rfl 31 (by decide) k2 (fun _ h9 => h9) rfl (by decide +kernel) rfl rfl (Nat.le_of_ble_eq_true rfl) dX12_open_27 (fun H locs hP hD hS => ?_)
  have hP : va_P D vwCl (wX g cA t s r c y d k ((q.1 + 1, upd q.2.1 q.1.toNatClampNeg x1, upd q.2.2 q.1.toNatClampNeg x2)) o m) H := hP
  have hD : va_D A (wX g cA t s r c y d k ((q.1 + 1, upd q.2.1 q.1.toNatClampNeg x1, upd q.2.2 q.1.toNatClampNeg x2)) o m) := hD
  refine lv_iconst (v := 0) hx hb dX12_open_30 (by decide +kernel) ?_
  obtain rfl := Option.some.inj hE
  exact rt_i hx hb hr hP hS rfl hlocks dX12_open_31
set_option maxRecDepth 20000 in
theorem hX12_hole_X12_append_279 : GoodIn wsX12_hole (wsV RX12 279 RX12 yX12_append wsX12_append) := goodIn_r _ [2, 3, 4, 5, 6, 7, 1, 15, 16, 17, 18, 19, 20, 21, 22, 23, 24, 25, 26, 27, 28, 29, 30, 31, 32, 33, 34, 35, 36, 37, 38, 39, 40, 41, 42, 43, 44, 45, 46, 47, 48, 49, 50, 51, 52, 53, 54] rfl (by decide +kernel)
set_option maxRecDepth 20000 in
theorem hX12_hole_X12_open_431 : GoodIn wsX12_hole (wsV RX12 431 RX12 yX12_open wsX12_open) := goodIn_r _ [8, 9, 10, 5, 11, 12, 13, 14, 15, 16, 17, 18, 19, 20, 21, 22, 23, 24, 25, 26, 27, 28, 29, 30, 31, 32, 33, 34, 35, 36, 37, 38, 39, 40, 41, 42, 43, 44, 45, 46, 47, 48, 49, 50, 51, 52, 53, 54] rfl (by decide +kernel)
set_option maxHeartbeats 4000000 in
set_option maxRecDepth 100000 in
theorem c_X12_hole (l : Launch) (D : va_G) (cA : Nat → ClassId) (g : Nat → Nat) (sz : Nat) (x1 : Int32) (x2 : Int32) (t : mT) (s : mS) (r : mR) (c : mC) (y : mY) (d : mD) (k : mK) (q : mP) (o : mO) (m : mM) (u : Int32 × mY × mP) (hE : f_X12_hole x1 x2 y q = some u) : Met l yX12_hole wsX12_hole ({ frames := 1, cells := 0, slots := 0, locals := 22 }) (va_Pc [.ref (g 0), .int x1, .int x2] (PRE D cA (wX g cA t s r c y d k q o m) sz (fun _ => True))) (cQi D (wX g cA t s r c u.2.1 d k u.2.2 o m) (va_A (wX g cA t s r c y d k q o m) sz) u.1) 0 0 (va_A (wX g cA t s r c y d k q o m) sz) := by
  refine Met.ofW (cc := cX12_hole) (maxL := 3) (ret := (some .int)) (by decide) rfl ?_
  intro PP EE S0 MM args below meth CC S1 B hml hv
  obtain ⟨rfl, hsz, hP, hK, hD0, hX⟩ := hv
  have hx := B.exec
  have hb := B.bytes
  have hr := B.returns
  have hts := atoms_spec (ws := wsX12_hole) B.pre
  have hown : S0.vm.findClass RX12 = some MM.cls := findClass_of_methodNamed B.named
  have hlocks := B.notSynchronized
  subst hsz
  have hD := hD0.self (sz := S0.heap.size)
  generalize hAe : va_A (wX g cA t s r c y d k q o m) S0.heap.size = A at hD ⊢
  have hA : ∀ q : Nat, S0.heap.size ≤ q → A q := fun q h => by rw [← hAe]; exact Or.inr h
  have hS : va_S A S0.heap S0.heap [] := va_S.rf
  have k0 := hts (.fieldLink RX12 276 "WordForgeModel" "here" "I") (List.mem_of_getElem? (i := 1) rfl)
  have inX12 : ∀ w ∈ wsX120, w ∈ wsX12_hole := fun _ h => List.mem_cons_of_mem _ (List.mem_append_right _ h)
  have hl := lv_entry ([.ref (g 0), .int x1, .int x2]) (n := 3) (Nat.le_of_ble_eq_true rfl)
  rw [lg_entry_eq]
  generalize (lg_sl ([.ref (g 0), .int x1, .int x2]) ++ List.replicate (3 - (lg_sl ([.ref (g 0), .int x1, .int x2])).length) Slot.unset).toArray = ls at hl ⊢
  have hl : lv_has ls 3 [(0, .ref (g 0)), (1, .int x1), (2, .int x2)] := hl
  unfold f_X12_hole at hE
  suffices main : ∀ (H : Heap) (locs : List Loc) (ls : Array Slot), va_P D vwCl (wX g cA t s r c y d k q o m) H → va_D A (wX g cA t s r c y d k q o m) → va_S A S0.heap H locs → lv_has ls 3 [(0, .ref (g 0)), (1, .int x1), (2, .int x2)] → W PP l EE (headSpec wsX12_hole ({ frames := 1, cells := 0, slots := 0, locals := 22 })).room S0 MM (#[.ref (g 0), .int x1, .int x2] : Array Value) below meth CC H locs 0 0 (MQ below (cQi D (wX g cA t s r c u.2.1 d k u.2.2 o m) A u.1) (#[.ref (g 0), .int x1, .int x2] : Array Value) S0 0 0 A) (F0 MM 0 ls []) from main _ _ _ hP hD hS hl
  intro H locs ls hP hD hS hl
  refine lv_aload_n hx hb dX12_hole_0 rfl (lv_at hl 0 rfl) ?_
  refine lv_iload_n hx hb dX12_hole_1 rfl (lv_at hl 1 rfl) ?_
  obtain ⟨u1, h2, hE⟩ := bd_some hE
  refine cw_i (As := [.int x1]) (rest := []) (r := u1.1) (wc := (wX g cA t s r c y d k q o m)) ⟨hx, hb, hml, hown, hts⟩ (c_X12_append l D cA g H.size x1 t s r c y d k q o m u1 h2) (cwV 1 hts hX12_hole_X12_append_279 rfl rfl rfl (by decide +kernel) ⟨Nat.le_of_ble_eq_true rfl, Nat.le_of_ble_eq_true rfl⟩) rfl hl.1 rfl (Nat.le_of_ble_eq_true rfl) dX12_hole_2 ⟨Nat.zero_le _, Nat.zero_le _⟩ hK hP hD hS hA (va_recv hK hP (ci := 10) (q0 := 0) rfl rfl) [g 0, g 1, g 2, g 3, g 4, g 5, g 6, g 7, g 8, g 9, g 10, g 11, g 12, g 13, g 14, g 15, g 16, g 17, g 18, g 19] rfl rfl (fun _ _ _ _ h => h) (fun _ _ _ => trivial) (fun H locs hP hD hS => ?_)
  have hP : va_P D vwCl (wX g cA t s r c u1.2 d k q o m) H := hP
  have hD : va_D A (wX g cA t s r c u1.2 d k q o m) := hD
  refine lv_pop hx hb dX12_hole_5 rfl ?_
  refine lv_aload_n hx hb dX12_hole_6 rfl (lv_at hl 0 rfl) ?_
  refine lv_iconst (v := 0) hx hb dX12_hole_7 (by decide +kernel) ?_
  obtain ⟨u3, h4, hE⟩ := bd_some hE
  refine cw_i (As := [.int 0]) (rest := []) (r := u3.1) (wc := (wX g cA t s r c u1.2 d k q o m)) ⟨hx, hb, hml, hown, hts⟩ (c_X12_append l D cA g H.size 0 t s r c u1.2 d k q o m u3 h4) (cwV 1 hts hX12_hole_X12_append_279 rfl rfl rfl (by decide +kernel) ⟨Nat.le_of_ble_eq_true rfl, Nat.le_of_ble_eq_true rfl⟩) rfl hl.1 rfl (Nat.le_of_ble_eq_true rfl) dX12_hole_8 ⟨Nat.zero_le _, Nat.zero_le _⟩ hK hP hD hS hA (va_recv hK hP (ci := 10) (q0 := 0) rfl rfl) [g 0, g 1, g 2, g 3, g 4, g 5, g 6, g 7, g 8, g 9, g 10, g 11, g 12, g 13, g 14, g 15, g 16, g 17, g 18, g 19] rfl rfl (fun _ _ _ _ h => h) (fun _ _ _ => trivial) (fun H locs hP hD hS => ?_)
  have hP : va_P D vwCl (wX g cA t s r c u3.2 d k q o m) H := hP
  have hD : va_D A (wX g cA t s r c u3.2 d k q o m) := hD
  refine lv_pop hx hb dX12_hole_11 rfl ?_
  refine lv_aload_n hx hb dX12_hole_12 rfl (lv_at hl 0 rfl) ?_
  refine lv_iload_n hx hb dX12_hole_13 rfl (lv_at hl 2 rfl) ?_
  refine lv_aload_n hx hb dX12_hole_14 rfl (lv_at hl 0 rfl) ?_
  refine va_get (D := D) (ci := 10) (v := .int u3.2.1) (C := RX12) (T := TX12) (N := 40) hx hb hts inX12 hown hK hP 0 rfl rfl 17 (by decide) k0 (fun _ h9 => h9) rfl dX12_hole_15 ?_
  refine lv_iconst (v := 1) hx hb dX12_hole_18 (by decide +kernel) ?_
  refine lv_isub hx hb dX12_hole_19 ?_
  obtain ⟨u5, h6, hE⟩ := bd_some hE
  refine cw_i (As := [.int x2, .int (u3.2.1 - 1)]) (rest := []) (r := u5.1) (wc := (wX g cA t s r c u3.2 d k q o m)) ⟨hx, hb, hml, hown, hts⟩ (c_X12_open l D cA g H.size x2 (u3.2.1 - 1) t s r c u3.2 d k q o m u5 h6) (cwV 2 hts hX12_hole_X12_open_431 rfl rfl rfl (by decide +kernel) ⟨Nat.le_of_ble_eq_true rfl, Nat.le_of_ble_eq_true rfl⟩) rfl hl.1 rfl (Nat.le_of_ble_eq_true rfl) dX12_hole_20 ⟨Nat.zero_le _, Nat.zero_le _⟩ hK hP hD hS hA (va_recv hK hP (ci := 10) (q0 := 0) rfl rfl) [g 0, g 1, g 2, g 3, g 4, g 5, g 6, g 7, g 8, g 9, g 10, g 11, g 12, g 13, g 14, g 15, g 16, g 17, g 18, g 19] rfl rfl (fun _ _ _ _ h => h) (fun _ _ _ => trivial) (fun H locs hP hD hS => ?_)
  have hP : va_P D vwCl (wX g cA t s r c u3.2 d k u5.2 o m) H := hP
  have hD : va_D A (wX g cA t s r c u3.2 d k u5.2 o m) := hD
  obtain rfl := Option.some.inj hE
  exact rt_i hx hb hr hP hS rfl hlocks dX12_hole_23
set_option maxRecDepth 20000 in
theorem hX12_shapes_X12_expected_422 : GoodIn wsX12_shapes (wsS RX12 422 yX12_expected wsX12_expected) := goodIn_r _ [5, 6, 7, 8] rfl (by decide +kernel)
set_option maxRecDepth 20000 in
theorem hX12_shapes_X12_isOpen_425 : GoodIn wsX12_shapes (wsV RX12 425 RX12 yX12_isOpen wsX12_isOpen) := goodIn_r _ [9, 10, 11, 7, 12, 1, 13, 26, 27, 28, 29, 30, 31, 32, 33, 34, 35, 36, 37, 38, 39, 40, 41, 42, 43, 44, 45, 46, 47, 48, 49, 50, 51, 52, 53, 54, 55, 56, 57, 58, 59, 60, 61, 62, 63, 64, 65] rfl (by decide +kernel)
set_option maxRecDepth 20000 in
theorem hX12_shapes_X12_hole_428 : GoodIn wsX12_shapes (wsV RX12 428 RX12 yX12_hole wsX12_hole) := goodIn_r _ [14, 15, 16, 7, 17, 2, 18, 19, 20, 7, 21, 4, 22, 23, 24, 25, 13, 1, 3, 26, 27, 28, 29, 30, 31, 32, 33, 34, 35, 36, 37, 38, 39, 40, 41, 42, 43, 44, 45, 46, 47, 48, 49, 50, 51, 52, 53, 54, 55, 56, 57, 58, 59, 60, 61, 62, 63, 64, 65] rfl (by decide +kernel)
set_option maxRecDepth 20000 in
theorem hX12_shapes_X12_open_431 : GoodIn wsX12_shapes (wsV RX12 431 RX12 yX12_open wsX12_open) := goodIn_r _ [22, 23, 24, 7, 25, 13, 1, 3, 26, 27, 28, 29, 30, 31, 32, 33, 34, 35, 36, 37, 38, 39, 40, 41, 42, 43, 44, 45, 46, 47, 48, 49, 50, 51, 52, 53, 54, 55, 56, 57, 58, 59, 60, 61, 62, 63, 64, 65] rfl (by decide +kernel)
set_option maxRecDepth 20000 in
theorem hX12_shapes_X12_append_279 : GoodIn wsX12_shapes (wsV RX12 279 RX12 yX12_append wsX12_append) := goodIn_r _ [18, 19, 20, 7, 21, 4, 2, 26, 27, 28, 29, 30, 31, 32, 33, 34, 35, 36, 37, 38, 39, 40, 41, 42, 43, 44, 45, 46, 47, 48, 49, 50, 51, 52, 53, 54, 55, 56, 57, 58, 59, 60, 61, 62, 63, 64, 65] rfl (by decide +kernel)
set_option maxHeartbeats 4000000 in
set_option maxRecDepth 100000 in
theorem c_X12_shapes (l : Launch) (D : va_G) (cA : Nat → ClassId) (g : Nat → Nat) (sz : Nat) (x1 : Int32) (t : mT) (s : mS) (r : mR) (c : mC) (y : mY) (d : mD) (k : mK) (q : mP) (o : mO) (m : mM) (u : Int32 × mY × mP) (hE : f_X12_shapes x1 y q = some u) : Met l yX12_shapes wsX12_shapes ({ frames := 2, cells := 0, slots := 0, locals := 44 }) (va_Pc [.ref (g 0), .int x1] (PRE D cA (wX g cA t s r c y d k q o m) sz (fun _ => True))) (cQi D (wX g cA t s r c u.2.1 d k u.2.2 o m) (va_A (wX g cA t s r c y d k q o m) sz) u.1) 0 0 (va_A (wX g cA t s r c y d k q o m) sz) := by
  refine Met.ofW (cc := cX12_shapes) (maxL := 6) (ret := (some .int)) (by decide) rfl ?_
  intro PP EE S0 MM args below meth CC S1 B hml hv
  obtain ⟨rfl, hsz, hP, hK, hD0, hX⟩ := hv
  have hx := B.exec
  have hb := B.bytes
  have hr := B.returns
  have hts := atoms_spec (ws := wsX12_shapes) B.pre
  have hown : S0.vm.findClass RX12 = some MM.cls := findClass_of_methodNamed B.named
  have hlocks := B.notSynchronized
  subst hsz
  have hD := hD0.self (sz := S0.heap.size)
  generalize hAe : va_A (wX g cA t s r c y d k q o m) S0.heap.size = A at hD ⊢
  have hA : ∀ q : Nat, S0.heap.size ≤ q → A q := fun q h => by rw [← hAe]; exact Or.inr h
  have hS : va_S A S0.heap S0.heap [] := va_S.rf
  have k0 := hts (.fieldLink RX12 338 "WordForgeModel" "opens" "I") (List.mem_of_getElem? (i := 1) rfl)
  have inX12 : ∀ w ∈ wsX120, w ∈ wsX12_shapes := fun _ h => List.mem_cons_of_mem _ (List.mem_append_right _ h)
  have k2 := hts (.fieldLink RX12 276 "WordForgeModel" "here" "I") (List.mem_of_getElem? (i := 2) rfl)
  have k3 := hts (.fieldLink RX12 212 "WordForgeModel" "openAt" "[I") (List.mem_of_getElem? (i := 3) rfl)
  have k4 := hts (.fieldLink RX12 184 "WordForgeModel" "cells" "[I") (List.mem_of_getElem? (i := 4) rfl)
  have hl := lv_entry ([.ref (g 0), .int x1]) (n := 6) (Nat.le_of_ble_eq_true rfl)
  rw [lg_entry_eq]
  generalize (lg_sl ([.ref (g 0), .int x1]) ++ List.replicate (6 - (lg_sl ([.ref (g 0), .int x1])).length) Slot.unset).toArray = ls at hl ⊢
  have hl : lv_has ls 6 [(0, .ref (g 0)), (1, .int x1)] := hl
  have w349 : ∀ (y5 : Int32) (z0 : Int32) (y : mY) (q : mP) (H : Heap) (locs : List Loc) (ls : Array Slot), va_P D vwCl (wX g cA t s r c y d k q o m) H → va_D A (wX g cA t s r c y d k q o m) → va_S A S0.heap H locs → lv_has ls 6 [(0, .ref (g 0)), (5, .int y5)] → b_X12_shapes_349  y5 z0 y q = some u → W PP l EE (headSpec wsX12_shapes ({ frames := 2, cells := 0, slots := 0, locals := 44 })).room S0 MM (#[.ref (g 0), .int x1] : Array Value) below meth CC H locs 0 0 (MQ below (cQi D (wX g cA t s r c u.2.1 d k u.2.2 o m) A u.1) (#[.ref (g 0), .int x1] : Array Value) S0 0 0 A) (F0 MM 349 ls [.int z0, .ref (g 0)]) := by
    intro y5 z0 y q
    intro H locs ls hP hD hS hl hE
    unfold b_X12_shapes_349 at hE
    obtain ⟨u51, h52, hE⟩ := bd_some hE
    refine cw_i (As := [.int z0]) (rest := []) (r := u51.1) (wc := (wX g cA t s r c y d k q o m)) ⟨hx, hb, hml, hown, hts⟩ (c_X12_append l D cA g H.size z0 t s r c y d k q o m u51 h52) (cwV 1 hts hX12_shapes_X12_append_279 rfl rfl rfl (by decide +kernel) ⟨Nat.le_of_ble_eq_true rfl, Nat.le_of_ble_eq_true rfl⟩) rfl hl.1 rfl (Nat.le_of_ble_eq_true rfl) dX12_shapes_349 ⟨Nat.zero_le _, Nat.zero_le _⟩ hK hP hD hS hA (va_recv hK hP (ci := 10) (q0 := 0) rfl rfl) [g 0, g 1, g 2, g 3, g 4, g 5, g 6, g 7, g 8, g 9, g 10, g 11, g 12, g 13, g 14, g 15, g 16, g 17, g 18, g 19] rfl rfl (fun _ _ _ _ h => h) (fun _ _ _ => trivial) (fun H locs hP hD hS => ?_)
    have hP : va_P D vwCl (wX g cA t s r c u51.2 d k q o m) H := hP
    have hD : va_D A (wX g cA t s r c u51.2 d k q o m) := hD
    refine lv_pop hx hb dX12_shapes_352 rfl ?_
    refine lv_aload_n hx hb dX12_shapes_353 rfl (lv_at hl 0 rfl) ?_
    refine lv_iload hx hb dX12_shapes_354 (lv_at hl 1 rfl) ?_
    obtain ⟨u53, h54, hE⟩ := bd_some hE
    refine cw_i (As := [.int y5]) (rest := []) (r := u53.1) (wc := (wX g cA t s r c u51.2 d k q o m)) ⟨hx, hb, hml, hown, hts⟩ (c_X12_append l D cA g H.size y5 t s r c u51.2 d k q o m u53 h54) (cwV 1 hts hX12_shapes_X12_append_279 rfl rfl rfl (by decide +kernel) ⟨Nat.le_of_ble_eq_true rfl, Nat.le_of_ble_eq_true rfl⟩) rfl hl.1 rfl (Nat.le_of_ble_eq_true rfl) dX12_shapes_356 ⟨Nat.zero_le _, Nat.zero_le _⟩ hK hP hD hS hA (va_recv hK hP (ci := 10) (q0 := 0) rfl rfl) [g 0, g 1, g 2, g 3, g 4, g 5, g 6, g 7, g 8, g 9, g 10, g 11, g 12, g 13, g 14, g 15, g 16, g 17, g 18, g 19] rfl rfl (fun _ _ _ _ h => h) (fun _ _ _ => trivial) (fun H locs hP hD hS => ?_)
    have hP : va_P D vwCl (wX g cA t s r c u53.2 d k q o m) H := hP
    have hD : va_D A (wX g cA t s r c u53.2 d k q o m) := hD
    obtain rfl := Option.some.inj hE
    exact rt_i hx hb hr hP hS rfl hlocks dX12_shapes_359
  have w130 : ∀ (y1 : Int32) (z0 : Int32) (y : mY) (q : mP) (H : Heap) (locs : List Loc) (ls : Array Slot), va_P D vwCl (wX g cA t s r c y d k q o m) H → va_D A (wX g cA t s r c y d k q o m) → va_S A S0.heap H locs → lv_has ls 6 [(0, .ref (g 0)), (1, .int y1)] → b_X12_shapes_130  y1 z0 y q = some u → W PP l EE (headSpec wsX12_shapes ({ frames := 2, cells := 0, slots := 0, locals := 44 })).room S0 MM (#[.ref (g 0), .int x1] : Array Value) below meth CC H locs 0 0 (MQ below (cQi D (wX g cA t s r c u.2.1 d k u.2.2 o m) A u.1) (#[.ref (g 0), .int x1] : Array Value) S0 0 0 A) (F0 MM 130 ls [.int z0]) := by
    intro y1 z0 y q
    intro H locs ls hP hD hS hl hE
    unfold b_X12_shapes_130 at hE
    refine lv_istore (lv' := [(5, .int z0), (0, .ref (g 0)), (1, .int y1)]) hx hb dX12_shapes_130 hl (by decide) rfl (fun ls hl => ?_)
    refine lv_iload_n hx hb dX12_shapes_132 rfl (lv_at hl 2 rfl) ?_
    by_cases c19 : y1 = 69
    · have hE := if_t c19 hE
      refine lv_tableIn (tgt := 180) (off := 47) hx hb dX12_shapes_133 (by rw [c19]; decide +kernel) (by rw [c19]; decide +kernel) (by rw [c19]; decide +kernel) (by decide) ?_
      refine lv_aload_n hx hb dX12_shapes_180 rfl (lv_at hl 1 rfl) ?_
      refine lv_iconst (v := 3) hx hb dX12_shapes_181 (by decide +kernel) ?_
      refine lv_iconst (v := 1) hx hb dX12_shapes_182 (by decide +kernel) ?_
      obtain ⟨u20, h21, hE⟩ := bd_some hE
      refine cw_i (As := [.int 3, .int 1]) (rest := []) (r := u20.1) (wc := (wX g cA t s r c y d k q o m)) ⟨hx, hb, hml, hown, hts⟩ (c_X12_hole l D cA g H.size 3 1 t s r c y d k q o m u20 h21) (cwV 2 hts hX12_shapes_X12_hole_428 rfl rfl rfl (by decide +kernel) ⟨Nat.le_of_ble_eq_true rfl, Nat.le_of_ble_eq_true rfl⟩) rfl hl.1 rfl (Nat.le_of_ble_eq_true rfl) dX12_shapes_183 ⟨Nat.zero_le _, Nat.zero_le _⟩ hK hP hD hS hA (va_recv hK hP (ci := 10) (q0 := 0) rfl rfl) [g 0, g 1, g 2, g 3, g 4, g 5, g 6, g 7, g 8, g 9, g 10, g 11, g 12, g 13, g 14, g 15, g 16, g 17, g 18, g 19] rfl rfl (fun _ _ _ _ h => h) (fun _ _ _ => trivial) (fun H locs hP hD hS => ?_)
      have hP : va_P D vwCl (wX g cA t s r c u20.2.1 d k u20.2.2 o m) H := hP
      have hD : va_D A (wX g cA t s r c u20.2.1 d k u20.2.2 o m) := hD
      obtain rfl := Option.some.inj hE
      exact rt_i hx hb hr hP hS rfl hlocks dX12_shapes_186
    have hE := if_f c19 hE
    by_cases c22 : y1 = 70
    · have hE := if_t c22 hE
      refine lv_tableIn (tgt := 187) (off := 54) hx hb dX12_shapes_133 (by rw [c22]; decide +kernel) (by rw [c22]; decide +kernel) (by rw [c22]; decide +kernel) (by decide) ?_
      refine lv_aload_n hx hb dX12_shapes_187 rfl (lv_at hl 1 rfl) ?_
      refine lv_dup hx hb dX12_shapes_188 rfl ?_
      refine va_get (D := D) (ci := 10) (v := .int q.1) (C := RX12) (T := TX12) (N := 40) hx hb hts inX12 hown hK hP 0 rfl rfl 31 (by decide) k0 (fun _ h9 => h9) rfl dX12_shapes_189 ?_
      refine lv_iconst (v := 1) hx hb dX12_shapes_192 (by decide +kernel) ?_
      refine lv_isub hx hb dX12_shapes_193 ?_
      refine va_put (D := D) (ci := 10) (v := .int (q.1 - 1)) (ty := .int) (C := RX12) (T := TX12) (N := 40) hx hb hts inX12 tyX12 tyX12_ok nmX12 hown hK hP hD hS 0 rfl rfl 31 (by decide) k0 (fun _ h9 => h9) rfl (by decide +kernel) rfl rfl (Nat.le_of_ble_eq_true rfl) dX12_shapes_194 (fun H locs hP hD hS => ?_)
      have hP : va_P D vwCl (wX g cA t s r c y d k ((q.1 - 1, q.2.1, q.2.2)) o m) H := hP
      have hD : va_D A (wX g cA t s r c y d k ((q.1 - 1, q.2.1, q.2.2)) o m) := hD
      refine lv_aload_n hx hb dX12_shapes_197 rfl (lv_at hl 1 rfl) ?_
      refine lv_iconst (v := 2) hx hb dX12_shapes_198 (by decide +kernel) ?_
      refine lv_iconst (v := 1) hx hb dX12_shapes_199 (by decide +kernel) ?_
      obtain ⟨u23, h24, hE⟩ := bd_some hE
      refine cw_i (As := [.int 2, .int 1]) (rest := []) (r := u23.1) (wc := (wX g cA t s r c y d k (((q.1 - 1, q.2.1, q.2.2))) o m)) ⟨hx, hb, hml, hown, hts⟩ (c_X12_hole l D cA g H.size 2 1 t s r c y d k ((q.1 - 1, q.2.1, q.2.2)) o m u23 h24) (cwV 2 hts hX12_shapes_X12_hole_428 rfl rfl rfl (by decide +kernel) ⟨Nat.le_of_ble_eq_true rfl, Nat.le_of_ble_eq_true rfl⟩) rfl hl.1 rfl (Nat.le_of_ble_eq_true rfl) dX12_shapes_200 ⟨Nat.zero_le _, Nat.zero_le _⟩ hK hP hD hS hA (va_recv hK hP (ci := 10) (q0 := 0) rfl rfl) [g 0, g 1, g 2, g 3, g 4, g 5, g 6, g 7, g 8, g 9, g 10, g 11, g 12, g 13, g 14, g 15, g 16, g 17, g 18, g 19] rfl rfl (fun _ _ _ _ h => h) (fun _ _ _ => trivial) (fun H locs hP hD hS => ?_)
      have hP : va_P D vwCl (wX g cA t s r c u23.2.1 d k u23.2.2 o m) H := hP
      have hD : va_D A (wX g cA t s r c u23.2.1 d k u23.2.2 o m) := hD
      refine lv_pop hx hb dX12_shapes_203 rfl ?_
      refine lv_aload_n hx hb dX12_shapes_204 rfl (lv_at hl 1 rfl) ?_
      refine va_get (D := D) (ci := 10) (v := .ref (g 10)) (C := RX12) (T := TX12) (N := 40) hx hb hts inX12 hown hK hP 0 rfl rfl 16 (by decide) k4 (fun _ h9 => h9) rfl dX12_shapes_205 ?_
      refine lv_iload hx hb dX12_shapes_208 (lv_at hl 0 rfl) ?_
      refine lv_aload_n hx hb dX12_shapes_210 rfl (lv_at hl 1 rfl) ?_
      refine va_get (D := D) (ci := 10) (v := .int u23.2.1.1) (C := RX12) (T := TX12) (N := 40) hx hb hts inX12 hown hK hP 0 rfl rfl 17 (by decide) k2 (fun _ h9 => h9) rfl dX12_shapes_211 ?_
      have ⟨c25, hE⟩ := ck_some hE
      refine va_iast hx hb hK hP hD hS 10 0 rfl rfl c25 dX12_shapes_214 (fun H locs hP hD hS => ?_)
      have hP : va_P D vwCl (wX g cA t s r c ((u23.2.1.1, upd u23.2.1.2 z0.toNatClampNeg u23.2.1.1)) d k u23.2.2 o m) H := hP
      have hD : va_D A (wX g cA t s r c ((u23.2.1.1, upd u23.2.1.2 z0.toNatClampNeg u23.2.1.1)) d k u23.2.2 o m) := hD
      refine lv_iconst (v := 0) hx hb dX12_shapes_215 (by decide +kernel) ?_
      obtain rfl := Option.some.inj hE
      exact rt_i hx hb hr hP hS rfl hlocks dX12_shapes_216
    have hE := if_f c22 hE
    by_cases c26 : y1 = 71
    · have hE := if_t c26 hE
      refine lv_tableIn (tgt := 217) (off := 84) hx hb dX12_shapes_133 (by rw [c26]; decide +kernel) (by rw [c26]; decide +kernel) (by rw [c26]; decide +kernel) (by decide) ?_
      refine lv_aload_n hx hb dX12_shapes_217 rfl (lv_at hl 1 rfl) ?_
      refine lv_dup hx hb dX12_shapes_218 rfl ?_
      refine va_get (D := D) (ci := 10) (v := .int q.1) (C := RX12) (T := TX12) (N := 40) hx hb hts inX12 hown hK hP 0 rfl rfl 31 (by decide) k0 (fun _ h9 => h9) rfl dX12_shapes_219 ?_
      refine lv_iconst (v := 1) hx hb dX12_shapes_222 (by decide +kernel) ?_
      refine lv_isub hx hb dX12_shapes_223 ?_
      refine va_put (D := D) (ci := 10) (v := .int (q.1 - 1)) (ty := .int) (C := RX12) (T := TX12) (N := 40) hx hb hts inX12 tyX12 tyX12_ok nmX12 hown hK hP hD hS 0 rfl rfl 31 (by decide) k0 (fun _ h9 => h9) rfl (by decide +kernel) rfl rfl (Nat.le_of_ble_eq_true rfl) dX12_shapes_224 (fun H locs hP hD hS => ?_)
      have hP : va_P D vwCl (wX g cA t s r c y d k ((q.1 - 1, q.2.1, q.2.2)) o m) H := hP
      have hD : va_D A (wX g cA t s r c y d k ((q.1 - 1, q.2.1, q.2.2)) o m) := hD
      refine lv_aload_n hx hb dX12_shapes_227 rfl (lv_at hl 1 rfl) ?_
      refine va_get (D := D) (ci := 10) (v := .ref (g 10)) (C := RX12) (T := TX12) (N := 40) hx hb hts inX12 hown hK hP 0 rfl rfl 16 (by decide) k4 (fun _ h9 => h9) rfl dX12_shapes_228 ?_
      refine lv_iload hx hb dX12_shapes_231 (lv_at hl 0 rfl) ?_
      refine lv_aload_n hx hb dX12_shapes_233 rfl (lv_at hl 1 rfl) ?_
      refine va_get (D := D) (ci := 10) (v := .int y.1) (C := RX12) (T := TX12) (N := 40) hx hb hts inX12 hown hK hP 0 rfl rfl 17 (by decide) k2 (fun _ h9 => h9) rfl dX12_shapes_234 ?_
      have ⟨c27, hE⟩ := ck_some hE
      refine va_iast hx hb hK hP hD hS 10 0 rfl rfl c27 dX12_shapes_237 (fun H locs hP hD hS => ?_)
      have hP : va_P D vwCl (wX g cA t s r c ((y.1, upd y.2 z0.toNatClampNeg y.1)) d k ((q.1 - 1, q.2.1, q.2.2)) o m) H := hP
      have hD : va_D A (wX g cA t s r c ((y.1, upd y.2 z0.toNatClampNeg y.1)) d k ((q.1 - 1, q.2.1, q.2.2)) o m) := hD
      refine lv_iconst (v := 0) hx hb dX12_shapes_238 (by decide +kernel) ?_
      obtain rfl := Option.some.inj hE
      exact rt_i hx hb hr hP hS rfl hlocks dX12_shapes_239
    have hE := if_f c26 hE
    by_cases c28 : y1 = 72
    · have hE := if_t c28 hE
      refine lv_tableIn (tgt := 240) (off := 107) hx hb dX12_shapes_133 (by rw [c28]; decide +kernel) (by rw [c28]; decide +kernel) (by rw [c28]; decide +kernel) (by decide) ?_
      refine lv_aload_n hx hb dX12_shapes_240 rfl (lv_at hl 1 rfl) ?_
      refine lv_iconst (v := 2) hx hb dX12_shapes_241 (by decide +kernel) ?_
      refine lv_aload_n hx hb dX12_shapes_242 rfl (lv_at hl 1 rfl) ?_
      refine va_get (D := D) (ci := 10) (v := .int y.1) (C := RX12) (T := TX12) (N := 40) hx hb hts inX12 hown hK hP 0 rfl rfl 17 (by decide) k2 (fun _ h9 => h9) rfl dX12_shapes_243 ?_
      obtain ⟨u29, h30, hE⟩ := bd_some hE
      refine cw_i (As := [.int 2, .int y.1]) (rest := []) (r := u29.1) (wc := (wX g cA t s r c y d k q o m)) ⟨hx, hb, hml, hown, hts⟩ (c_X12_open l D cA g H.size 2 y.1 t s r c y d k q o m u29 h30) (cwV 2 hts hX12_shapes_X12_open_431 rfl rfl rfl (by decide +kernel) ⟨Nat.le_of_ble_eq_true rfl, Nat.le_of_ble_eq_true rfl⟩) rfl hl.1 rfl (Nat.le_of_ble_eq_true rfl) dX12_shapes_246 ⟨Nat.zero_le _, Nat.zero_le _⟩ hK hP hD hS hA (va_recv hK hP (ci := 10) (q0 := 0) rfl rfl) [g 0, g 1, g 2, g 3, g 4, g 5, g 6, g 7, g 8, g 9, g 10, g 11, g 12, g 13, g 14, g 15, g 16, g 17, g 18, g 19] rfl rfl (fun _ _ _ _ h => h) (fun _ _ _ => trivial) (fun H locs hP hD hS => ?_)
      have hP : va_P D vwCl (wX g cA t s r c y d k u29.2 o m) H := hP
      have hD : va_D A (wX g cA t s r c y d k u29.2 o m) := hD
      obtain rfl := Option.some.inj hE
      exact rt_i hx hb hr hP hS rfl hlocks dX12_shapes_249
    have hE := if_f c28 hE
    by_cases c31 : y1 = 74
    · have hE := if_t c31 hE
      refine lv_tableIn (tgt := 250) (off := 117) hx hb dX12_shapes_133 (by rw [c31]; decide +kernel) (by rw [c31]; decide +kernel) (by rw [c31]; decide +kernel) (by decide) ?_
      refine lv_aload_n hx hb dX12_shapes_250 rfl (lv_at hl 1 rfl) ?_
      refine lv_iconst (v := 3) hx hb dX12_shapes_251 (by decide +kernel) ?_
      refine lv_iconst (v := 3) hx hb dX12_shapes_252 (by decide +kernel) ?_
      obtain ⟨u32, h33, hE⟩ := bd_some hE
      refine cw_i (As := [.int 3, .int 3]) (rest := []) (r := u32.1) (wc := (wX g cA t s r c y d k q o m)) ⟨hx, hb, hml, hown, hts⟩ (c_X12_hole l D cA g H.size 3 3 t s r c y d k q o m u32 h33) (cwV 2 hts hX12_shapes_X12_hole_428 rfl rfl rfl (by decide +kernel) ⟨Nat.le_of_ble_eq_true rfl, Nat.le_of_ble_eq_true rfl⟩) rfl hl.1 rfl (Nat.le_of_ble_eq_true rfl) dX12_shapes_253 ⟨Nat.zero_le _, Nat.zero_le _⟩ hK hP hD hS hA (va_recv hK hP (ci := 10) (q0 := 0) rfl rfl) [g 0, g 1, g 2, g 3, g 4, g 5, g 6, g 7, g 8, g 9, g 10, g 11, g 12, g 13, g 14, g 15, g 16, g 17, g 18, g 19] rfl rfl (fun _ _ _ _ h => h) (fun _ _ _ => trivial) (fun H locs hP hD hS => ?_)
      have hP : va_P D vwCl (wX g cA t s r c u32.2.1 d k u32.2.2 o m) H := hP
      have hD : va_D A (wX g cA t s r c u32.2.1 d k u32.2.2 o m) := hD
      obtain rfl := Option.some.inj hE
      exact rt_i hx hb hr hP hS rfl hlocks dX12_shapes_256
    have hE := if_f c31 hE
    by_cases c34 : y1 = 75
    · have hE := if_t c34 hE
      refine lv_tableIn (tgt := 257) (off := 124) hx hb dX12_shapes_133 (by rw [c34]; decide +kernel) (by rw [c34]; decide +kernel) (by rw [c34]; decide +kernel) (by decide) ?_
      refine lv_aload_n hx hb dX12_shapes_257 rfl (lv_at hl 1 rfl) ?_
      refine lv_dup hx hb dX12_shapes_258 rfl ?_
      refine va_get (D := D) (ci := 10) (v := .int q.1) (C := RX12) (T := TX12) (N := 40) hx hb hts inX12 hown hK hP 0 rfl rfl 31 (by decide) k0 (fun _ h9 => h9) rfl dX12_shapes_259 ?_
      refine lv_iconst (v := 2) hx hb dX12_shapes_262 (by decide +kernel) ?_
      refine lv_isub hx hb dX12_shapes_263 ?_
      refine va_put (D := D) (ci := 10) (v := .int (q.1 - 2)) (ty := .int) (C := RX12) (T := TX12) (N := 40) hx hb hts inX12 tyX12 tyX12_ok nmX12 hown hK hP hD hS 0 rfl rfl 31 (by decide) k0 (fun _ h9 => h9) rfl (by decide +kernel) rfl rfl (Nat.le_of_ble_eq_true rfl) dX12_shapes_264 (fun H locs hP hD hS => ?_)
      have hP : va_P D vwCl (wX g cA t s r c y d k ((q.1 - 2, q.2.1, q.2.2)) o m) H := hP
      have hD : va_D A (wX g cA t s r c y d k ((q.1 - 2, q.2.1, q.2.2)) o m) := hD
      refine lv_aload_n hx hb dX12_shapes_267 rfl (lv_at hl 1 rfl) ?_
      refine lv_iconst (v := 2) hx hb dX12_shapes_268 (by decide +kernel) ?_
      obtain ⟨u35, h36, hE⟩ := bd_some hE
      refine cw_i (As := [.int 2]) (rest := []) (r := u35.1) (wc := (wX g cA t s r c y d k (((q.1 - 2, q.2.1, q.2.2))) o m)) ⟨hx, hb, hml, hown, hts⟩ (c_X12_append l D cA g H.size 2 t s r c y d k ((q.1 - 2, q.2.1, q.2.2)) o m u35 h36) (cwV 1 hts hX12_shapes_X12_append_279 rfl rfl rfl (by decide +kernel) ⟨Nat.le_of_ble_eq_true rfl, Nat.le_of_ble_eq_true rfl⟩) rfl hl.1 rfl (Nat.le_of_ble_eq_true rfl) dX12_shapes_269 ⟨Nat.zero_le _, Nat.zero_le _⟩ hK hP hD hS hA (va_recv hK hP (ci := 10) (q0 := 0) rfl rfl) [g 0, g 1, g 2, g 3, g 4, g 5, g 6, g 7, g 8, g 9, g 10, g 11, g 12, g 13, g 14, g 15, g 16, g 17, g 18, g 19] rfl rfl (fun _ _ _ _ h => h) (fun _ _ _ => trivial) (fun H locs hP hD hS => ?_)
      have hP : va_P D vwCl (wX g cA t s r c u35.2 d k ((q.1 - 2, q.2.1, q.2.2)) o m) H := hP
      have hD : va_D A (wX g cA t s r c u35.2 d k ((q.1 - 2, q.2.1, q.2.2)) o m) := hD
      refine lv_pop hx hb dX12_shapes_272 rfl ?_
      refine lv_aload_n hx hb dX12_shapes_273 rfl (lv_at hl 1 rfl) ?_
      refine lv_aload_n hx hb dX12_shapes_274 rfl (lv_at hl 1 rfl) ?_
      refine va_get (D := D) (ci := 10) (v := .ref (g 19)) (C := RX12) (T := TX12) (N := 40) hx hb hts inX12 hown hK hP 0 rfl rfl 30 (by decide) k3 (fun _ h9 => h9) rfl dX12_shapes_275 ?_
      refine lv_aload_n hx hb dX12_shapes_278 rfl (lv_at hl 1 rfl) ?_
      refine va_get (D := D) (ci := 10) (v := .int (q.1 - 2)) (C := RX12) (T := TX12) (N := 40) hx hb hts inX12 hown hK hP 0 rfl rfl 31 (by decide) k0 (fun _ h9 => h9) rfl dX12_shapes_279 ?_
      have ⟨c37, hE⟩ := ck_some hE
      refine va_iald hx hb hK hP 19 0 rfl rfl c37 dX12_shapes_282 ?_
      obtain ⟨u38, h39, hE⟩ := bd_some hE
      refine cw_i (As := [.int (q.2.2 ((q.1 - 2).toNatClampNeg))]) (rest := []) (r := u38.1) (wc := (wX g cA t s r c u35.2 d k (((q.1 - 2, q.2.1, q.2.2))) o m)) ⟨hx, hb, hml, hown, hts⟩ (c_X12_append l D cA g H.size (q.2.2 ((q.1 - 2).toNatClampNeg)) t s r c u35.2 d k ((q.1 - 2, q.2.1, q.2.2)) o m u38 h39) (cwV 1 hts hX12_shapes_X12_append_279 rfl rfl rfl (by decide +kernel) ⟨Nat.le_of_ble_eq_true rfl, Nat.le_of_ble_eq_true rfl⟩) rfl hl.1 rfl (Nat.le_of_ble_eq_true rfl) dX12_shapes_283 ⟨Nat.zero_le _, Nat.zero_le _⟩ hK hP hD hS hA (va_recv hK hP (ci := 10) (q0 := 0) rfl rfl) [g 0, g 1, g 2, g 3, g 4, g 5, g 6, g 7, g 8, g 9, g 10, g 11, g 12, g 13, g 14, g 15, g 16, g 17, g 18, g 19] rfl rfl (fun _ _ _ _ h => h) (fun _ _ _ => trivial) (fun H locs hP hD hS => ?_)
      have hP : va_P D vwCl (wX g cA t s r c u38.2 d k ((q.1 - 2, q.2.1, q.2.2)) o m) H := hP
      have hD : va_D A (wX g cA t s r c u38.2 d k ((q.1 - 2, q.2.1, q.2.2)) o m) := hD
      refine lv_pop hx hb dX12_shapes_286 rfl ?_
      refine lv_aload_n hx hb dX12_shapes_287 rfl (lv_at hl 1 rfl) ?_
      refine va_get (D := D) (ci := 10) (v := .ref (g 10)) (C := RX12) (T := TX12) (N := 40) hx hb hts inX12 hown hK hP 0 rfl rfl 16 (by decide) k4 (fun _ h9 => h9) rfl dX12_shapes_288 ?_
      refine lv_iload hx hb dX12_shapes_291 (lv_at hl 0 rfl) ?_
      refine lv_aload_n hx hb dX12_shapes_293 rfl (lv_at hl 1 rfl) ?_
      refine va_get (D := D) (ci := 10) (v := .int u38.2.1) (C := RX12) (T := TX12) (N := 40) hx hb hts inX12 hown hK hP 0 rfl rfl 17 (by decide) k2 (fun _ h9 => h9) rfl dX12_shapes_294 ?_
      have ⟨c40, hE⟩ := ck_some hE
      refine va_iast hx hb hK hP hD hS 10 0 rfl rfl c40 dX12_shapes_297 (fun H locs hP hD hS => ?_)
      have hP : va_P D vwCl (wX g cA t s r c ((u38.2.1, upd u38.2.2 z0.toNatClampNeg u38.2.1)) d k ((q.1 - 2, q.2.1, q.2.2)) o m) H := hP
      have hD : va_D A (wX g cA t s r c ((u38.2.1, upd u38.2.2 z0.toNatClampNeg u38.2.1)) d k ((q.1 - 2, q.2.1, q.2.2)) o m) := hD
      refine lv_iconst (v := 0) hx hb dX12_shapes_298 (by decide +kernel) ?_
      obtain rfl := Option.some.inj hE
      exact rt_i hx hb hr hP hS rfl hlocks dX12_shapes_299
    have hE := if_f c34 hE
    by_cases c41 : y1 = 76
    · have hE := if_t c41 hE
      refine lv_tableIn (tgt := 300) (off := 167) hx hb dX12_shapes_133 (by rw [c41]; decide +kernel) (by rw [c41]; decide +kernel) (by rw [c41]; decide +kernel) (by decide) ?_
      refine lv_aload_n hx hb dX12_shapes_300 rfl (lv_at hl 1 rfl) ?_
      refine lv_iconst (v := 4) hx hb dX12_shapes_301 (by decide +kernel) ?_
      obtain ⟨u42, h43, hE⟩ := bd_some hE
      refine cw_i (As := [.int 4]) (rest := []) (r := u42.1) (wc := (wX g cA t s r c y d k q o m)) ⟨hx, hb, hml, hown, hts⟩ (c_X12_append l D cA g H.size 4 t s r c y d k q o m u42 h43) (cwV 1 hts hX12_shapes_X12_append_279 rfl rfl rfl (by decide +kernel) ⟨Nat.le_of_ble_eq_true rfl, Nat.le_of_ble_eq_true rfl⟩) rfl hl.1 rfl (Nat.le_of_ble_eq_true rfl) dX12_shapes_302 ⟨Nat.zero_le _, Nat.zero_le _⟩ hK hP hD hS hA (va_recv hK hP (ci := 10) (q0 := 0) rfl rfl) [g 0, g 1, g 2, g 3, g 4, g 5, g 6, g 7, g 8, g 9, g 10, g 11, g 12, g 13, g 14, g 15, g 16, g 17, g 18, g 19] rfl rfl (fun _ _ _ _ h => h) (fun _ _ _ => trivial) (fun H locs hP hD hS => ?_)
      have hP : va_P D vwCl (wX g cA t s r c u42.2 d k q o m) H := hP
      have hD : va_D A (wX g cA t s r c u42.2 d k q o m) := hD
      refine lv_pop hx hb dX12_shapes_305 rfl ?_
      refine lv_aload_n hx hb dX12_shapes_306 rfl (lv_at hl 1 rfl) ?_
      refine lv_iconst (v := 4) hx hb dX12_shapes_307 (by decide +kernel) ?_
      refine lv_aload_n hx hb dX12_shapes_308 rfl (lv_at hl 1 rfl) ?_
      refine va_get (D := D) (ci := 10) (v := .int u42.2.1) (C := RX12) (T := TX12) (N := 40) hx hb hts inX12 hown hK hP 0 rfl rfl 17 (by decide) k2 (fun _ h9 => h9) rfl dX12_shapes_309 ?_
      obtain ⟨u44, h45, hE⟩ := bd_some hE
      refine cw_i (As := [.int 4, .int u42.2.1]) (rest := []) (r := u44.1) (wc := (wX g cA t s r c u42.2 d k q o m)) ⟨hx, hb, hml, hown, hts⟩ (c_X12_open l D cA g H.size 4 u42.2.1 t s r c u42.2 d k q o m u44 h45) (cwV 2 hts hX12_shapes_X12_open_431 rfl rfl rfl (by decide +kernel) ⟨Nat.le_of_ble_eq_true rfl, Nat.le_of_ble_eq_true rfl⟩) rfl hl.1 rfl (Nat.le_of_ble_eq_true rfl) dX12_shapes_312 ⟨Nat.zero_le _, Nat.zero_le _⟩ hK hP hD hS hA (va_recv hK hP (ci := 10) (q0 := 0) rfl rfl) [g 0, g 1, g 2, g 3, g 4, g 5, g 6, g 7, g 8, g 9, g 10, g 11, g 12, g 13, g 14, g 15, g 16, g 17, g 18, g 19] rfl rfl (fun _ _ _ _ h => h) (fun _ _ _ => trivial) (fun H locs hP hD hS => ?_)
      have hP : va_P D vwCl (wX g cA t s r c u42.2 d k u44.2 o m) H := hP
      have hD : va_D A (wX g cA t s r c u42.2 d k u44.2 o m) := hD
      obtain rfl := Option.some.inj hE
      exact rt_i hx hb hr hP hS rfl hlocks dX12_shapes_315
    have hE := if_f c41 hE
    by_cases c48 : y1 = 73
    · refine lv_tableIn (tgt := 316) (off := 183) hx hb dX12_shapes_133 (by rw [c48]; decide +kernel) (by rw [c48]; decide +kernel) (by rw [c48]; decide +kernel) (by decide) ?_
      refine lv_aload_n hx hb dX12_shapes_316 rfl (lv_at hl 1 rfl) ?_
      refine lv_dup hx hb dX12_shapes_317 rfl ?_
      refine va_get (D := D) (ci := 10) (v := .int q.1) (C := RX12) (T := TX12) (N := 40) hx hb hts inX12 hown hK hP 0 rfl rfl 31 (by decide) k0 (fun _ h9 => h9) rfl dX12_shapes_318 ?_
      refine lv_iconst (v := 1) hx hb dX12_shapes_321 (by decide +kernel) ?_
      refine lv_isub hx hb dX12_shapes_322 ?_
      refine va_put (D := D) (ci := 10) (v := .int (q.1 - 1)) (ty := .int) (C := RX12) (T := TX12) (N := 40) hx hb hts inX12 tyX12 tyX12_ok nmX12 hown hK hP hD hS 0 rfl rfl 31 (by decide) k0 (fun _ h9 => h9) rfl (by decide +kernel) rfl rfl (Nat.le_of_ble_eq_true rfl) dX12_shapes_323 (fun H locs hP hD hS => ?_)
      have hP : va_P D vwCl (wX g cA t s r c y d k ((q.1 - 1, q.2.1, q.2.2)) o m) H := hP
      have hD : va_D A (wX g cA t s r c y d k ((q.1 - 1, q.2.1, q.2.2)) o m) := hD
      refine lv_aload_n hx hb dX12_shapes_326 rfl (lv_at hl 1 rfl) ?_
      refine lv_iload_n hx hb dX12_shapes_327 rfl (lv_at hl 2 rfl) ?_
      refine lv_bipush (v := 73) hx hb dX12_shapes_328 (by decide +kernel) ?_
      refine lv_icmp_ne (tgt := 337) hx hb dX12_shapes_330 (by decide) (fun c49 => ?_) (fun c49 => ?_)
      · have hE := if_f c49 hE
        refine lv_iload_n hx hb dX12_shapes_337 rfl (lv_at hl 2 rfl) ?_
        refine lv_bipush (v := 77) hx hb dX12_shapes_338 (by decide +kernel) ?_
        refine lv_icmp_ne (tgt := 347) hx hb dX12_shapes_340 (by decide) (fun c50 => ?_) (fun c50 => ?_)
        · have hE := if_f c50 hE
          refine lv_bipush (v := 6) hx hb dX12_shapes_347 (by decide +kernel) ?_
          exact w349  z0 6 y ((q.1 - 1, q.2.1, q.2.2)) H locs ls hP hD hS (lv_sub hl [1, 0] rfl) hE
        · have hE := if_t c50 hE
          refine lv_iconst (v := 5) hx hb dX12_shapes_343 (by decide +kernel) ?_
          refine lv_goto (tgt := 349) hx hb dX12_shapes_344 (by decide) ?_
          exact w349  z0 5 y ((q.1 - 1, q.2.1, q.2.2)) H locs ls hP hD hS (lv_sub hl [1, 0] rfl) hE
      · have hE := if_t c49 hE
        refine lv_iconst (v := 3) hx hb dX12_shapes_333 (by decide +kernel) ?_
        refine lv_goto (tgt := 349) hx hb dX12_shapes_334 (by decide) ?_
        exact w349  z0 3 y ((q.1 - 1, q.2.1, q.2.2)) H locs ls hP hD hS (lv_sub hl [1, 0] rfl) hE
    have tc19 := lv_neT c19 (show (69 : Int32).toInt = 69 by decide +kernel)
    have tc22 := lv_neT c22 (show (70 : Int32).toInt = 70 by decide +kernel)
    have tc26 := lv_neT c26 (show (71 : Int32).toInt = 71 by decide +kernel)
    have tc28 := lv_neT c28 (show (72 : Int32).toInt = 72 by decide +kernel)
    have tc31 := lv_neT c31 (show (74 : Int32).toInt = 74 by decide +kernel)
    have tc34 := lv_neT c34 (show (75 : Int32).toInt = 75 by decide +kernel)
    have tc41 := lv_neT c41 (show (76 : Int32).toInt = 76 by decide +kernel)
    have tc48 := lv_neT c48 (show (73 : Int32).toInt = 73 by decide +kernel)
    refine lv_tableOut (tgt := 316) hx hb dX12_shapes_133 (by omega) (by decide) ?_
    refine lv_aload_n hx hb dX12_shapes_316 rfl (lv_at hl 1 rfl) ?_
    refine lv_dup hx hb dX12_shapes_317 rfl ?_
    refine va_get (D := D) (ci := 10) (v := .int q.1) (C := RX12) (T := TX12) (N := 40) hx hb hts inX12 hown hK hP 0 rfl rfl 31 (by decide) k0 (fun _ h9 => h9) rfl dX12_shapes_318 ?_
    refine lv_iconst (v := 1) hx hb dX12_shapes_321 (by decide +kernel) ?_
    refine lv_isub hx hb dX12_shapes_322 ?_
    refine va_put (D := D) (ci := 10) (v := .int (q.1 - 1)) (ty := .int) (C := RX12) (T := TX12) (N := 40) hx hb hts inX12 tyX12 tyX12_ok nmX12 hown hK hP hD hS 0 rfl rfl 31 (by decide) k0 (fun _ h9 => h9) rfl (by decide +kernel) rfl rfl (Nat.le_of_ble_eq_true rfl) dX12_shapes_323 (fun H locs hP hD hS => ?_)
    have hP : va_P D vwCl (wX g cA t s r c y d k ((q.1 - 1, q.2.1, q.2.2)) o m) H := hP
    have hD : va_D A (wX g cA t s r c y d k ((q.1 - 1, q.2.1, q.2.2)) o m) := hD
    refine lv_aload_n hx hb dX12_shapes_326 rfl (lv_at hl 1 rfl) ?_
    refine lv_iload_n hx hb dX12_shapes_327 rfl (lv_at hl 2 rfl) ?_
    refine lv_bipush (v := 73) hx hb dX12_shapes_328 (by decide +kernel) ?_
    refine lv_icmp_ne (tgt := 337) hx hb dX12_shapes_330 (by decide) (fun c46 => ?_) (fun c46 => ?_)
    · have hE := if_f c46 hE
      refine lv_iload_n hx hb dX12_shapes_337 rfl (lv_at hl 2 rfl) ?_
      refine lv_bipush (v := 77) hx hb dX12_shapes_338 (by decide +kernel) ?_
      refine lv_icmp_ne (tgt := 347) hx hb dX12_shapes_340 (by decide) (fun c47 => ?_) (fun c47 => ?_)
      · have hE := if_f c47 hE
        refine lv_bipush (v := 6) hx hb dX12_shapes_347 (by decide +kernel) ?_
        exact w349  z0 6 y ((q.1 - 1, q.2.1, q.2.2)) H locs ls hP hD hS (lv_sub hl [1, 0] rfl) hE
      · have hE := if_t c47 hE
        refine lv_iconst (v := 5) hx hb dX12_shapes_343 (by decide +kernel) ?_
        refine lv_goto (tgt := 349) hx hb dX12_shapes_344 (by decide) ?_
        exact w349  z0 5 y ((q.1 - 1, q.2.1, q.2.2)) H locs ls hP hD hS (lv_sub hl [1, 0] rfl) hE
    · have hE := if_t c46 hE
      refine lv_iconst (v := 3) hx hb dX12_shapes_333 (by decide +kernel) ?_
      refine lv_goto (tgt := 349) hx hb dX12_shapes_334 (by decide) ?_
      exact w349  z0 3 y ((q.1 - 1, q.2.1, q.2.2)) H locs ls hP hD hS (lv_sub hl [1, 0] rfl) hE
  have w90 : ∀ (y1 : Int32) (z0 : Int32) (y : mY) (q : mP) (H : Heap) (locs : List Loc) (ls : Array Slot), va_P D vwCl (wX g cA t s r c y d k q o m) H → va_D A (wX g cA t s r c y d k q o m) → va_S A S0.heap H locs → lv_has ls 6 [(0, .ref (g 0)), (1, .int y1)] → b_X12_shapes_90  y1 z0 y q = some u → W PP l EE (headSpec wsX12_shapes ({ frames := 2, cells := 0, slots := 0, locals := 44 })).room S0 MM (#[.ref (g 0), .int x1] : Array Value) below meth CC H locs 0 0 (MQ below (cQi D (wX g cA t s r c u.2.1 d k u.2.2 o m) A u.1) (#[.ref (g 0), .int x1] : Array Value) S0 0 0 A) (F0 MM 90 ls [.int z0]) := by
    intro y1 z0 y q
    intro H locs ls hP hD hS hl hE
    unfold b_X12_shapes_90 at hE
    refine lv_istore (lv' := [(4, .int z0), (0, .ref (g 0)), (1, .int y1)]) hx hb dX12_shapes_90 hl (by decide) rfl (fun ls hl => ?_)
    refine lv_aload_n hx hb dX12_shapes_92 rfl (lv_at hl 1 rfl) ?_
    refine va_get (D := D) (ci := 10) (v := .int y.1) (C := RX12) (T := TX12) (N := 40) hx hb hts inX12 hown hK hP 0 rfl rfl 17 (by decide) k2 (fun _ h9 => h9) rfl dX12_shapes_93 ?_
    refine lv_sipush (v := 400) hx hb dX12_shapes_96 (by decide +kernel) ?_
    refine lv_iload hx hb dX12_shapes_99 (lv_at hl 0 rfl) ?_
    refine lv_isub hx hb dX12_shapes_101 ?_
    refine lv_icmp_le (tgt := 108) hx hb dX12_shapes_102 (by decide) (fun c16 => ?_) (fun c16 => ?_)
    · have hE := if_t c16 hE
      refine lv_aload_n hx hb dX12_shapes_108 rfl (lv_at hl 1 rfl) ?_
      refine va_get (D := D) (ci := 10) (v := .int q.1) (C := RX12) (T := TX12) (N := 40) hx hb hts inX12 hown hK hP 0 rfl rfl 31 (by decide) k0 (fun _ h9 => h9) rfl dX12_shapes_109 ?_
      refine lv_if_le (tgt := 129) hx hb dX12_shapes_112 (by decide) (fun c17 => ?_) (fun c17 => ?_)
      · have hE := if_t c17 hE
        refine lv_iconst (v := 0) hx hb dX12_shapes_129 (by decide +kernel) ?_
        exact w130  y1 0 y q H locs ls hP hD hS (lv_sub hl [1, 2] rfl) hE
      · have hE := if_f c17 hE
        refine lv_aload_n hx hb dX12_shapes_115 rfl (lv_at hl 1 rfl) ?_
        refine va_get (D := D) (ci := 10) (v := .ref (g 19)) (C := RX12) (T := TX12) (N := 40) hx hb hts inX12 hown hK hP 0 rfl rfl 30 (by decide) k3 (fun _ h9 => h9) rfl dX12_shapes_116 ?_
        refine lv_aload_n hx hb dX12_shapes_119 rfl (lv_at hl 1 rfl) ?_
        refine va_get (D := D) (ci := 10) (v := .int q.1) (C := RX12) (T := TX12) (N := 40) hx hb hts inX12 hown hK hP 0 rfl rfl 31 (by decide) k0 (fun _ h9 => h9) rfl dX12_shapes_120 ?_
        refine lv_iconst (v := 1) hx hb dX12_shapes_123 (by decide +kernel) ?_
        refine lv_isub hx hb dX12_shapes_124 ?_
        have ⟨c18, hE⟩ := ck_some hE
        refine va_iald hx hb hK hP 19 0 rfl rfl c18 dX12_shapes_125 ?_
        refine lv_goto (tgt := 130) hx hb dX12_shapes_126 (by decide) ?_
        exact w130  y1 (q.2.2 ((q.1 - 1).toNatClampNeg)) y q H locs ls hP hD hS (lv_sub hl [1, 2] rfl) hE
    · have hE := if_f c16 hE
      refine lv_bipush (v := (-8)) hx hb dX12_shapes_105 (by decide +kernel) ?_
      obtain rfl := Option.some.inj hE
      exact rt_i hx hb hr hP hS rfl hlocks dX12_shapes_107
  have w75 : ∀ (y1 : Int32) (y : mY) (q : mP) (H : Heap) (locs : List Loc) (ls : Array Slot), va_P D vwCl (wX g cA t s r c y d k q o m) H → va_D A (wX g cA t s r c y d k q o m) → va_S A S0.heap H locs → lv_has ls 6 [(0, .ref (g 0)), (1, .int y1)] → b_X12_shapes_75  y1 y q = some u → W PP l EE (headSpec wsX12_shapes ({ frames := 2, cells := 0, slots := 0, locals := 44 })).room S0 MM (#[.ref (g 0), .int x1] : Array Value) below meth CC H locs 0 0 (MQ below (cQi D (wX g cA t s r c u.2.1 d k u.2.2 o m) A u.1) (#[.ref (g 0), .int x1] : Array Value) S0 0 0 A) (F0 MM 75 ls []) := by
    intro y1 y q
    intro H locs ls hP hD hS hl hE
    unfold b_X12_shapes_75 at hE
    refine lv_iconst (v := 0) hx hb dX12_shapes_75 (by decide +kernel) ?_
    refine lv_goto (tgt := 90) hx hb dX12_shapes_76 (by decide) ?_
    exact w90  y1 0 y q H locs ls hP hD hS (lv_sub hl [0, 1] rfl) hE
  have w63 : ∀ (y1 : Int32) (y : mY) (q : mP) (H : Heap) (locs : List Loc) (ls : Array Slot), va_P D vwCl (wX g cA t s r c y d k q o m) H → va_D A (wX g cA t s r c y d k q o m) → va_S A S0.heap H locs → lv_has ls 6 [(0, .ref (g 0)), (1, .int y1)] → b_X12_shapes_63  y1 y q = some u → W PP l EE (headSpec wsX12_shapes ({ frames := 2, cells := 0, slots := 0, locals := 44 })).room S0 MM (#[.ref (g 0), .int x1] : Array Value) below meth CC H locs 0 0 (MQ below (cQi D (wX g cA t s r c u.2.1 d k u.2.2 o m) A u.1) (#[.ref (g 0), .int x1] : Array Value) S0 0 0 A) (F0 MM 63 ls []) := by
    intro y1 y q
    intro H locs ls hP hD hS hl hE
    unfold b_X12_shapes_63 at hE
    refine lv_iload_n hx hb dX12_shapes_63 rfl (lv_at hl 1 rfl) ?_
    refine lv_bipush (v := 71) hx hb dX12_shapes_64 (by decide +kernel) ?_
    refine lv_icmp_eq (tgt := 75) hx hb dX12_shapes_66 (by decide) (fun c13 => ?_) (fun c13 => ?_)
    · have hE := if_t c13 hE
      exact w75  y1 y q H locs ls hP hD hS (lv_sub hl [0, 1] rfl) hE
    · have hE := if_f c13 hE
      refine lv_iload_n hx hb dX12_shapes_69 rfl (lv_at hl 1 rfl) ?_
      refine lv_bipush (v := 72) hx hb dX12_shapes_70 (by decide +kernel) ?_
      refine lv_icmp_ne (tgt := 79) hx hb dX12_shapes_72 (by decide) (fun c14 => ?_) (fun c14 => ?_)
      · have hE := if_f c14 hE
        refine lv_iload_n hx hb dX12_shapes_79 rfl (lv_at hl 1 rfl) ?_
        refine lv_bipush (v := 76) hx hb dX12_shapes_80 (by decide +kernel) ?_
        refine lv_icmp_ne (tgt := 89) hx hb dX12_shapes_82 (by decide) (fun c15 => ?_) (fun c15 => ?_)
        · have hE := if_f c15 hE
          refine lv_iconst (v := 2) hx hb dX12_shapes_89 (by decide +kernel) ?_
          exact w90  y1 2 y q H locs ls hP hD hS (lv_sub hl [0, 1] rfl) hE
        · have hE := if_t c15 hE
          refine lv_iconst (v := 1) hx hb dX12_shapes_85 (by decide +kernel) ?_
          refine lv_goto (tgt := 90) hx hb dX12_shapes_86 (by decide) ?_
          exact w90  y1 1 y q H locs ls hP hD hS (lv_sub hl [0, 1] rfl) hE
      · have hE := if_t c14 hE
        exact w75  y1 y q H locs ls hP hD hS (lv_sub hl [0, 1] rfl) hE
  have w47 : ∀ (y1 : Int32) (y3 : Int32) (y : mY) (q : mP) (H : Heap) (locs : List Loc) (ls : Array Slot), va_P D vwCl (wX g cA t s r c y d k q o m) H → va_D A (wX g cA t s r c y d k q o m) → va_S A S0.heap H locs → lv_has ls 6 [(0, .ref (g 0)), (1, .int y1), (3, .int y3)] → b_X12_shapes_47  y1 y3 y q = some u → W PP l EE (headSpec wsX12_shapes ({ frames := 2, cells := 0, slots := 0, locals := 44 })).room S0 MM (#[.ref (g 0), .int x1] : Array Value) below meth CC H locs 0 0 (MQ below (cQi D (wX g cA t s r c u.2.1 d k u.2.2 o m) A u.1) (#[.ref (g 0), .int x1] : Array Value) S0 0 0 A) (F0 MM 47 ls []) := by
    intro y1 y3 y q
    intro H locs ls hP hD hS hl hE
    unfold b_X12_shapes_47 at hE
    refine lv_iload_n hx hb dX12_shapes_47 rfl (lv_at hl 2 rfl) ?_
    refine lv_if_eq (tgt := 63) hx hb dX12_shapes_48 (by decide) (fun c11 => ?_) (fun c11 => ?_)
    · have hE := if_t c11 hE
      exact w63  y1 y q H locs ls hP hD hS (lv_sub hl [0, 1] rfl) hE
    · have hE := if_f c11 hE
      refine lv_aload_n hx hb dX12_shapes_51 rfl (lv_at hl 0 rfl) ?_
      refine va_get (D := D) (ci := 10) (v := .int q.1) (C := RX12) (T := TX12) (N := 40) hx hb hts inX12 hown hK hP 0 rfl rfl 31 (by decide) k0 (fun _ h9 => h9) rfl dX12_shapes_52 ?_
      refine lv_bipush (v := 12) hx hb dX12_shapes_55 (by decide +kernel) ?_
      refine lv_icmp_ne (tgt := 63) hx hb dX12_shapes_57 (by decide) (fun c12 => ?_) (fun c12 => ?_)
      · have hE := if_f c12 hE
        exact w63  y1 y q H locs ls hP hD hS (lv_sub hl [0, 1] rfl) hE
      · have hE := if_t c12 hE
        refine lv_bipush (v := (-22)) hx hb dX12_shapes_60 (by decide +kernel) ?_
        obtain rfl := Option.some.inj hE
        exact rt_i hx hb hr hP hS rfl hlocks dX12_shapes_62
  have w34 : ∀ (y1 : Int32) (y2 : Int32) (z0 : Int32) (y : mY) (q : mP) (H : Heap) (locs : List Loc) (ls : Array Slot), va_P D vwCl (wX g cA t s r c y d k q o m) H → va_D A (wX g cA t s r c y d k q o m) → va_S A S0.heap H locs → lv_has ls 6 [(0, .ref (g 0)), (1, .int y1), (2, .int y2)] → b_X12_shapes_34  y1 y2 z0 y q = some u → W PP l EE (headSpec wsX12_shapes ({ frames := 2, cells := 0, slots := 0, locals := 44 })).room S0 MM (#[.ref (g 0), .int x1] : Array Value) below meth CC H locs 0 0 (MQ below (cQi D (wX g cA t s r c u.2.1 d k u.2.2 o m) A u.1) (#[.ref (g 0), .int x1] : Array Value) S0 0 0 A) (F0 MM 34 ls [.int z0]) := by
    intro y1 y2 z0 y q
    intro H locs ls hP hD hS hl hE
    unfold b_X12_shapes_34 at hE
    refine lv_istore_n (lv' := [(3, .int z0), (0, .ref (g 0)), (1, .int y1), (2, .int y2)]) hx hb dX12_shapes_34 rfl hl (by decide) rfl (fun ls hl => ?_)
    refine lv_iload_n hx hb dX12_shapes_35 rfl (lv_at hl 3 rfl) ?_
    refine lv_if_le (tgt := 47) hx hb dX12_shapes_36 (by decide) (fun c7 => ?_) (fun c7 => ?_)
    · have hE := if_t c7 hE
      exact w47  y1 z0 y q H locs ls hP hD hS (lv_sub hl [1, 2, 0] rfl) hE
    · have hE := if_f c7 hE
      refine lv_aload_n hx hb dX12_shapes_39 rfl (lv_at hl 1 rfl) ?_
      refine lv_iload_n hx hb dX12_shapes_40 rfl (lv_at hl 3 rfl) ?_
      obtain ⟨u8, h9, hE⟩ := bd_some hE
      refine cw_i (As := [.int y2]) (rest := []) (r := u8) (wc := (wX g cA t s r c y d k q o m)) ⟨hx, hb, hml, hown, hts⟩ (c_X12_isOpen l D cA g H.size y2 t s r c y d k q o m u8 h9) (cwV 1 hts hX12_shapes_X12_isOpen_425 rfl rfl rfl (by decide +kernel) ⟨Nat.le_of_ble_eq_true rfl, Nat.le_of_ble_eq_true rfl⟩) rfl hl.1 rfl (Nat.le_of_ble_eq_true rfl) dX12_shapes_41 ⟨Nat.zero_le _, Nat.zero_le _⟩ hK hP hD hS hA (va_recv hK hP (ci := 10) (q0 := 0) rfl rfl) [g 0, g 1, g 2, g 3, g 4, g 5, g 6, g 7, g 8, g 9, g 10, g 11, g 12, g 13, g 14, g 15, g 16, g 17, g 18, g 19] rfl rfl (fun _ _ _ _ h => h) (fun _ _ _ => trivial) (fun H locs hP hD hS => ?_)
      have hP : va_P D vwCl (wX g cA t s r c y d k q o m) H := hP
      have hD : va_D A (wX g cA t s r c y d k q o m) := hD
      refine lv_if_eq (tgt := 60) hx hb dX12_shapes_44 (by decide) (fun c10 => ?_) (fun c10 => ?_)
      · have hE := if_t c10 hE
        refine lv_bipush (v := (-22)) hx hb dX12_shapes_60 (by decide +kernel) ?_
        obtain rfl := Option.some.inj hE
        exact rt_i hx hb hr hP hS rfl hlocks dX12_shapes_62
      · have hE := if_f c10 hE
        exact w47  y1 z0 y q H locs ls hP hD hS (lv_sub hl [1, 2, 0] rfl) hE
  have w29 : ∀ (y1 : Int32) (y2 : Int32) (y : mY) (q : mP) (H : Heap) (locs : List Loc) (ls : Array Slot), va_P D vwCl (wX g cA t s r c y d k q o m) H → va_D A (wX g cA t s r c y d k q o m) → va_S A S0.heap H locs → lv_has ls 6 [(0, .ref (g 0)), (1, .int y1), (2, .int y2)] → b_X12_shapes_29  y1 y2 y q = some u → W PP l EE (headSpec wsX12_shapes ({ frames := 2, cells := 0, slots := 0, locals := 44 })).room S0 MM (#[.ref (g 0), .int x1] : Array Value) below meth CC H locs 0 0 (MQ below (cQi D (wX g cA t s r c u.2.1 d k u.2.2 o m) A u.1) (#[.ref (g 0), .int x1] : Array Value) S0 0 0 A) (F0 MM 29 ls []) := by
    intro y1 y2 y q
    intro H locs ls hP hD hS hl hE
    unfold b_X12_shapes_29 at hE
    refine lv_iconst (v := 1) hx hb dX12_shapes_29 (by decide +kernel) ?_
    refine lv_goto (tgt := 34) hx hb dX12_shapes_30 (by decide) ?_
    exact w34  y1 y2 1 y q H locs ls hP hD hS (lv_sub hl [0, 1, 2] rfl) hE
  unfold f_X12_shapes at hE
  suffices main : ∀ (H : Heap) (locs : List Loc) (ls : Array Slot), va_P D vwCl (wX g cA t s r c y d k q o m) H → va_D A (wX g cA t s r c y d k q o m) → va_S A S0.heap H locs → lv_has ls 6 [(0, .ref (g 0)), (1, .int x1)] → W PP l EE (headSpec wsX12_shapes ({ frames := 2, cells := 0, slots := 0, locals := 44 })).room S0 MM (#[.ref (g 0), .int x1] : Array Value) below meth CC H locs 0 0 (MQ below (cQi D (wX g cA t s r c u.2.1 d k u.2.2 o m) A u.1) (#[.ref (g 0), .int x1] : Array Value) S0 0 0 A) (F0 MM 0 ls []) from main _ _ _ hP hD hS hl
  intro H locs ls hP hD hS hl
  refine lv_iload_n hx hb dX12_shapes_0 rfl (lv_at hl 1 rfl) ?_
  obtain ⟨u1, h2, hE⟩ := bd_some hE
  refine cs_i (As := [.int x1]) (rest := []) (r := u1) ⟨hx, hb, hml, hown, hts⟩ (c_X12_expected l x1 H.size u1 h2) (cwS 1 hts hX12_shapes_X12_expected_422 rfl rfl rfl (by decide +kernel) ⟨Nat.le_of_ble_eq_true rfl, Nat.le_of_ble_eq_true rfl⟩) rfl hl.1 rfl (Nat.le_of_ble_eq_true rfl) dX12_shapes_1 ⟨Nat.zero_le _, Nat.zero_le _⟩ hP hD hS hA (fun H locs hP hD hS => ?_)
  refine lv_istore_n (lv' := [(2, .int u1), (0, .ref (g 0)), (1, .int x1)]) hx hb dX12_shapes_4 rfl hl (by decide) rfl (fun ls hl => ?_)
  refine lv_iload_n hx hb dX12_shapes_5 rfl (lv_at hl 2 rfl) ?_
  refine lv_bipush (v := 69) hx hb dX12_shapes_6 (by decide +kernel) ?_
  refine lv_icmp_eq (tgt := 29) hx hb dX12_shapes_8 (by decide) (fun c3 => ?_) (fun c3 => ?_)
  · have hE := if_t c3 hE
    exact w29  x1 u1 y q H locs ls hP hD hS (lv_sub hl [1, 2, 0] rfl) hE
  · have hE := if_f c3 hE
    refine lv_iload_n hx hb dX12_shapes_11 rfl (lv_at hl 2 rfl) ?_
    refine lv_bipush (v := 72) hx hb dX12_shapes_12 (by decide +kernel) ?_
    refine lv_icmp_eq (tgt := 29) hx hb dX12_shapes_14 (by decide) (fun c4 => ?_) (fun c4 => ?_)
    · have hE := if_t c4 hE
      exact w29  x1 u1 y q H locs ls hP hD hS (lv_sub hl [1, 2, 0] rfl) hE
    · have hE := if_f c4 hE
      refine lv_iload_n hx hb dX12_shapes_17 rfl (lv_at hl 2 rfl) ?_
      refine lv_bipush (v := 74) hx hb dX12_shapes_18 (by decide +kernel) ?_
      refine lv_icmp_eq (tgt := 29) hx hb dX12_shapes_20 (by decide) (fun c5 => ?_) (fun c5 => ?_)
      · have hE := if_t c5 hE
        exact w29  x1 u1 y q H locs ls hP hD hS (lv_sub hl [1, 2, 0] rfl) hE
      · have hE := if_f c5 hE
        refine lv_iload_n hx hb dX12_shapes_23 rfl (lv_at hl 2 rfl) ?_
        refine lv_bipush (v := 76) hx hb dX12_shapes_24 (by decide +kernel) ?_
        refine lv_icmp_ne (tgt := 33) hx hb dX12_shapes_26 (by decide) (fun c6 => ?_) (fun c6 => ?_)
        · have hE := if_f c6 hE
          refine lv_iconst (v := 0) hx hb dX12_shapes_33 (by decide +kernel) ?_
          exact w34  x1 u1 0 y q H locs ls hP hD hS (lv_sub hl [1, 2, 0] rfl) hE
        · have hE := if_t c6 hE
          exact w29  x1 u1 y q H locs ls hP hD hS (lv_sub hl [1, 2, 0] rfl) hE
