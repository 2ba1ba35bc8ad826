def LT (PP : Program) (l : Launch) (EE : Env) (S0 : State) (MM : MethodId) (below : List Frame) (meth : Method) (CC : Code) (DD : va_G) (cA : Nat → ClassId) (b : Nat) (g gm : Nat → Nat) (bo : Nat) (x4 : Int32) (cells slots pc : Nat) : Prop := ∀ (t : tT) (s : tR) (y : tY) (d : tD) (q : tP) (k : tK) (r : tR) (c : tC) (o : tO) (m : tM) (T : mT) (S : mS) (R : mR) (C : mC) (Y : mY) (D : mD) (K : mK) (Q : mP) (O : mO) (M : mM) (f : Nat → Int64), BW t s y d q k r c o m T S R C Y D K Q O M → OC o → ∀ (H : Heap) (locs : List Loc), va_P DD vwCl (wZ g gm bo cA t s y d q k r c o m f T S R C Y D K Q O M) H → va_D (fun q : Nat => S0.heap.size ≤ q) (wZ g gm bo cA t s y d q k r c o m f T S R C Y D K Q O M) → va_S (fun q : Nat => S0.heap.size ≤ q) S0.heap H locs → ∀ (ls : Array Slot), lv_has ls 7 [(0, .ref b), (1, .ref (g 28)), (2, .ref (gm 0)), (3, .ref bo), (4, .int x4)] → W PP l EE room_1 S0 MM #[Value.ref b] below meth CC H locs cells slots (lw_Z below #[Value.ref b] S0) (F0 MM pc ls [])
set_option maxHeartbeats 4000000 in
set_option maxRecDepth 100000 in
theorem law_type {PP : Program} {l : Launch} {EE : Env} {S0 : State} {MM : MethodId} {below : List Frame} {meth : Method} {CC : Code} {DD : va_G} {cA : Nat → ClassId} {b L : Nat} {xs : Nat → Int32} {ad adK adV sa : Nat → Nat} {tA tS : Nat} (hst : l.stackTraces = false) (hL : L ≤ 1536) (C0 : lw_At PP S0 MM meth CC b L xs) (hK : va_K DD vwCl (bTY cA) S0) (hX0 : SX ad adK adV tA tS (fun q : Nat => S0.heap.size ≤ q) S0 S0.heap) (hE0 : EX sa (fun q : Nat => S0.heap.size ≤ q) S0 S0.heap) (g gm : Nat → Nat) (bo : Nat) {j : Nat} (hj : 3 * j + 3 ≤ L) (KT : LT PP l EE S0 MM below meth CC DD cA b g gm bo (nI (3 * j)) (50 + (j + 1)) (3551 + 6 * (j + 1)) 424) : LT PP l EE S0 MM below meth CC DD cA b g gm bo (nI (3 * j)) (50 + j) (3551 + 6 * j) 80 := by
  intro t s y d q k r c o m T S R C Y D K Q O M f hB hO H locs hP hD hS ls hl
  obtain ⟨hx, hb, hr, hml, hown, hts, hXs, hbl, hlocks, hgv⟩ := C0
  have hb : CC.code = cL_law := hb
  have hown : S0.vm.findClass RL = some MM.cls := hown
  have htl : ∀ w ∈ wsL_law, w.before #[Value.ref b] S0 = true := fun w h => hts w (wl_all w h)
  have hA : ∀ q : Nat, S0.heap.size ≤ q → (fun q : Nat => S0.heap.size ≤ q) q := fun _ h => h
  have hbA : ¬ (fun q : Nat => S0.heap.size ≤ q) b := Nat.not_le.mpr hbl
  have h1 : vp_in (nI (3 * j) + 1) L := by rw [nI_1]; exact vp_in_nI (by omega) (by omega)
  have h2 : vp_in (nI (3 * j) + 2) L := by rw [show nI (3 * j) + 2 = nI (3 * j + 2) from nI_add (3 * j) 2]; exact vp_in_nI (by omega) (by omega)
  refine lv_aload_n hx hb dL_law_80 rfl (lv_at hl 1 rfl) ?_
  refine lv_aload_n hx hb dL_law_81 rfl (lv_at hl 0 rfl) ?_
  refine lv_iload hx hb dL_law_82 (lv_at hl 4 rfl) ?_
  refine lv_iconst (v := 1) hx hb dL_law_84 (by decide +kernel) ?_
  refine lv_iadd hx hb dL_law_85 ?_
  refine va_sld hx hb hXs hbl hbA hS h1 dL_law_86 ?_
  refine lv_i2c hx hb dL_law_87 rfl ?_
  obtain ⟨v, t1, T1, e1, e2, hB1⟩ := o_type hB (okc_m (xs (nI (3 * j) + 1).toNatClampNeg))
  refine cn_i (As := [.int (((xs (nI (3 * j) + 1).toNatClampNeg).toUInt32 % 65536).toInt32)]) (rest := []) (r := v) (w0 := (wZ g gm bo cA t s y d q k r c o m f T S R C Y D K Q O M)) (N := 50) ⟨hx, hb, hml, hown, htl⟩ (c_X11_type l DD cA ad adK adV tA tS g H.size (((xs (nI (3 * j) + 1).toNatClampNeg).toUInt32 % 65536).toInt32) t s y d q k r c o m (v, t1) e1) (cwV 1 htl gL_law_X11_type rfl rfl rfl (by decide +kernel) ⟨Nat.le_of_ble_eq_true rfl, Nat.le_of_ble_eq_true rfl⟩) rfl hl.1 rfl (Nat.le_of_ble_eq_true rfl) dL_law_88 ⟨by show _ ≤ 1080; omega, by show _ ≤ 11779; omega⟩ hK hP hD hS hA (va_recv hK hP (ci := 9) (q0 := 28) rfl rfl) [0, 1, 2, 3, 4, 5, 6, 7, 8, 9, 10, 11, 12, 13, 14, 15, 16, 17, 18, 19, 20, 21, 22, 23, 24, 25, 26, 27, 28] [29, 30, 31, 32, 33, 34, 35, 36, 37, 38, 39, 40, 41, 42, 43, 44, 45, 46, 47, 48, 49] (wZ g gm bo cA t1 s y d q k r c o m f T S R C Y D K Q O M) rfl (by decide +kernel) rfl (wr := List.filterMap (fun i => (wZ g gm bo cA t s y d q k r c o m f T S R C Y D K Q O M)[i]?) [29, 30, 31, 32, 33, 34, 35, 36, 37, 38, 39, 40, 41, 42, 43, 44, 45, 46, 47, 48, 49]) rfl rfl (by decide +kernel) rfl (by decide +kernel) [g 0, g 1, g 2, g 3, g 4, g 5, g 6, g 7, g 8, g 9, g 10, g 11, g 12, g 13, g 14, g 15, g 16, g 17, g 18, g 19, g 20, g 21, g 22, g 23, g 24, g 25, g 26, g 27, g 28, bo, gm 0, gm 1, gm 2, gm 3, gm 4, gm 5, gm 6, gm 7, gm 8, gm 9, gm 10, gm 11, gm 12, gm 13, gm 14, gm 15, gm 16, gm 17, gm 18, gm 19] rfl rfl (fun a U g mk h => SX.blind a U g mk h) (fun U hU hW => SX.call hX0 hS (va_free (wc := (wG g cA t s y d q k r c o m)) hD hS hA [0, 1, 2, 3, 4, 5, 6, 7, 8, 9, 10, 11, 12, 13, 14, 15, 16, 17, 18, 19, 20, 21, 22, 23, 24, 25, 26, 27, 28] rfl) U hU hW) (fun H locs hP hD hS => ?_)
  have hP : va_P DD vwCl (wZ g gm bo cA t1 s y d q k r c o m f T S R C Y D K Q O M) H := hP
  have hD : va_D (fun q : Nat => S0.heap.size ≤ q) (wZ g gm bo cA t1 s y d q k r c o m f T S R C Y D K Q O M) := hD
  refine lv_aload_n hx hb dL_law_91 rfl (lv_at hl 2 rfl) ?_
  refine lv_aload_n hx hb dL_law_92 rfl (lv_at hl 0 rfl) ?_
  refine lv_iload hx hb dL_law_93 (lv_at hl 4 rfl) ?_
  refine lv_iconst (v := 1) hx hb dL_law_95 (by decide +kernel) ?_
  refine lv_iadd hx hb dL_law_96 ?_
  refine va_sld hx hb hXs hbl hbA hS h1 dL_law_97 ?_
  refine lv_i2c hx hb dL_law_98 rfl ?_
  refine cn_i (As := [.int (((xs (nI (3 * j) + 1).toNatClampNeg).toUInt32 % 65536).toInt32)]) (rest := [.int v]) (r := v) (w0 := (wZ g gm bo cA t1 s y d q k r c o m f T S R C Y D K Q O M)) (N := 50) ⟨hx, hb, hml, hown, htl⟩ (c_X12_type l DD cA gm H.size (((xs (nI (3 * j) + 1).toNatClampNeg).toUInt32 % 65536).toInt32) T S R C Y D K Q O M (v, T1, (0, M.2)) e2) (cwV 1 htl gL_law_X12_type rfl rfl rfl (by decide +kernel) ⟨Nat.le_of_ble_eq_true rfl, Nat.le_of_ble_eq_true rfl⟩) rfl hl.1 rfl (Nat.le_of_ble_eq_true rfl) dL_law_99 ⟨by show _ ≤ 1080; omega, by show _ ≤ 11779; omega⟩ hK hP hD hS hA (va_recv hK hP (ci := 10) (q0 := 30) rfl rfl) [30, 31, 32, 33, 34, 35, 36, 37, 38, 39, 40, 41, 42, 43, 44, 45, 46, 47, 48, 49] [0, 1, 2, 3, 4, 5, 6, 7, 8, 9, 10, 11, 12, 13, 14, 15, 16, 17, 18, 19, 20, 21, 22, 23, 24, 25, 26, 27, 28, 29] (wZ g gm bo cA t1 s y d q k r c o m f T1 S R C Y D K Q O (0, M.2)) rfl (by decide +kernel) rfl (wr := List.filterMap (fun i => (wZ g gm bo cA t1 s y d q k r c o m f T S R C Y D K Q O M)[i]?) [0, 1, 2, 3, 4, 5, 6, 7, 8, 9, 10, 11, 12, 13, 14, 15, 16, 17, 18, 19, 20, 21, 22, 23, 24, 25, 26, 27, 28, 29]) rfl rfl (by decide +kernel) rfl (by decide +kernel) [g 0, g 1, g 2, g 3, g 4, g 5, g 6, g 7, g 8, g 9, g 10, g 11, g 12, g 13, g 14, g 15, g 16, g 17, g 18, g 19, g 20, g 21, g 22, g 23, g 24, g 25, g 26, g 27, g 28, bo, gm 0, gm 1, gm 2, gm 3, gm 4, gm 5, gm 6, gm 7, gm 8, gm 9, gm 10, gm 11, gm 12, gm 13, gm 14, gm 15, gm 16, gm 17, gm 18, gm 19] rfl rfl (fun _ _ _ _ _ => trivial) (fun _ _ _ => trivial) (fun H locs hP hD hS => ?_)
  have hP : va_P DD vwCl (wZ g gm bo cA t1 s y d q k r c o m f T1 S R C Y D K Q O (0, M.2)) H := hP
  have hD : va_D (fun q : Nat => S0.heap.size ≤ q) (wZ g gm bo cA t1 s y d q k r c o m f T1 S R C Y D K Q O (0, M.2)) := hD
  refine lv_icmp_eq (tgt := 424) hx hb dL_law_102 (by decide) (fun _ => ?_) (fun z => absurd rfl z)
  refine W.widen (k := 50 + (j + 1)) (n := 3551 + 6 * (j + 1)) (by omega) (by omega) ?_
  exact KT _ _ _ _ _ _ _ _ _ _ _ _ _ _ _ _ _ _ _ _ _ hB1 hO H locs hP hD hS ls (lv_sub hl [0, 1, 2, 3, 4] rfl)
set_option maxHeartbeats 4000000 in
set_option maxRecDepth 100000 in
theorem law_count {PP : Program} {l : Launch} {EE : Env} {S0 : State} {MM : MethodId} {below : List Frame} {meth : Method} {CC : Code} {DD : va_G} {cA : Nat → ClassId} {b L : Nat} {xs : Nat → Int32} {ad adK adV sa : Nat → Nat} {tA tS : Nat} (hst : l.stackTraces = false) (hL : L ≤ 1536) (C0 : lw_At PP S0 MM meth CC b L xs) (hK : va_K DD vwCl (bTY cA) S0) (hX0 : SX ad adK adV tA tS (fun q : Nat => S0.heap.size ≤ q) S0 S0.heap) (hE0 : EX sa (fun q : Nat => S0.heap.size ≤ q) S0 S0.heap) (g gm : Nat → Nat) (bo : Nat) {j : Nat} (hj : 3 * j + 3 ≤ L) (KT : LT PP l EE S0 MM below meth CC DD cA b g gm bo (nI (3 * j)) (50 + (j + 1)) (3551 + 6 * (j + 1)) 424) : LT PP l EE S0 MM below meth CC DD cA b g gm bo (nI (3 * j)) (50 + j) (3551 + 6 * j) 399 := by
  intro t s y d q k r c o m T S R C Y D K Q O M f hB hO H locs hP hD hS ls hl
  obtain ⟨hx, hb, hr, hml, hown, hts, hXs, hbl, hlocks, hgv⟩ := C0
  have hb : CC.code = cL_law := hb
  have hown : S0.vm.findClass RL = some MM.cls := hown
  have htl : ∀ w ∈ wsL_law, w.before #[Value.ref b] S0 = true := fun w h => hts w (wl_all w h)
  have hA : ∀ q : Nat, S0.heap.size ≤ q → (fun q : Nat => S0.heap.size ≤ q) q := fun _ h => h
  have hbA : ¬ (fun q : Nat => S0.heap.size ≤ q) b := Nat.not_le.mpr hbl
  have h1 : vp_in (nI (3 * j) + 1) L := by rw [nI_1]; exact vp_in_nI (by omega) (by omega)
  have h2 : vp_in (nI (3 * j) + 2) L := by rw [show nI (3 * j) + 2 = nI (3 * j + 2) from nI_add (3 * j) 2]; exact vp_in_nI (by omega) (by omega)
  refine lv_aload_n hx hb dL_law_399 rfl (lv_at hl 1 rfl) ?_
  refine lv_aload_n hx hb dL_law_400 rfl (lv_at hl 0 rfl) ?_
  refine lv_iload hx hb dL_law_401 (lv_at hl 4 rfl) ?_
  refine lv_iconst (v := 1) hx hb dL_law_403 (by decide +kernel) ?_
  refine lv_iadd hx hb dL_law_404 ?_
  refine va_sld hx hb hXs hbl hbA hS h1 dL_law_405 ?_
  obtain ⟨v, e1, e2⟩ := o_count hB (xs (nI (3 * j) + 1).toNatClampNeg)
  refine cn_i (As := [.int (xs (nI (3 * j) + 1).toNatClampNeg)]) (rest := []) (r := v) (w0 := (wZ g gm bo cA t s y d q k r c o m f T S R C Y D K Q O M)) (N := 50) ⟨hx, hb, hml, hown, htl⟩ (c_X11_count l DD cA ad adK adV tA tS g H.size (xs (nI (3 * j) + 1).toNatClampNeg) t s y d q k r c o m v e1) (cwV 1 htl gL_law_X11_count rfl rfl rfl (by decide +kernel) ⟨Nat.le_of_ble_eq_true rfl, Nat.le_of_ble_eq_true rfl⟩) rfl hl.1 rfl (Nat.le_of_ble_eq_true rfl) dL_law_406 ⟨by show _ ≤ 1080; omega, by show _ ≤ 11779; omega⟩ hK hP hD hS hA (va_recv hK hP (ci := 9) (q0 := 28) rfl rfl) [0, 1, 2, 3, 4, 5, 6, 7, 8, 9, 10, 11, 12, 13, 14, 15, 16, 17, 18, 19, 20, 21, 22, 23, 24, 25, 26, 27, 28] [29, 30, 31, 32, 33, 34, 35, 36, 37, 38, 39, 40, 41, 42, 43, 44, 45, 46, 47, 48, 49] (wZ g gm bo cA t s y d q k r c o m f T S R C Y D K Q O M) rfl (by decide +kernel) rfl (wr := List.filterMap (fun i => (wZ g gm bo cA t s y d q k r c o m f T S R C Y D K Q O M)[i]?) [29, 30, 31, 32, 33, 34, 35, 36, 37, 38, 39, 40, 41, 42, 43, 44, 45, 46, 47, 48, 49]) rfl rfl (by decide +kernel) rfl (by decide +kernel) [g 0, g 1, g 2, g 3, g 4, g 5, g 6, g 7, g 8, g 9, g 10, g 11, g 12, g 13, g 14, g 15, g 16, g 17, g 18, g 19, g 20, g 21, g 22, g 23, g 24, g 25, g 26, g 27, g 28, bo, gm 0, gm 1, gm 2, gm 3, gm 4, gm 5, gm 6, gm 7, gm 8, gm 9, gm 10, gm 11, gm 12, gm 13, gm 14, gm 15, gm 16, gm 17, gm 18, gm 19] rfl rfl (fun a U g mk h => SX.blind a U g mk h) (fun U hU hW => SX.call hX0 hS (va_free (wc := (wG g cA t s y d q k r c o m)) hD hS hA [0, 1, 2, 3, 4, 5, 6, 7, 8, 9, 10, 11, 12, 13, 14, 15, 16, 17, 18, 19, 20, 21, 22, 23, 24, 25, 26, 27, 28] rfl) U hU hW) (fun H locs hP hD hS => ?_)
  have hP : va_P DD vwCl (wZ g gm bo cA t s y d q k r c o m f T S R C Y D K Q O M) H := hP
  have hD : va_D (fun q : Nat => S0.heap.size ≤ q) (wZ g gm bo cA t s y d q k r c o m f T S R C Y D K Q O M) := hD
  refine lv_aload_n hx hb dL_law_409 rfl (lv_at hl 2 rfl) ?_
  refine lv_aload_n hx hb dL_law_410 rfl (lv_at hl 0 rfl) ?_
  refine lv_iload hx hb dL_law_411 (lv_at hl 4 rfl) ?_
  refine lv_iconst (v := 1) hx hb dL_law_413 (by decide +kernel) ?_
  refine lv_iadd hx hb dL_law_414 ?_
  refine va_sld hx hb hXs hbl hbA hS h1 dL_law_415 ?_
  refine cn_i (As := [.int (xs (nI (3 * j) + 1).toNatClampNeg)]) (rest := [.int v]) (r := v) (w0 := (wZ g gm bo cA t s y d q k r c o m f T S R C Y D K Q O M)) (N := 50) ⟨hx, hb, hml, hown, htl⟩ (c_X12_count l DD cA gm H.size (xs (nI (3 * j) + 1).toNatClampNeg) T S R C Y D K Q O M (v, (0, M.2)) e2) (cwV 1 htl gL_law_X12_count rfl rfl rfl (by decide +kernel) ⟨Nat.le_of_ble_eq_true rfl, Nat.le_of_ble_eq_true rfl⟩) rfl hl.1 rfl (Nat.le_of_ble_eq_true rfl) dL_law_416 ⟨by show _ ≤ 1080; omega, by show _ ≤ 11779; omega⟩ hK hP hD hS hA (va_recv hK hP (ci := 10) (q0 := 30) rfl rfl) [30, 31, 32, 33, 34, 35, 36, 37, 38, 39, 40, 41, 42, 43, 44, 45, 46, 47, 48, 49] [0, 1, 2, 3, 4, 5, 6, 7, 8, 9, 10, 11, 12, 13, 14, 15, 16, 17, 18, 19, 20, 21, 22, 23, 24, 25, 26, 27, 28, 29] (wZ g gm bo cA t s y d q k r c o m f T S R C Y D K Q O (0, M.2)) rfl (by decide +kernel) rfl (wr := List.filterMap (fun i => (wZ g gm bo cA t s y d q k r c o m f T S R C Y D K Q O M)[i]?) [0, 1, 2, 3, 4, 5, 6, 7, 8, 9, 10, 11, 12, 13, 14, 15, 16, 17, 18, 19, 20, 21, 22, 23, 24, 25, 26, 27, 28, 29]) rfl rfl (by decide +kernel) rfl (by decide +kernel) [g 0, g 1, g 2, g 3, g 4, g 5, g 6, g 7, g 8, g 9, g 10, g 11, g 12, g 13, g 14, g 15, g 16, g 17, g 18, g 19, g 20, g 21, g 22, g 23, g 24, g 25, g 26, g 27, g 28, bo, gm 0, gm 1, gm 2, gm 3, gm 4, gm 5, gm 6, gm 7, gm 8, gm 9, gm 10, gm 11, gm 12, gm 13, gm 14, gm 15, gm 16, gm 17, gm 18, gm 19] rfl rfl (fun _ _ _ _ _ => trivial) (fun _ _ _ => trivial) (fun H locs hP hD hS => ?_)
  have hP : va_P DD vwCl (wZ g gm bo cA t s y d q k r c o m f T S R C Y D K Q O (0, M.2)) H := hP
  have hD : va_D (fun q : Nat => S0.heap.size ≤ q) (wZ g gm bo cA t s y d q k r c o m f T S R C Y D K Q O (0, M.2)) := hD
  refine lv_icmp_eq (tgt := 424) hx hb dL_law_419 (by decide) (fun _ => ?_) (fun z => absurd rfl z)
  refine W.widen (k := 50 + (j + 1)) (n := 3551 + 6 * (j + 1)) (by omega) (by omega) ?_
  exact KT _ _ _ _ _ _ _ _ _ _ _ _ _ _ _ _ _ _ _ _ _ (hB.th 0) hO H locs hP hD hS ls (lv_sub hl [0, 1, 2, 3, 4] rfl)
set_option maxHeartbeats 4000000 in
set_option maxRecDepth 100000 in
theorem law_run {PP : Program} {l : Launch} {EE : Env} {S0 : State} {MM : MethodId} {below : List Frame} {meth : Method} {CC : Code} {DD : va_G} {cA : Nat → ClassId} {b L : Nat} {xs : Nat → Int32} {ad adK adV sa : Nat → Nat} {tA tS : Nat} (hst : l.stackTraces = false) (hL : L ≤ 1536) (C0 : lw_At PP S0 MM meth CC b L xs) (hK : va_K DD vwCl (bTY cA) S0) (hX0 : SX ad adK adV tA tS (fun q : Nat => S0.heap.size ≤ q) S0 S0.heap) (hE0 : EX sa (fun q : Nat => S0.heap.size ≤ q) S0 S0.heap) (g gm : Nat → Nat) (bo : Nat) {j : Nat} (hj : 3 * j + 3 ≤ L) (KT : LT PP l EE S0 MM below meth CC DD cA b g gm bo (nI (3 * j)) (50 + (j + 1)) (3551 + 6 * (j + 1)) 424) : LT PP l EE S0 MM below meth CC DD cA b g gm bo (nI (3 * j)) (50 + j) (3551 + 6 * j) 107 := by
  intro t s y d q k r c o m T S R C Y D K Q O M f hB hO H locs hP hD hS ls hl
  obtain ⟨hx, hb, hr, hml, hown, hts, hXs, hbl, hlocks, hgv⟩ := C0
  have hb : CC.code = cL_law := hb
  have hown : S0.vm.findClass RL = some MM.cls := hown
  have htl : ∀ w ∈ wsL_law, w.before #[Value.ref b] S0 = true := fun w h => hts w (wl_all w h)
  have hA : ∀ q : Nat, S0.heap.size ≤ q → (fun q : Nat => S0.heap.size ≤ q) q := fun _ h => h
  have hbA : ¬ (fun q : Nat => S0.heap.size ≤ q) b := Nat.not_le.mpr hbl
  have h1 : vp_in (nI (3 * j) + 1) L := by rw [nI_1]; exact vp_in_nI (by omega) (by omega)
  have h2 : vp_in (nI (3 * j) + 2) L := by rw [show nI (3 * j) + 2 = nI (3 * j + 2) from nI_add (3 * j) 2]; exact vp_in_nI (by omega) (by omega)
  rcases o_run hB hO (xs (nI (3 * j) + 1).toNatClampNeg) with ⟨v, t1, s1, y1, d1, q1, k1, r1, c1, o1, m1, T1, S1, R1, C1, Y1, D1, K1', Q1, O1, M1, e1, e2, e3, hB1, hO1⟩ | ⟨e1, e2⟩
  · refine lv_aload_n hx hb dL_law_107 rfl (lv_at hl 1 rfl) ?_
    refine lv_aload_n hx hb dL_law_108 rfl (lv_at hl 0 rfl) ?_
    refine lv_iload hx hb dL_law_109 (lv_at hl 4 rfl) ?_
    refine lv_iconst (v := 1) hx hb dL_law_111 (by decide +kernel) ?_
    refine lv_iadd hx hb dL_law_112 ?_
    refine va_sld hx hb hXs hbl hbA hS h1 dL_law_113 ?_
    refine lv_aload_n hx hb dL_law_114 rfl (lv_at hl 3 rfl) ?_
    refine ch_i (As := [.ref (g 28), .int (xs (nI (3 * j) + 1).toNatClampNeg), .ref bo]) (rest := []) (r := 0) (w0 := (wZ g gm bo cA t s y d q k r c o m f T S R C Y D K Q O M)) (N := 50) ⟨hx, hb, hml, hown, htl⟩ (c_L_run l DD cA ad adK adV tA tS g bo H.size (xs (nI (3 * j) + 1).toNatClampNeg) t s y d q k r c o m f (v, t1, s1, y1, d1, q1, k1, r1, c1, o1, m1) e1) (vx_cwSW 3 htl gL_law_L_run rfl rfl rfl (by decide +kernel) ⟨Nat.le_of_ble_eq_true rfl, Nat.le_of_ble_eq_true rfl⟩) rfl hl.1 rfl (Nat.le_of_ble_eq_true rfl) dL_law_115 ⟨by show _ ≤ 1080; omega, by show _ ≤ 11779; omega⟩ hK hP hD hS hA [0, 1, 2, 3, 4, 5, 6, 7, 8, 9, 10, 11, 12, 13, 14, 15, 16, 17, 18, 19, 20, 21, 22, 23, 24, 25, 26, 27, 28, 29] [30, 31, 32, 33, 34, 35, 36, 37, 38, 39, 40, 41, 42, 43, 44, 45, 46, 47, 48, 49] (wZ g gm bo cA t1 s1 y1 d1 q1 k1 r1 c1 o1 m1 (vp_updL f 0 v.toInt64) T S R C Y D K Q O M) rfl (by decide +kernel) rfl (wr := List.filterMap (fun i => (wZ g gm bo cA t s y d q k r c o m f T S R C Y D K Q O M)[i]?) [30, 31, 32, 33, 34, 35, 36, 37, 38, 39, 40, 41, 42, 43, 44, 45, 46, 47, 48, 49]) rfl rfl (by decide +kernel) rfl (by decide +kernel) [g 0, g 1, g 2, g 3, g 4, g 5, g 6, g 7, g 8, g 9, g 10, g 11, g 12, g 13, g 14, g 15, g 16, g 17, g 18, g 19, g 20, g 21, g 22, g 23, g 24, g 25, g 26, g 27, g 28, bo, gm 0, gm 1, gm 2, gm 3, gm 4, gm 5, gm 6, gm 7, gm 8, gm 9, gm 10, gm 11, gm 12, gm 13, gm 14, gm 15, gm 16, gm 17, gm 18, gm 19] rfl rfl (fun a U g mk h => SX.blind a U g mk h) (fun U hU hW => SX.call hX0 hS (va_free (wc := (wL g bo cA t s y d q k r c o m f)) hD hS hA [0, 1, 2, 3, 4, 5, 6, 7, 8, 9, 10, 11, 12, 13, 14, 15, 16, 17, 18, 19, 20, 21, 22, 23, 24, 25, 26, 27, 28, 29] rfl) U hU hW) (fun H locs hP hD hS => ?_)
    have hP : va_P DD vwCl (wZ g gm bo cA t1 s1 y1 d1 q1 k1 r1 c1 o1 m1 (vp_updL f 0 v.toInt64) T S R C Y D K Q O M) H := hP
    have hD : va_D (fun q : Nat => S0.heap.size ≤ q) (wZ g gm bo cA t1 s1 y1 d1 q1 k1 r1 c1 o1 m1 (vp_updL f 0 v.toInt64) T S R C Y D K Q O M) := hD
    refine lv_istore (lv' := [(5, .int 0), (0, .ref b), (1, .ref (g 28)), (2, .ref (gm 0)), (3, .ref bo), (4, .int (nI (3 * j)))]) hx hb dL_law_118 hl (by decide) rfl (fun ls hl => ?_)
    refine lv_aload_n hx hb dL_law_120 rfl (lv_at hl 3 rfl) ?_
    refine lv_aload_n hx hb dL_law_121 rfl (lv_at hl 1 rfl) ?_
    refine lv_iload hx hb dL_law_122 (lv_at hl 5 rfl) ?_
    refine lv_iconst (v := 1) hx hb dL_law_124 (by decide +kernel) ?_
    refine lv_iadd hx hb dL_law_125 ?_
    refine va_sld hx hb hXs hbl hbA hS h1 dL_law_126 ?_
    refine cn_i (As := [.int (xs (nI (3 * j) + 1).toNatClampNeg)]) (rest := []) (r := v) (w0 := (wZ g gm bo cA t1 s1 y1 d1 q1 k1 r1 c1 o1 m1 (vp_updL f 0 v.toInt64) T S R C Y D K Q O M)) (N := 50) ⟨hx, hb, hml, hown, htl⟩ (c_X12_run l DD cA gm H.size (xs (nI (3 * j) + 1).toNatClampNeg) T S R C Y D K Q O M (v, T1, S1, R1, C1, Y1, D1, K1', Q1, O1, M1) e2) (cwV 1 htl gL_law_X12_run rfl rfl rfl (by decide +kernel) ⟨Nat.le_of_ble_eq_true rfl, Nat.le_of_ble_eq_true rfl⟩) rfl hl.1 rfl (Nat.le_of_ble_eq_true rfl) dL_law_127 ⟨by show _ ≤ 1080; omega, by show _ ≤ 11779; omega⟩ hK hP hD hS hA (va_recv hK hP (ci := 10) (q0 := 30) rfl rfl) [30, 31, 32, 33, 34, 35, 36, 37, 38, 39, 40, 41, 42, 43, 44, 45, 46, 47, 48, 49] [0, 1, 2, 3, 4, 5, 6, 7, 8, 9, 10, 11, 12, 13, 14, 15, 16, 17, 18, 19, 20, 21, 22, 23, 24, 25, 26, 27, 28, 29] (wZ g gm bo cA t1 s1 y1 d1 q1 k1 r1 c1 o1 m1 (vp_updL f 0 v.toInt64) T1 S1 R1 C1 Y1 D1 K1' Q1 O1 M1) rfl (by decide +kernel) rfl (wr := List.filterMap (fun i => (wZ g gm bo cA t1 s1 y1 d1 q1 k1 r1 c1 o1 m1 (vp_updL f 0 v.toInt64) T S R C Y D K Q O M)[i]?) [0, 1, 2, 3, 4, 5, 6, 7, 8, 9, 10, 11, 12, 13, 14, 15, 16, 17, 18, 19, 20, 21, 22, 23, 24, 25, 26, 27, 28, 29]) rfl rfl (by decide +kernel) rfl (by decide +kernel) [g 0, g 1, g 2, g 3, g 4, g 5, g 6, g 7, g 8, g 9, g 10, g 11, g 12, g 13, g 14, g 15, g 16, g 17, g 18, g 19, g 20, g 21, g 22, g 23, g 24, g 25, g 26, g 27, g 28, bo, gm 0, gm 1, gm 2, gm 3, gm 4, gm 5, gm 6, gm 7, gm 8, gm 9, gm 10, gm 11, gm 12, gm 13, gm 14, gm 15, gm 16, gm 17, gm 18, gm 19] rfl rfl (fun _ _ _ _ _ => trivial) (fun _ _ _ => trivial) (fun H locs hP hD hS => ?_)
    have hP : va_P DD vwCl (wZ g gm bo cA t1 s1 y1 d1 q1 k1 r1 c1 o1 m1 (vp_updL f 0 v.toInt64) T1 S1 R1 C1 Y1 D1 K1' Q1 O1 M1) H := hP
    have hD : va_D (fun q : Nat => S0.heap.size ≤ q) (wZ g gm bo cA t1 s1 y1 d1 q1 k1 r1 c1 o1 m1 (vp_updL f 0 v.toInt64) T1 S1 R1 C1 Y1 D1 K1' Q1 O1 M1) := hD
    refine lv_istore (lv' := [(6, .int v), (5, .int 0), (0, .ref b), (1, .ref (g 28)), (2, .ref (gm 0)), (3, .ref bo), (4, .int (nI (3 * j)))]) hx hb dL_law_130 hl (by decide) rfl (fun ls hl => ?_)
    refine lv_aload_n hx hb dL_law_132 rfl (lv_at hl 4 rfl) ?_
    refine cn_i (As := []) (rest := []) (r := M1.1) (w0 := (wZ g gm bo cA t1 s1 y1 d1 q1 k1 r1 c1 o1 m1 (vp_updL f 0 v.toInt64) T1 S1 R1 C1 Y1 D1 K1' Q1 O1 M1)) (N := 50) ⟨hx, hb, hml, hown, htl⟩ (c_X12_thrown l DD cA gm H.size  T1 S1 R1 C1 Y1 D1 K1' Q1 O1 M1 M1.1 rfl) (cwV 0 htl gL_law_X12_thrown rfl rfl rfl (by decide +kernel) ⟨Nat.le_of_ble_eq_true rfl, Nat.le_of_ble_eq_true rfl⟩) rfl hl.1 rfl (Nat.le_of_ble_eq_true rfl) dL_law_133 ⟨by show _ ≤ 1080; omega, by show _ ≤ 11779; omega⟩ hK hP hD hS hA (va_recv hK hP (ci := 10) (q0 := 30) rfl rfl) [30, 31, 32, 33, 34, 35, 36, 37, 38, 39, 40, 41, 42, 43, 44, 45, 46, 47, 48, 49] [0, 1, 2, 3, 4, 5, 6, 7, 8, 9, 10, 11, 12, 13, 14, 15, 16, 17, 18, 19, 20, 21, 22, 23, 24, 25, 26, 27, 28, 29] (wZ g gm bo cA t1 s1 y1 d1 q1 k1 r1 c1 o1 m1 (vp_updL f 0 v.toInt64) T1 S1 R1 C1 Y1 D1 K1' Q1 O1 M1) rfl (by decide +kernel) rfl (wr := List.filterMap (fun i => (wZ g gm bo cA t1 s1 y1 d1 q1 k1 r1 c1 o1 m1 (vp_updL f 0 v.toInt64) T1 S1 R1 C1 Y1 D1 K1' Q1 O1 M1)[i]?) [0, 1, 2, 3, 4, 5, 6, 7, 8, 9, 10, 11, 12, 13, 14, 15, 16, 17, 18, 19, 20, 21, 22, 23, 24, 25, 26, 27, 28, 29]) rfl rfl (by decide +kernel) rfl (by decide +kernel) [g 0, g 1, g 2, g 3, g 4, g 5, g 6, g 7, g 8, g 9, g 10, g 11, g 12, g 13, g 14, g 15, g 16, g 17, g 18, g 19, g 20, g 21, g 22, g 23, g 24, g 25, g 26, g 27, g 28, bo, gm 0, gm 1, gm 2, gm 3, gm 4, gm 5, gm 6, gm 7, gm 8, gm 9, gm 10, gm 11, gm 12, gm 13, gm 14, gm 15, gm 16, gm 17, gm 18, gm 19] rfl rfl (fun _ _ _ _ _ => trivial) (fun _ _ _ => trivial) (fun H locs hP hD hS => ?_)
    have hP : va_P DD vwCl (wZ g gm bo cA t1 s1 y1 d1 q1 k1 r1 c1 o1 m1 (vp_updL f 0 v.toInt64) T1 S1 R1 C1 Y1 D1 K1' Q1 O1 M1) H := hP
    have hD : va_D (fun q : Nat => S0.heap.size ≤ q) (wZ g gm bo cA t1 s1 y1 d1 q1 k1 r1 c1 o1 m1 (vp_updL f 0 v.toInt64) T1 S1 R1 C1 Y1 D1 K1' Q1 O1 M1) := hD
    refine lv_iload hx hb dL_law_136 (lv_at hl 1 rfl) ?_
    refine lv_icmp_eq (tgt := 143) hx hb dL_law_138 (by decide) (fun _ => ?_) (fun z => absurd e3 z)
    refine lv_iload hx hb dL_law_143 (lv_at hl 1 rfl) ?_
    refine lv_if_ne (tgt := 160) hx hb dL_law_145 (by decide) (fun z => absurd rfl z) (fun _ => ?_)
    refine lv_aload_n hx hb dL_law_148 rfl (lv_at hl 5 rfl) ?_
    refine lv_iconst (v := 0) hx hb dL_law_149 (by decide +kernel) ?_
    refine va_lald hx hb hK hP 29 3 rfl rfl (show vp_in 0 1 from vp_in_nI (n := 0) (N := 1) (by decide) (by decide)) dL_law_150 ?_
    refine lv_iload hx hb dL_law_151 (lv_at hl 0 rfl) ?_
    refine lv_i2l hx hb dL_law_153 rfl ?_
    refine W.lcmp hx hb dL_law_154 ?_
    refine lv_if_eq (tgt := 160) hx hb dL_law_155 (by decide) (fun _ => ?_) (fun z => absurd ((lg_cmp_eq _ _).mpr rfl) z)
    refine lv_goto (tgt := 424) hx hb dL_law_160 (by decide) ?_
    refine W.widen (k := 50 + (j + 1)) (n := 3551 + 6 * (j + 1)) (by omega) (by omega) ?_
    exact KT _ _ _ _ _ _ _ _ _ _ _ _ _ _ _ _ _ _ _ _ _ hB1 hO1 H locs hP hD hS ls (lv_sub hl [2, 3, 4, 5, 6] rfl)
  · refine lv_aload_n hx hb dL_law_107 rfl (lv_at hl 1 rfl) ?_
    refine lv_aload_n hx hb dL_law_108 rfl (lv_at hl 0 rfl) ?_
    refine lv_iload hx hb dL_law_109 (lv_at hl 4 rfl) ?_
    refine lv_iconst (v := 1) hx hb dL_law_111 (by decide +kernel) ?_
    refine lv_iadd hx hb dL_law_112 ?_
    refine va_sld hx hb hXs hbl hbA hS h1 dL_law_113 ?_
    refine lv_aload_n hx hb dL_law_114 rfl (lv_at hl 3 rfl) ?_
    refine ch_i (As := [.ref (g 28), .int (xs (nI (3 * j) + 1).toNatClampNeg), .ref bo]) (rest := []) (r := 1) (w0 := (wZ g gm bo cA t s y d q k r c o m f T S R C Y D K Q O M)) (N := 50) ⟨hx, hb, hml, hown, htl⟩ (x_L_run l hst DD cA ad adK adV tA tS sa g bo H.size (xs (nI (3 * j) + 1).toNatClampNeg) t s y d q k r c o m f e1) (vx_cwSW 3 htl gL_law_L_run rfl rfl rfl (by decide +kernel) ⟨Nat.le_of_ble_eq_true rfl, Nat.le_of_ble_eq_true rfl⟩) rfl hl.1 rfl (Nat.le_of_ble_eq_true rfl) dL_law_115 ⟨by show _ ≤ 1080; omega, by show _ ≤ 11779; omega⟩ hK hP hD hS hA [0, 1, 2, 3, 4, 5, 6, 7, 8, 9, 10, 11, 12, 13, 14, 15, 16, 17, 18, 19, 20, 21, 22, 23, 24, 25, 26, 27, 28, 29] [30, 31, 32, 33, 34, 35, 36, 37, 38, 39, 40, 41, 42, 43, 44, 45, 46, 47, 48, 49] (wZ g gm bo cA t s y d q k r c o m f T S R C Y D K Q O M) rfl (by decide +kernel) rfl (wr := List.filterMap (fun i => (wZ g gm bo cA t s y d q k r c o m f T S R C Y D K Q O M)[i]?) [30, 31, 32, 33, 34, 35, 36, 37, 38, 39, 40, 41, 42, 43, 44, 45, 46, 47, 48, 49]) rfl rfl (by decide +kernel) rfl (by decide +kernel) [g 0, g 1, g 2, g 3, g 4, g 5, g 6, g 7, g 8, g 9, g 10, g 11, g 12, g 13, g 14, g 15, g 16, g 17, g 18, g 19, g 20, g 21, g 22, g 23, g 24, g 25, g 26, g 27, g 28, bo, gm 0, gm 1, gm 2, gm 3, gm 4, gm 5, gm 6, gm 7, gm 8, gm 9, gm 10, gm 11, gm 12, gm 13, gm 14, gm 15, gm 16, gm 17, gm 18, gm 19] rfl rfl (fun a U g mk h => ⟨SX.blind a U g mk h.1, EX.blind a U g mk h.2⟩) (fun U hU hW => ⟨SX.call hX0 hS (va_free (wc := (wL g bo cA t s y d q k r c o m f)) hD hS hA [0, 1, 2, 3, 4, 5, 6, 7, 8, 9, 10, 11, 12, 13, 14, 15, 16, 17, 18, 19, 20, 21, 22, 23, 24, 25, 26, 27, 28, 29] rfl) U hU hW, EX.call hE0 hS (va_free (wc := (wL g bo cA t s y d q k r c o m f)) hD hS hA [0, 1, 2, 3, 4, 5, 6, 7, 8, 9, 10, 11, 12, 13, 14, 15, 16, 17, 18, 19, 20, 21, 22, 23, 24, 25, 26, 27, 28, 29] rfl) U hU hW⟩) (fun H locs hP hD hS => ?_)
    have hP : va_P DD vwCl (wZ g gm bo cA t s y d q k r c o m f T S R C Y D K Q O M) H := hP
    have hD : va_D (fun q : Nat => S0.heap.size ≤ q) (wZ g gm bo cA t s y d q k r c o m f T S R C Y D K Q O M) := hD
    refine lv_istore (lv' := [(5, .int 1), (0, .ref b), (1, .ref (g 28)), (2, .ref (gm 0)), (3, .ref bo), (4, .int (nI (3 * j)))]) hx hb dL_law_118 hl (by decide) rfl (fun ls hl => ?_)
    refine lv_aload_n hx hb dL_law_120 rfl (lv_at hl 3 rfl) ?_
    refine lv_aload_n hx hb dL_law_121 rfl (lv_at hl 1 rfl) ?_
    refine lv_iload hx hb dL_law_122 (lv_at hl 5 rfl) ?_
    refine lv_iconst (v := 1) hx hb dL_law_124 (by decide +kernel) ?_
    refine lv_iadd hx hb dL_law_125 ?_
    refine va_sld hx hb hXs hbl hbA hS h1 dL_law_126 ?_
    refine cn_i (As := [.int (xs (nI (3 * j) + 1).toNatClampNeg)]) (rest := []) (r := 0) (w0 := (wZ g gm bo cA t s y d q k r c o m f T S R C Y D K Q O M)) (N := 50) ⟨hx, hb, hml, hown, htl⟩ (c_X12_run l DD cA gm H.size (xs (nI (3 * j) + 1).toNatClampNeg) T S R C Y D K Q O M (0, T, S, R, C, Y, D, K, Q, O, (1, M.2)) e2) (cwV 1 htl gL_law_X12_run rfl rfl rfl (by decide +kernel) ⟨Nat.le_of_ble_eq_true rfl, Nat.le_of_ble_eq_true rfl⟩) rfl hl.1 rfl (Nat.le_of_ble_eq_true rfl) dL_law_127 ⟨by show _ ≤ 1080; omega, by show _ ≤ 11779; omega⟩ hK hP hD hS hA (va_recv hK hP (ci := 10) (q0 := 30) rfl rfl) [30, 31, 32, 33, 34, 35, 36, 37, 38, 39, 40, 41, 42, 43, 44, 45, 46, 47, 48, 49] [0, 1, 2, 3, 4, 5, 6, 7, 8, 9, 10, 11, 12, 13, 14, 15, 16, 17, 18, 19, 20, 21, 22, 23, 24, 25, 26, 27, 28, 29] (wZ g gm bo cA t s y d q k r c o m f T S R C Y D K Q O (1, M.2)) rfl (by decide +kernel) rfl (wr := List.filterMap (fun i => (wZ g gm bo cA t s y d q k r c o m f T S R C Y D K Q O M)[i]?) [0, 1, 2, 3, 4, 5, 6, 7, 8, 9, 10, 11, 12, 13, 14, 15, 16, 17, 18, 19, 20, 21, 22, 23, 24, 25, 26, 27, 28, 29]) rfl rfl (by decide +kernel) rfl (by decide +kernel) [g 0, g 1, g 2, g 3, g 4, g 5, g 6, g 7, g 8, g 9, g 10, g 11, g 12, g 13, g 14, g 15, g 16, g 17, g 18, g 19, g 20, g 21, g 22, g 23, g 24, g 25, g 26, g 27, g 28, bo, gm 0, gm 1, gm 2, gm 3, gm 4, gm 5, gm 6, gm 7, gm 8, gm 9, gm 10, gm 11, gm 12, gm 13, gm 14, gm 15, gm 16, gm 17, gm 18, gm 19] rfl rfl (fun _ _ _ _ _ => trivial) (fun _ _ _ => trivial) (fun H locs hP hD hS => ?_)
    have hP : va_P DD vwCl (wZ g gm bo cA t s y d q k r c o m f T S R C Y D K Q O (1, M.2)) H := hP
    have hD : va_D (fun q : Nat => S0.heap.size ≤ q) (wZ g gm bo cA t s y d q k r c o m f T S R C Y D K Q O (1, M.2)) := hD
    refine lv_istore (lv' := [(6, .int 0), (5, .int 1), (0, .ref b), (1, .ref (g 28)), (2, .ref (gm 0)), (3, .ref bo), (4, .int (nI (3 * j)))]) hx hb dL_law_130 hl (by decide) rfl (fun ls hl => ?_)
    refine lv_aload_n hx hb dL_law_132 rfl (lv_at hl 4 rfl) ?_
    refine cn_i (As := []) (rest := []) (r := 1) (w0 := (wZ g gm bo cA t s y d q k r c o m f T S R C Y D K Q O (1, M.2))) (N := 50) ⟨hx, hb, hml, hown, htl⟩ (c_X12_thrown l DD cA gm H.size  T S R C Y D K Q O (1, M.2) 1 rfl) (cwV 0 htl gL_law_X12_thrown rfl rfl rfl (by decide +kernel) ⟨Nat.le_of_ble_eq_true rfl, Nat.le_of_ble_eq_true rfl⟩) rfl hl.1 rfl (Nat.le_of_ble_eq_true rfl) dL_law_133 ⟨by show _ ≤ 1080; omega, by show _ ≤ 11779; omega⟩ hK hP hD hS hA (va_recv hK hP (ci := 10) (q0 := 30) rfl rfl) [30, 31, 32, 33, 34, 35, 36, 37, 38, 39, 40, 41, 42, 43, 44, 45, 46, 47, 48, 49] [0, 1, 2, 3, 4, 5, 6, 7, 8, 9, 10, 11, 12, 13, 14, 15, 16, 17, 18, 19, 20, 21, 22, 23, 24, 25, 26, 27, 28, 29] (wZ g gm bo cA t s y d q k r c o m f T S R C Y D K Q O (1, M.2)) rfl (by decide +kernel) rfl (wr := List.filterMap (fun i => (wZ g gm bo cA t s y d q k r c o m f T S R C Y D K Q O (1, M.2))[i]?) [0, 1, 2, 3, 4, 5, 6, 7, 8, 9, 10, 11, 12, 13, 14, 15, 16, 17, 18, 19, 20, 21, 22, 23, 24, 25, 26, 27, 28, 29]) rfl rfl (by decide +kernel) rfl (by decide +kernel) [g 0, g 1, g 2, g 3, g 4, g 5, g 6, g 7, g 8, g 9, g 10, g 11, g 12, g 13, g 14, g 15, g 16, g 17, g 18, g 19, g 20, g 21, g 22, g 23, g 24, g 25, g 26, g 27, g 28, bo, gm 0, gm 1, gm 2, gm 3, gm 4, gm 5, gm 6, gm 7, gm 8, gm 9, gm 10, gm 11, gm 12, gm 13, gm 14, gm 15, gm 16, gm 17, gm 18, gm 19] rfl rfl (fun _ _ _ _ _ => trivial) (fun _ _ _ => trivial) (fun H locs hP hD hS => ?_)
    have hP : va_P DD vwCl (wZ g gm bo cA t s y d q k r c o m f T S R C Y D K Q O (1, M.2)) H := hP
    have hD : va_D (fun q : Nat => S0.heap.size ≤ q) (wZ g gm bo cA t s y d q k r c o m f T S R C Y D K Q O (1, M.2)) := hD
    refine lv_iload hx hb dL_law_136 (lv_at hl 1 rfl) ?_
    refine lv_icmp_eq (tgt := 143) hx hb dL_law_138 (by decide) (fun _ => ?_) (fun z => absurd rfl z)
    refine lv_iload hx hb dL_law_143 (lv_at hl 1 rfl) ?_
    refine lv_if_ne (tgt := 160) hx hb dL_law_145 (by decide) (fun _ => ?_) (fun z => absurd z (by decide))
    refine lv_goto (tgt := 424) hx hb dL_law_160 (by decide) ?_
    refine W.widen (k := 50 + (j + 1)) (n := 3551 + 6 * (j + 1)) (by omega) (by omega) ?_
    exact KT _ _ _ _ _ _ _ _ _ _ _ _ _ _ _ _ _ _ _ _ _ (hB.th 1) hO H locs hP hD hS ls (lv_sub hl [2, 3, 4, 5, 6] rfl)
set_option maxHeartbeats 4000000 in
set_option maxRecDepth 100000 in
theorem law_output {PP : Program} {l : Launch} {EE : Env} {S0 : State} {MM : MethodId} {below : List Frame} {meth : Method} {CC : Code} {DD : va_G} {cA : Nat → ClassId} {b L : Nat} {xs : Nat → Int32} {ad adK adV sa : Nat → Nat} {tA tS : Nat} (hst : l.stackTraces = false) (hL : L ≤ 1536) (C0 : lw_At PP S0 MM meth CC b L xs) (hK : va_K DD vwCl (bTY cA) S0) (hX0 : SX ad adK adV tA tS (fun q : Nat => S0.heap.size ≤ q) S0 S0.heap) (hE0 : EX sa (fun q : Nat => S0.heap.size ≤ q) S0 S0.heap) (g gm : Nat → Nat) (bo : Nat) {j : Nat} (hj : 3 * j + 3 ≤ L) (KT : LT PP l EE S0 MM below meth CC DD cA b g gm bo (nI (3 * j)) (50 + (j + 1)) (3551 + 6 * (j + 1)) 424) : LT PP l EE S0 MM below meth CC DD cA b g gm bo (nI (3 * j)) (50 + j) (3551 + 6 * j) 163 := by
  intro t s y d q k r c o m T S R C Y D K Q O M f hB hO H locs hP hD hS ls hl
  obtain ⟨hx, hb, hr, hml, hown, hts, hXs, hbl, hlocks, hgv⟩ := C0
  have hb : CC.code = cL_law := hb
  have hown : S0.vm.findClass RL = some MM.cls := hown
  have htl : ∀ w ∈ wsL_law, w.before #[Value.ref b] S0 = true := fun w h => hts w (wl_all w h)
  have hA : ∀ q : Nat, S0.heap.size ≤ q → (fun q : Nat => S0.heap.size ≤ q) q := fun _ h => h
  have hbA : ¬ (fun q : Nat => S0.heap.size ≤ q) b := Nat.not_le.mpr hbl
  have h1 : vp_in (nI (3 * j) + 1) L := by rw [nI_1]; exact vp_in_nI (by omega) (by omega)
  have h2 : vp_in (nI (3 * j) + 2) L := by rw [show nI (3 * j) + 2 = nI (3 * j + 2) from nI_add (3 * j) 2]; exact vp_in_nI (by omega) (by omega)
  rcases o_output hB hO (xs (nI (3 * j) + 1).toNatClampNeg) with ⟨v, e1, e2⟩ | ⟨e1, v, e2⟩
  · refine lv_aload_n hx hb dL_law_163 rfl (lv_at hl 1 rfl) ?_
    refine lv_aload_n hx hb dL_law_164 rfl (lv_at hl 0 rfl) ?_
    refine lv_iload hx hb dL_law_165 (lv_at hl 4 rfl) ?_
    refine lv_iconst (v := 1) hx hb dL_law_167 (by decide +kernel) ?_
    refine lv_iadd hx hb dL_law_168 ?_
    refine va_sld hx hb hXs hbl hbA hS h1 dL_law_169 ?_
    refine lv_aload_n hx hb dL_law_170 rfl (lv_at hl 3 rfl) ?_
    refine ch_i (As := [.ref (g 28), .int (xs (nI (3 * j) + 1).toNatClampNeg), .ref bo]) (rest := []) (r := 0) (w0 := (wZ g gm bo cA t s y d q k r c o m f T S R C Y D K Q O M)) (N := 50) ⟨hx, hb, hml, hown, htl⟩ (c_L_output l DD cA ad adK adV tA tS g bo H.size (xs (nI (3 * j) + 1).toNatClampNeg) t s y d q k r c o m f v e1) (vx_cwSW 3 htl gL_law_L_output rfl rfl rfl (by decide +kernel) ⟨Nat.le_of_ble_eq_true rfl, Nat.le_of_ble_eq_true rfl⟩) rfl hl.1 rfl (Nat.le_of_ble_eq_true rfl) dL_law_171 ⟨by show _ ≤ 1080; omega, by show _ ≤ 11779; omega⟩ hK hP hD hS hA [0, 1, 2, 3, 4, 5, 6, 7, 8, 9, 10, 11, 12, 13, 14, 15, 16, 17, 18, 19, 20, 21, 22, 23, 24, 25, 26, 27, 28, 29] [30, 31, 32, 33, 34, 35, 36, 37, 38, 39, 40, 41, 42, 43, 44, 45, 46, 47, 48, 49] (wZ g gm bo cA t s y d q k r c o m (vp_updL f 0 v.toInt64) T S R C Y D K Q O M) rfl (by decide +kernel) rfl (wr := List.filterMap (fun i => (wZ g gm bo cA t s y d q k r c o m f T S R C Y D K Q O M)[i]?) [30, 31, 32, 33, 34, 35, 36, 37, 38, 39, 40, 41, 42, 43, 44, 45, 46, 47, 48, 49]) rfl rfl (by decide +kernel) rfl (by decide +kernel) [g 0, g 1, g 2, g 3, g 4, g 5, g 6, g 7, g 8, g 9, g 10, g 11, g 12, g 13, g 14, g 15, g 16, g 17, g 18, g 19, g 20, g 21, g 22, g 23, g 24, g 25, g 26, g 27, g 28, bo, gm 0, gm 1, gm 2, gm 3, gm 4, gm 5, gm 6, gm 7, gm 8, gm 9, gm 10, gm 11, gm 12, gm 13, gm 14, gm 15, gm 16, gm 17, gm 18, gm 19] rfl rfl (fun a U g mk h => SX.blind a U g mk h) (fun U hU hW => SX.call hX0 hS (va_free (wc := (wL g bo cA t s y d q k r c o m f)) hD hS hA [0, 1, 2, 3, 4, 5, 6, 7, 8, 9, 10, 11, 12, 13, 14, 15, 16, 17, 18, 19, 20, 21, 22, 23, 24, 25, 26, 27, 28, 29] rfl) U hU hW) (fun H locs hP hD hS => ?_)
    have hP : va_P DD vwCl (wZ g gm bo cA t s y d q k r c o m (vp_updL f 0 v.toInt64) T S R C Y D K Q O M) H := hP
    have hD : va_D (fun q : Nat => S0.heap.size ≤ q) (wZ g gm bo cA t s y d q k r c o m (vp_updL f 0 v.toInt64) T S R C Y D K Q O M) := hD
    refine lv_istore (lv' := [(5, .int 0), (0, .ref b), (1, .ref (g 28)), (2, .ref (gm 0)), (3, .ref bo), (4, .int (nI (3 * j)))]) hx hb dL_law_174 hl (by decide) rfl (fun ls hl => ?_)
    refine lv_aload_n hx hb dL_law_176 rfl (lv_at hl 3 rfl) ?_
    refine lv_aload_n hx hb dL_law_177 rfl (lv_at hl 1 rfl) ?_
    refine lv_iload hx hb dL_law_178 (lv_at hl 5 rfl) ?_
    refine lv_iconst (v := 1) hx hb dL_law_180 (by decide +kernel) ?_
    refine lv_iadd hx hb dL_law_181 ?_
    refine va_sld hx hb hXs hbl hbA hS h1 dL_law_182 ?_
    refine cn_i (As := [.int (xs (nI (3 * j) + 1).toNatClampNeg)]) (rest := []) (r := v) (w0 := (wZ g gm bo cA t s y d q k r c o m (vp_updL f 0 v.toInt64) T S R C Y D K Q O M)) (N := 50) ⟨hx, hb, hml, hown, htl⟩ (c_X12_output l DD cA gm H.size (xs (nI (3 * j) + 1).toNatClampNeg) T S R C Y D K Q O M (v, (0, M.2)) e2) (cwV 1 htl gL_law_X12_output rfl rfl rfl (by decide +kernel) ⟨Nat.le_of_ble_eq_true rfl, Nat.le_of_ble_eq_true rfl⟩) rfl hl.1 rfl (Nat.le_of_ble_eq_true rfl) dL_law_183 ⟨by show _ ≤ 1080; omega, by show _ ≤ 11779; omega⟩ hK hP hD hS hA (va_recv hK hP (ci := 10) (q0 := 30) rfl rfl) [30, 31, 32, 33, 34, 35, 36, 37, 38, 39, 40, 41, 42, 43, 44, 45, 46, 47, 48, 49] [0, 1, 2, 3, 4, 5, 6, 7, 8, 9, 10, 11, 12, 13, 14, 15, 16, 17, 18, 19, 20, 21, 22, 23, 24, 25, 26, 27, 28, 29] (wZ g gm bo cA t s y d q k r c o m (vp_updL f 0 v.toInt64) T S R C Y D K Q O (0, M.2)) rfl (by decide +kernel) rfl (wr := List.filterMap (fun i => (wZ g gm bo cA t s y d q k r c o m (vp_updL f 0 v.toInt64) T S R C Y D K Q O M)[i]?) [0, 1, 2, 3, 4, 5, 6, 7, 8, 9, 10, 11, 12, 13, 14, 15, 16, 17, 18, 19, 20, 21, 22, 23, 24, 25, 26, 27, 28, 29]) rfl rfl (by decide +kernel) rfl (by decide +kernel) [g 0, g 1, g 2, g 3, g 4, g 5, g 6, g 7, g 8, g 9, g 10, g 11, g 12, g 13, g 14, g 15, g 16, g 17, g 18, g 19, g 20, g 21, g 22, g 23, g 24, g 25, g 26, g 27, g 28, bo, gm 0, gm 1, gm 2, gm 3, gm 4, gm 5, gm 6, gm 7, gm 8, gm 9, gm 10, gm 11, gm 12, gm 13, gm 14, gm 15, gm 16, gm 17, gm 18, gm 19] rfl rfl (fun _ _ _ _ _ => trivial) (fun _ _ _ => trivial) (fun H locs hP hD hS => ?_)
    have hP : va_P DD vwCl (wZ g gm bo cA t s y d q k r c o m (vp_updL f 0 v.toInt64) T S R C Y D K Q O (0, M.2)) H := hP
    have hD : va_D (fun q : Nat => S0.heap.size ≤ q) (wZ g gm bo cA t s y d q k r c o m (vp_updL f 0 v.toInt64) T S R C Y D K Q O (0, M.2)) := hD
    refine lv_istore (lv' := [(6, .int v), (5, .int 0), (0, .ref b), (1, .ref (g 28)), (2, .ref (gm 0)), (3, .ref bo), (4, .int (nI (3 * j)))]) hx hb dL_law_186 hl (by decide) rfl (fun ls hl => ?_)
    refine lv_aload_n hx hb dL_law_188 rfl (lv_at hl 4 rfl) ?_
    refine cn_i (As := []) (rest := []) (r := 0) (w0 := (wZ g gm bo cA t s y d q k r c o m (vp_updL f 0 v.toInt64) T S R C Y D K Q O (0, M.2))) (N := 50) ⟨hx, hb, hml, hown, htl⟩ (c_X12_thrown l DD cA gm H.size  T S R C Y D K Q O (0, M.2) 0 rfl) (cwV 0 htl gL_law_X12_thrown rfl rfl rfl (by decide +kernel) ⟨Nat.le_of_ble_eq_true rfl, Nat.le_of_ble_eq_true rfl⟩) rfl hl.1 rfl (Nat.le_of_ble_eq_true rfl) dL_law_189 ⟨by show _ ≤ 1080; omega, by show _ ≤ 11779; omega⟩ hK hP hD hS hA (va_recv hK hP (ci := 10) (q0 := 30) rfl rfl) [30, 31, 32, 33, 34, 35, 36, 37, 38, 39, 40, 41, 42, 43, 44, 45, 46, 47, 48, 49] [0, 1, 2, 3, 4, 5, 6, 7, 8, 9, 10, 11, 12, 13, 14, 15, 16, 17, 18, 19, 20, 21, 22, 23, 24, 25, 26, 27, 28, 29] (wZ g gm bo cA t s y d q k r c o m (vp_updL f 0 v.toInt64) T S R C Y D K Q O (0, M.2)) rfl (by decide +kernel) rfl (wr := List.filterMap (fun i => (wZ g gm bo cA t s y d q k r c o m (vp_updL f 0 v.toInt64) T S R C Y D K Q O (0, M.2))[i]?) [0, 1, 2, 3, 4, 5, 6, 7, 8, 9, 10, 11, 12, 13, 14, 15, 16, 17, 18, 19, 20, 21, 22, 23, 24, 25, 26, 27, 28, 29]) rfl rfl (by decide +kernel) rfl (by decide +kernel) [g 0, g 1, g 2, g 3, g 4, g 5, g 6, g 7, g 8, g 9, g 10, g 11, g 12, g 13, g 14, g 15, g 16, g 17, g 18, g 19, g 20, g 21, g 22, g 23, g 24, g 25, g 26, g 27, g 28, bo, gm 0, gm 1, gm 2, gm 3, gm 4, gm 5, gm 6, gm 7, gm 8, gm 9, gm 10, gm 11, gm 12, gm 13, gm 14, gm 15, gm 16, gm 17, gm 18, gm 19] rfl rfl (fun _ _ _ _ _ => trivial) (fun _ _ _ => trivial) (fun H locs hP hD hS => ?_)
    have hP : va_P DD vwCl (wZ g gm bo cA t s y d q k r c o m (vp_updL f 0 v.toInt64) T S R C Y D K Q O (0, M.2)) H := hP
    have hD : va_D (fun q : Nat => S0.heap.size ≤ q) (wZ g gm bo cA t s y d q k r c o m (vp_updL f 0 v.toInt64) T S R C Y D K Q O (0, M.2)) := hD
    refine lv_iload hx hb dL_law_192 (lv_at hl 1 rfl) ?_
    refine lv_icmp_eq (tgt := 199) hx hb dL_law_194 (by decide) (fun _ => ?_) (fun z => absurd rfl z)
    refine lv_iload hx hb dL_law_199 (lv_at hl 1 rfl) ?_
    refine lv_if_ne (tgt := 216) hx hb dL_law_201 (by decide) (fun z => absurd rfl z) (fun _ => ?_)
    refine lv_aload_n hx hb dL_law_204 rfl (lv_at hl 5 rfl) ?_
    refine lv_iconst (v := 0) hx hb dL_law_205 (by decide +kernel) ?_
    refine va_lald hx hb hK hP 29 3 rfl rfl (show vp_in 0 1 from vp_in_nI (n := 0) (N := 1) (by decide) (by decide)) dL_law_206 ?_
    refine lv_iload hx hb dL_law_207 (lv_at hl 0 rfl) ?_
    refine lv_i2l hx hb dL_law_209 rfl ?_
    refine W.lcmp hx hb dL_law_210 ?_
    refine lv_if_eq (tgt := 216) hx hb dL_law_211 (by decide) (fun _ => ?_) (fun z => absurd ((lg_cmp_eq _ _).mpr rfl) z)
    refine lv_goto (tgt := 424) hx hb dL_law_216 (by decide) ?_
    refine W.widen (k := 50 + (j + 1)) (n := 3551 + 6 * (j + 1)) (by omega) (by omega) ?_
    exact KT _ _ _ _ _ _ _ _ _ _ _ _ _ _ _ _ _ _ _ _ _ (hB.th 0) hO H locs hP hD hS ls (lv_sub hl [2, 3, 4, 5, 6] rfl)
  · refine lv_aload_n hx hb dL_law_163 rfl (lv_at hl 1 rfl) ?_
    refine lv_aload_n hx hb dL_law_164 rfl (lv_at hl 0 rfl) ?_
    refine lv_iload hx hb dL_law_165 (lv_at hl 4 rfl) ?_
    refine lv_iconst (v := 1) hx hb dL_law_167 (by decide +kernel) ?_
    refine lv_iadd hx hb dL_law_168 ?_
    refine va_sld hx hb hXs hbl hbA hS h1 dL_law_169 ?_
    refine lv_aload_n hx hb dL_law_170 rfl (lv_at hl 3 rfl) ?_
    refine ch_i (As := [.ref (g 28), .int (xs (nI (3 * j) + 1).toNatClampNeg), .ref bo]) (rest := []) (r := 1) (w0 := (wZ g gm bo cA t s y d q k r c o m f T S R C Y D K Q O M)) (N := 50) ⟨hx, hb, hml, hown, htl⟩ (x_L_output l hst DD cA ad adK adV tA tS sa g bo H.size (xs (nI (3 * j) + 1).toNatClampNeg) t s y d q k r c o m f e1) (vx_cwSW 3 htl gL_law_L_output rfl rfl rfl (by decide +kernel) ⟨Nat.le_of_ble_eq_true rfl, Nat.le_of_ble_eq_true rfl⟩) rfl hl.1 rfl (Nat.le_of_ble_eq_true rfl) dL_law_171 ⟨by show _ ≤ 1080; omega, by show _ ≤ 11779; omega⟩ hK hP hD hS hA [0, 1, 2, 3, 4, 5, 6, 7, 8, 9, 10, 11, 12, 13, 14, 15, 16, 17, 18, 19, 20, 21, 22, 23, 24, 25, 26, 27, 28, 29] [30, 31, 32, 33, 34, 35, 36, 37, 38, 39, 40, 41, 42, 43, 44, 45, 46, 47, 48, 49] (wZ g gm bo cA t s y d q k r c o m f T S R C Y D K Q O M) rfl (by decide +kernel) rfl (wr := List.filterMap (fun i => (wZ g gm bo cA t s y d q k r c o m f T S R C Y D K Q O M)[i]?) [30, 31, 32, 33, 34, 35, 36, 37, 38, 39, 40, 41, 42, 43, 44, 45, 46, 47, 48, 49]) rfl rfl (by decide +kernel) rfl (by decide +kernel) [g 0, g 1, g 2, g 3, g 4, g 5, g 6, g 7, g 8, g 9, g 10, g 11, g 12, g 13, g 14, g 15, g 16, g 17, g 18, g 19, g 20, g 21, g 22, g 23, g 24, g 25, g 26, g 27, g 28, bo, gm 0, gm 1, gm 2, gm 3, gm 4, gm 5, gm 6, gm 7, gm 8, gm 9, gm 10, gm 11, gm 12, gm 13, gm 14, gm 15, gm 16, gm 17, gm 18, gm 19] rfl rfl (fun a U g mk h => ⟨SX.blind a U g mk h.1, EX.blind a U g mk h.2⟩) (fun U hU hW => ⟨SX.call hX0 hS (va_free (wc := (wL g bo cA t s y d q k r c o m f)) hD hS hA [0, 1, 2, 3, 4, 5, 6, 7, 8, 9, 10, 11, 12, 13, 14, 15, 16, 17, 18, 19, 20, 21, 22, 23, 24, 25, 26, 27, 28, 29] rfl) U hU hW, EX.call hE0 hS (va_free (wc := (wL g bo cA t s y d q k r c o m f)) hD hS hA [0, 1, 2, 3, 4, 5, 6, 7, 8, 9, 10, 11, 12, 13, 14, 15, 16, 17, 18, 19, 20, 21, 22, 23, 24, 25, 26, 27, 28, 29] rfl) U hU hW⟩) (fun H locs hP hD hS => ?_)
    have hP : va_P DD vwCl (wZ g gm bo cA t s y d q k r c o m f T S R C Y D K Q O M) H := hP
    have hD : va_D (fun q : Nat => S0.heap.size ≤ q) (wZ g gm bo cA t s y d q k r c o m f T S R C Y D K Q O M) := hD
    refine lv_istore (lv' := [(5, .int 1), (0, .ref b), (1, .ref (g 28)), (2, .ref (gm 0)), (3, .ref bo), (4, .int (nI (3 * j)))]) hx hb dL_law_174 hl (by decide) rfl (fun ls hl => ?_)
    refine lv_aload_n hx hb dL_law_176 rfl (lv_at hl 3 rfl) ?_
    refine lv_aload_n hx hb dL_law_177 rfl (lv_at hl 1 rfl) ?_
    refine lv_iload hx hb dL_law_178 (lv_at hl 5 rfl) ?_
    refine lv_iconst (v := 1) hx hb dL_law_180 (by decide +kernel) ?_
    refine lv_iadd hx hb dL_law_181 ?_
    refine va_sld hx hb hXs hbl hbA hS h1 dL_law_182 ?_
    refine cn_i (As := [.int (xs (nI (3 * j) + 1).toNatClampNeg)]) (rest := []) (r := v) (w0 := (wZ g gm bo cA t s y d q k r c o m f T S R C Y D K Q O M)) (N := 50) ⟨hx, hb, hml, hown, htl⟩ (c_X12_output l DD cA gm H.size (xs (nI (3 * j) + 1).toNatClampNeg) T S R C Y D K Q O M (v, (1, M.2)) e2) (cwV 1 htl gL_law_X12_output rfl rfl rfl (by decide +kernel) ⟨Nat.le_of_ble_eq_true rfl, Nat.le_of_ble_eq_true rfl⟩) rfl hl.1 rfl (Nat.le_of_ble_eq_true rfl) dL_law_183 ⟨by show _ ≤ 1080; omega, by show _ ≤ 11779; omega⟩ hK hP hD hS hA (va_recv hK hP (ci := 10) (q0 := 30) rfl rfl) [30, 31, 32, 33, 34, 35, 36, 37, 38, 39, 40, 41, 42, 43, 44, 45, 46, 47, 48, 49] [0, 1, 2, 3, 4, 5, 6, 7, 8, 9, 10, 11, 12, 13, 14, 15, 16, 17, 18, 19, 20, 21, 22, 23, 24, 25, 26, 27, 28, 29] (wZ g gm bo cA t s y d q k r c o m f T S R C Y D K Q O (1, M.2)) rfl (by decide +kernel) rfl (wr := List.filterMap (fun i => (wZ g gm bo cA t s y d q k r c o m f T S R C Y D K Q O M)[i]?) [0, 1, 2, 3, 4, 5, 6, 7, 8, 9, 10, 11, 12, 13, 14, 15, 16, 17, 18, 19, 20, 21, 22, 23, 24, 25, 26, 27, 28, 29]) rfl rfl (by decide +kernel) rfl (by decide +kernel) [g 0, g 1, g 2, g 3, g 4, g 5, g 6, g 7, g 8, g 9, g 10, g 11, g 12, g 13, g 14, g 15, g 16, g 17, g 18, g 19, g 20, g 21, g 22, g 23, g 24, g 25, g 26, g 27, g 28, bo, gm 0, gm 1, gm 2, gm 3, gm 4, gm 5, gm 6, gm 7, gm 8, gm 9, gm 10, gm 11, gm 12, gm 13, gm 14, gm 15, gm 16, gm 17, gm 18, gm 19] rfl rfl (fun _ _ _ _ _ => trivial) (fun _ _ _ => trivial) (fun H locs hP hD hS => ?_)
    have hP : va_P DD vwCl (wZ g gm bo cA t s y d q k r c o m f T S R C Y D K Q O (1, M.2)) H := hP
    have hD : va_D (fun q : Nat => S0.heap.size ≤ q) (wZ g gm bo cA t s y d q k r c o m f T S R C Y D K Q O (1, M.2)) := hD
    refine lv_istore (lv' := [(6, .int v), (5, .int 1), (0, .ref b), (1, .ref (g 28)), (2, .ref (gm 0)), (3, .ref bo), (4, .int (nI (3 * j)))]) hx hb dL_law_186 hl (by decide) rfl (fun ls hl => ?_)
    refine lv_aload_n hx hb dL_law_188 rfl (lv_at hl 4 rfl) ?_
    refine cn_i (As := []) (rest := []) (r := 1) (w0 := (wZ g gm bo cA t s y d q k r c o m f T S R C Y D K Q O (1, M.2))) (N := 50) ⟨hx, hb, hml, hown, htl⟩ (c_X12_thrown l DD cA gm H.size  T S R C Y D K Q O (1, M.2) 1 rfl) (cwV 0 htl gL_law_X12_thrown rfl rfl rfl (by decide +kernel) ⟨Nat.le_of_ble_eq_true rfl, Nat.le_of_ble_eq_true rfl⟩) rfl hl.1 rfl (Nat.le_of_ble_eq_true rfl) dL_law_189 ⟨by show _ ≤ 1080; omega, by show _ ≤ 11779; omega⟩ hK hP hD hS hA (va_recv hK hP (ci := 10) (q0 := 30) rfl rfl) [30, 31, 32, 33, 34, 35, 36, 37, 38, 39, 40, 41, 42, 43, 44, 45, 46, 47, 48, 49] [0, 1, 2, 3, 4, 5, 6, 7, 8, 9, 10, 11, 12, 13, 14, 15, 16, 17, 18, 19, 20, 21, 22, 23, 24, 25, 26, 27, 28, 29] (wZ g gm bo cA t s y d q k r c o m f T S R C Y D K Q O (1, M.2)) rfl (by decide +kernel) rfl (wr := List.filterMap (fun i => (wZ g gm bo cA t s y d q k r c o m f T S R C Y D K Q O (1, M.2))[i]?) [0, 1, 2, 3, 4, 5, 6, 7, 8, 9, 10, 11, 12, 13, 14, 15, 16, 17, 18, 19, 20, 21, 22, 23, 24, 25, 26, 27, 28, 29]) rfl rfl (by decide +kernel) rfl (by decide +kernel) [g 0, g 1, g 2, g 3, g 4, g 5, g 6, g 7, g 8, g 9, g 10, g 11, g 12, g 13, g 14, g 15, g 16, g 17, g 18, g 19, g 20, g 21, g 22, g 23, g 24, g 25, g 26, g 27, g 28, bo, gm 0, gm 1, gm 2, gm 3, gm 4, gm 5, gm 6, gm 7, gm 8, gm 9, gm 10, gm 11, gm 12, gm 13, gm 14, gm 15, gm 16, gm 17, gm 18, gm 19] rfl rfl (fun _ _ _ _ _ => trivial) (fun _ _ _ => trivial) (fun H locs hP hD hS => ?_)
    have hP : va_P DD vwCl (wZ g gm bo cA t s y d q k r c o m f T S R C Y D K Q O (1, M.2)) H := hP
    have hD : va_D (fun q : Nat => S0.heap.size ≤ q) (wZ g gm bo cA t s y d q k r c o m f T S R C Y D K Q O (1, M.2)) := hD
    refine lv_iload hx hb dL_law_192 (lv_at hl 1 rfl) ?_
    refine lv_icmp_eq (tgt := 199) hx hb dL_law_194 (by decide) (fun _ => ?_) (fun z => absurd rfl z)
    refine lv_iload hx hb dL_law_199 (lv_at hl 1 rfl) ?_
    refine lv_if_ne (tgt := 216) hx hb dL_law_201 (by decide) (fun _ => ?_) (fun z => absurd z (by decide))
    refine lv_goto (tgt := 424) hx hb dL_law_216 (by decide) ?_
    refine W.widen (k := 50 + (j + 1)) (n := 3551 + 6 * (j + 1)) (by omega) (by omega) ?_
    exact KT _ _ _ _ _ _ _ _ _ _ _ _ _ _ _ _ _ _ _ _ _ (hB.th 1) hO H locs hP hD hS ls (lv_sub hl [2, 3, 4, 5, 6] rfl)
set_option maxHeartbeats 4000000 in
set_option maxRecDepth 100000 in
theorem law_stack {PP : Program} {l : Launch} {EE : Env} {S0 : State} {MM : MethodId} {below : List Frame} {meth : Method} {CC : Code} {DD : va_G} {cA : Nat → ClassId} {b L : Nat} {xs : Nat → Int32} {ad adK adV sa : Nat → Nat} {tA tS : Nat} (hst : l.stackTraces = false) (hL : L ≤ 1536) (C0 : lw_At PP S0 MM meth CC b L xs) (hK : va_K DD vwCl (bTY cA) S0) (hX0 : SX ad adK adV tA tS (fun q : Nat => S0.heap.size ≤ q) S0 S0.heap) (hE0 : EX sa (fun q : Nat => S0.heap.size ≤ q) S0 S0.heap) (g gm : Nat → Nat) (bo : Nat) {j : Nat} (hj : 3 * j + 3 ≤ L) (KT : LT PP l EE S0 MM below meth CC DD cA b g gm bo (nI (3 * j)) (50 + (j + 1)) (3551 + 6 * (j + 1)) 424) : LT PP l EE S0 MM below meth CC DD cA b g gm bo (nI (3 * j)) (50 + j) (3551 + 6 * j) 219 := by
  intro t s y d q k r c o m T S R C Y D K Q O M f hB hO H locs hP hD hS ls hl
  obtain ⟨hx, hb, hr, hml, hown, hts, hXs, hbl, hlocks, hgv⟩ := C0
  have hb : CC.code = cL_law := hb
  have hown : S0.vm.findClass RL = some MM.cls := hown
  have htl : ∀ w ∈ wsL_law, w.before #[Value.ref b] S0 = true := fun w h => hts w (wl_all w h)
  have hA : ∀ q : Nat, S0.heap.size ≤ q → (fun q : Nat => S0.heap.size ≤ q) q := fun _ h => h
  have hbA : ¬ (fun q : Nat => S0.heap.size ≤ q) b := Nat.not_le.mpr hbl
  have h1 : vp_in (nI (3 * j) + 1) L := by rw [nI_1]; exact vp_in_nI (by omega) (by omega)
  have h2 : vp_in (nI (3 * j) + 2) L := by rw [show nI (3 * j) + 2 = nI (3 * j + 2) from nI_add (3 * j) 2]; exact vp_in_nI (by omega) (by omega)
  rcases o_stack hB (xs (nI (3 * j) + 1).toNatClampNeg) with ⟨v, e1, e2⟩ | ⟨e1, v, e2⟩
  · refine lv_aload_n hx hb dL_law_219 rfl (lv_at hl 1 rfl) ?_
    refine lv_aload_n hx hb dL_law_220 rfl (lv_at hl 0 rfl) ?_
    refine lv_iload hx hb dL_law_221 (lv_at hl 4 rfl) ?_
    refine lv_iconst (v := 1) hx hb dL_law_223 (by decide +kernel) ?_
    refine lv_iadd hx hb dL_law_224 ?_
    refine va_sld hx hb hXs hbl hbA hS h1 dL_law_225 ?_
    refine lv_aload_n hx hb dL_law_226 rfl (lv_at hl 3 rfl) ?_
    refine ch_i (As := [.ref (g 28), .int (xs (nI (3 * j) + 1).toNatClampNeg), .ref bo]) (rest := []) (r := 0) (w0 := (wZ g gm bo cA t s y d q k r c o m f T S R C Y D K Q O M)) (N := 50) ⟨hx, hb, hml, hown, htl⟩ (c_L_stack l DD cA ad adK adV tA tS g bo H.size (xs (nI (3 * j) + 1).toNatClampNeg) t s y d q k r c o m f v e1) (vx_cwSW 3 htl gL_law_L_stack rfl rfl rfl (by decide +kernel) ⟨Nat.le_of_ble_eq_true rfl, Nat.le_of_ble_eq_true rfl⟩) rfl hl.1 rfl (Nat.le_of_ble_eq_true rfl) dL_law_227 ⟨by show _ ≤ 1080; omega, by show _ ≤ 11779; omega⟩ hK hP hD hS hA [0, 1, 2, 3, 4, 5, 6, 7, 8, 9, 10, 11, 12, 13, 14, 15, 16, 17, 18, 19, 20, 21, 22, 23, 24, 25, 26, 27, 28, 29] [30, 31, 32, 33, 34, 35, 36, 37, 38, 39, 40, 41, 42, 43, 44, 45, 46, 47, 48, 49] (wZ g gm bo cA t s y d q k r c o m (vp_updL f 0 v.toInt64) T S R C Y D K Q O M) rfl (by decide +kernel) rfl (wr := List.filterMap (fun i => (wZ g gm bo cA t s y d q k r c o m f T S R C Y D K Q O M)[i]?) [30, 31, 32, 33, 34, 35, 36, 37, 38, 39, 40, 41, 42, 43, 44, 45, 46, 47, 48, 49]) rfl rfl (by decide +kernel) rfl (by decide +kernel) [g 0, g 1, g 2, g 3, g 4, g 5, g 6, g 7, g 8, g 9, g 10, g 11, g 12, g 13, g 14, g 15, g 16, g 17, g 18, g 19, g 20, g 21, g 22, g 23, g 24, g 25, g 26, g 27, g 28, bo, gm 0, gm 1, gm 2, gm 3, gm 4, gm 5, gm 6, gm 7, gm 8, gm 9, gm 10, gm 11, gm 12, gm 13, gm 14, gm 15, gm 16, gm 17, gm 18, gm 19] rfl rfl (fun a U g mk h => SX.blind a U g mk h) (fun U hU hW => SX.call hX0 hS (va_free (wc := (wL g bo cA t s y d q k r c o m f)) hD hS hA [0, 1, 2, 3, 4, 5, 6, 7, 8, 9, 10, 11, 12, 13, 14, 15, 16, 17, 18, 19, 20, 21, 22, 23, 24, 25, 26, 27, 28, 29] rfl) U hU hW) (fun H locs hP hD hS => ?_)
    have hP : va_P DD vwCl (wZ g gm bo cA t s y d q k r c o m (vp_updL f 0 v.toInt64) T S R C Y D K Q O M) H := hP
    have hD : va_D (fun q : Nat => S0.heap.size ≤ q) (wZ g gm bo cA t s y d q k r c o m (vp_updL f 0 v.toInt64) T S R C Y D K Q O M) := hD
    refine lv_istore (lv' := [(5, .int 0), (0, .ref b), (1, .ref (g 28)), (2, .ref (gm 0)), (3, .ref bo), (4, .int (nI (3 * j)))]) hx hb dL_law_230 hl (by decide) rfl (fun ls hl => ?_)
    refine lv_aload_n hx hb dL_law_232 rfl (lv_at hl 3 rfl) ?_
    refine lv_aload_n hx hb dL_law_233 rfl (lv_at hl 1 rfl) ?_
    refine lv_iload hx hb dL_law_234 (lv_at hl 5 rfl) ?_
    refine lv_iconst (v := 1) hx hb dL_law_236 (by decide +kernel) ?_
    refine lv_iadd hx hb dL_law_237 ?_
    refine va_sld hx hb hXs hbl hbA hS h1 dL_law_238 ?_
    refine cn_i (As := [.int (xs (nI (3 * j) + 1).toNatClampNeg)]) (rest := []) (r := v) (w0 := (wZ g gm bo cA t s y d q k r c o m (vp_updL f 0 v.toInt64) T S R C Y D K Q O M)) (N := 50) ⟨hx, hb, hml, hown, htl⟩ (c_X12_stack l DD cA gm H.size (xs (nI (3 * j) + 1).toNatClampNeg) T S R C Y D K Q O M (v, (0, M.2)) e2) (cwV 1 htl gL_law_X12_stack rfl rfl rfl (by decide +kernel) ⟨Nat.le_of_ble_eq_true rfl, Nat.le_of_ble_eq_true rfl⟩) rfl hl.1 rfl (Nat.le_of_ble_eq_true rfl) dL_law_239 ⟨by show _ ≤ 1080; omega, by show _ ≤ 11779; omega⟩ hK hP hD hS hA (va_recv hK hP (ci := 10) (q0 := 30) rfl rfl) [30, 31, 32, 33, 34, 35, 36, 37, 38, 39, 40, 41, 42, 43, 44, 45, 46, 47, 48, 49] [0, 1, 2, 3, 4, 5, 6, 7, 8, 9, 10, 11, 12, 13, 14, 15, 16, 17, 18, 19, 20, 21, 22, 23, 24, 25, 26, 27, 28, 29] (wZ g gm bo cA t s y d q k r c o m (vp_updL f 0 v.toInt64) T S R C Y D K Q O (0, M.2)) rfl (by decide +kernel) rfl (wr := List.filterMap (fun i => (wZ g gm bo cA t s y d q k r c o m (vp_updL f 0 v.toInt64) T S R C Y D K Q O M)[i]?) [0, 1, 2, 3, 4, 5, 6, 7, 8, 9, 10, 11, 12, 13, 14, 15, 16, 17, 18, 19, 20, 21, 22, 23, 24, 25, 26, 27, 28, 29]) rfl rfl (by decide +kernel) rfl (by decide +kernel) [g 0, g 1, g 2, g 3, g 4, g 5, g 6, g 7, g 8, g 9, g 10, g 11, g 12, g 13, g 14, g 15, g 16, g 17, g 18, g 19, g 20, g 21, g 22, g 23, g 24, g 25, g 26, g 27, g 28, bo, gm 0, gm 1, gm 2, gm 3, gm 4, gm 5, gm 6, gm 7, gm 8, gm 9, gm 10, gm 11, gm 12, gm 13, gm 14, gm 15, gm 16, gm 17, gm 18, gm 19] rfl rfl (fun _ _ _ _ _ => trivial) (fun _ _ _ => trivial) (fun H locs hP hD hS => ?_)
    have hP : va_P DD vwCl (wZ g gm bo cA t s y d q k r c o m (vp_updL f 0 v.toInt64) T S R C Y D K Q O (0, M.2)) H := hP
    have hD : va_D (fun q : Nat => S0.heap.size ≤ q) (wZ g gm bo cA t s y d q k r c o m (vp_updL f 0 v.toInt64) T S R C Y D K Q O (0, M.2)) := hD
    refine lv_istore (lv' := [(6, .int v), (5, .int 0), (0, .ref b), (1, .ref (g 28)), (2, .ref (gm 0)), (3, .ref bo), (4, .int (nI (3 * j)))]) hx hb dL_law_242 hl (by decide) rfl (fun ls hl => ?_)
    refine lv_aload_n hx hb dL_law_244 rfl (lv_at hl 4 rfl) ?_
    refine cn_i (As := []) (rest := []) (r := 0) (w0 := (wZ g gm bo cA t s y d q k r c o m (vp_updL f 0 v.toInt64) T S R C Y D K Q O (0, M.2))) (N := 50) ⟨hx, hb, hml, hown, htl⟩ (c_X12_thrown l DD cA gm H.size  T S R C Y D K Q O (0, M.2) 0 rfl) (cwV 0 htl gL_law_X12_thrown rfl rfl rfl (by decide +kernel) ⟨Nat.le_of_ble_eq_true rfl, Nat.le_of_ble_eq_true rfl⟩) rfl hl.1 rfl (Nat.le_of_ble_eq_true rfl) dL_law_245 ⟨by show _ ≤ 1080; omega, by show _ ≤ 11779; omega⟩ hK hP hD hS hA (va_recv hK hP (ci := 10) (q0 := 30) rfl rfl) [30, 31, 32, 33, 34, 35, 36, 37, 38, 39, 40, 41, 42, 43, 44, 45, 46, 47, 48, 49] [0, 1, 2, 3, 4, 5, 6, 7, 8, 9, 10, 11, 12, 13, 14, 15, 16, 17, 18, 19, 20, 21, 22, 23, 24, 25, 26, 27, 28, 29] (wZ g gm bo cA t s y d q k r c o m (vp_updL f 0 v.toInt64) T S R C Y D K Q O (0, M.2)) rfl (by decide +kernel) rfl (wr := List.filterMap (fun i => (wZ g gm bo cA t s y d q k r c o m (vp_updL f 0 v.toInt64) T S R C Y D K Q O (0, M.2))[i]?) [0, 1, 2, 3, 4, 5, 6, 7, 8, 9, 10, 11, 12, 13, 14, 15, 16, 17, 18, 19, 20, 21, 22, 23, 24, 25, 26, 27, 28, 29]) rfl rfl (by decide +kernel) rfl (by decide +kernel) [g 0, g 1, g 2, g 3, g 4, g 5, g 6, g 7, g 8, g 9, g 10, g 11, g 12, g 13, g 14, g 15, g 16, g 17, g 18, g 19, g 20, g 21, g 22, g 23, g 24, g 25, g 26, g 27, g 28, bo, gm 0, gm 1, gm 2, gm 3, gm 4, gm 5, gm 6, gm 7, gm 8, gm 9, gm 10, gm 11, gm 12, gm 13, gm 14, gm 15, gm 16, gm 17, gm 18, gm 19] rfl rfl (fun _ _ _ _ _ => trivial) (fun _ _ _ => trivial) (fun H locs hP hD hS => ?_)
    have hP : va_P DD vwCl (wZ g gm bo cA t s y d q k r c o m (vp_updL f 0 v.toInt64) T S R C Y D K Q O (0, M.2)) H := hP
    have hD : va_D (fun q : Nat => S0.heap.size ≤ q) (wZ g gm bo cA t s y d q k r c o m (vp_updL f 0 v.toInt64) T S R C Y D K Q O (0, M.2)) := hD
    refine lv_iload hx hb dL_law_248 (lv_at hl 1 rfl) ?_
    refine lv_icmp_eq (tgt := 255) hx hb dL_law_250 (by decide) (fun _ => ?_) (fun z => absurd rfl z)
    refine lv_iload hx hb dL_law_255 (lv_at hl 1 rfl) ?_
    refine lv_if_ne (tgt := 272) hx hb dL_law_257 (by decide) (fun z => absurd rfl z) (fun _ => ?_)
    refine lv_aload_n hx hb dL_law_260 rfl (lv_at hl 5 rfl) ?_
    refine lv_iconst (v := 0) hx hb dL_law_261 (by decide +kernel) ?_
    refine va_lald hx hb hK hP 29 3 rfl rfl (show vp_in 0 1 from vp_in_nI (n := 0) (N := 1) (by decide) (by decide)) dL_law_262 ?_
    refine lv_iload hx hb dL_law_263 (lv_at hl 0 rfl) ?_
    refine lv_i2l hx hb dL_law_265 rfl ?_
    refine W.lcmp hx hb dL_law_266 ?_
    refine lv_if_eq (tgt := 272) hx hb dL_law_267 (by decide) (fun _ => ?_) (fun z => absurd ((lg_cmp_eq _ _).mpr rfl) z)
    refine lv_goto (tgt := 424) hx hb dL_law_272 (by decide) ?_
    refine W.widen (k := 50 + (j + 1)) (n := 3551 + 6 * (j + 1)) (by omega) (by omega) ?_
    exact KT _ _ _ _ _ _ _ _ _ _ _ _ _ _ _ _ _ _ _ _ _ (hB.th 0) hO H locs hP hD hS ls (lv_sub hl [2, 3, 4, 5, 6] rfl)
  · refine lv_aload_n hx hb dL_law_219 rfl (lv_at hl 1 rfl) ?_
    refine lv_aload_n hx hb dL_law_220 rfl (lv_at hl 0 rfl) ?_
    refine lv_iload hx hb dL_law_221 (lv_at hl 4 rfl) ?_
    refine lv_iconst (v := 1) hx hb dL_law_223 (by decide +kernel) ?_
    refine lv_iadd hx hb dL_law_224 ?_
    refine va_sld hx hb hXs hbl hbA hS h1 dL_law_225 ?_
    refine lv_aload_n hx hb dL_law_226 rfl (lv_at hl 3 rfl) ?_
    refine ch_i (As := [.ref (g 28), .int (xs (nI (3 * j) + 1).toNatClampNeg), .ref bo]) (rest := []) (r := 1) (w0 := (wZ g gm bo cA t s y d q k r c o m f T S R C Y D K Q O M)) (N := 50) ⟨hx, hb, hml, hown, htl⟩ (x_L_stack l hst DD cA ad adK adV tA tS sa g bo H.size (xs (nI (3 * j) + 1).toNatClampNeg) t s y d q k r c o m f e1) (vx_cwSW 3 htl gL_law_L_stack rfl rfl rfl (by decide +kernel) ⟨Nat.le_of_ble_eq_true rfl, Nat.le_of_ble_eq_true rfl⟩) rfl hl.1 rfl (Nat.le_of_ble_eq_true rfl) dL_law_227 ⟨by show _ ≤ 1080; omega, by show _ ≤ 11779; omega⟩ hK hP hD hS hA [0, 1, 2, 3, 4, 5, 6, 7, 8, 9, 10, 11, 12, 13, 14, 15, 16, 17, 18, 19, 20, 21, 22, 23, 24, 25, 26, 27, 28, 29] [30, 31, 32, 33, 34, 35, 36, 37, 38, 39, 40, 41, 42, 43, 44, 45, 46, 47, 48, 49] (wZ g gm bo cA t s y d q k r c o m f T S R C Y D K Q O M) rfl (by decide +kernel) rfl (wr := List.filterMap (fun i => (wZ g gm bo cA t s y d q k r c o m f T S R C Y D K Q O M)[i]?) [30, 31, 32, 33, 34, 35, 36, 37, 38, 39, 40, 41, 42, 43, 44, 45, 46, 47, 48, 49]) rfl rfl (by decide +kernel) rfl (by decide +kernel) [g 0, g 1, g 2, g 3, g 4, g 5, g 6, g 7, g 8, g 9, g 10, g 11, g 12, g 13, g 14, g 15, g 16, g 17, g 18, g 19, g 20, g 21, g 22, g 23, g 24, g 25, g 26, g 27, g 28, bo, gm 0, gm 1, gm 2, gm 3, gm 4, gm 5, gm 6, gm 7, gm 8, gm 9, gm 10, gm 11, gm 12, gm 13, gm 14, gm 15, gm 16, gm 17, gm 18, gm 19] rfl rfl (fun a U g mk h => ⟨SX.blind a U g mk h.1, EX.blind a U g mk h.2⟩) (fun U hU hW => ⟨SX.call hX0 hS (va_free (wc := (wL g bo cA t s y d q k r c o m f)) hD hS hA [0, 1, 2, 3, 4, 5, 6, 7, 8, 9, 10, 11, 12, 13, 14, 15, 16, 17, 18, 19, 20, 21, 22, 23, 24, 25, 26, 27, 28, 29] rfl) U hU hW, EX.call hE0 hS (va_free (wc := (wL g bo cA t s y d q k r c o m f)) hD hS hA [0, 1, 2, 3, 4, 5, 6, 7, 8, 9, 10, 11, 12, 13, 14, 15, 16, 17, 18, 19, 20, 21, 22, 23, 24, 25, 26, 27, 28, 29] rfl) U hU hW⟩) (fun H locs hP hD hS => ?_)
    have hP : va_P DD vwCl (wZ g gm bo cA t s y d q k r c o m f T S R C Y D K Q O M) H := hP
    have hD : va_D (fun q : Nat => S0.heap.size ≤ q) (wZ g gm bo cA t s y d q k r c o m f T S R C Y D K Q O M) := hD
    refine lv_istore (lv' := [(5, .int 1), (0, .ref b), (1, .ref (g 28)), (2, .ref (gm 0)), (3, .ref bo), (4, .int (nI (3 * j)))]) hx hb dL_law_230 hl (by decide) rfl (fun ls hl => ?_)
    refine lv_aload_n hx hb dL_law_232 rfl (lv_at hl 3 rfl) ?_
    refine lv_aload_n hx hb dL_law_233 rfl (lv_at hl 1 rfl) ?_
    refine lv_iload hx hb dL_law_234 (lv_at hl 5 rfl) ?_
    refine lv_iconst (v := 1) hx hb dL_law_236 (by decide +kernel) ?_
    refine lv_iadd hx hb dL_law_237 ?_
    refine va_sld hx hb hXs hbl hbA hS h1 dL_law_238 ?_
    refine cn_i (As := [.int (xs (nI (3 * j) + 1).toNatClampNeg)]) (rest := []) (r := v) (w0 := (wZ g gm bo cA t s y d q k r c o m f T S R C Y D K Q O M)) (N := 50) ⟨hx, hb, hml, hown, htl⟩ (c_X12_stack l DD cA gm H.size (xs (nI (3 * j) + 1).toNatClampNeg) T S R C Y D K Q O M (v, (1, M.2)) e2) (cwV 1 htl gL_law_X12_stack rfl rfl rfl (by decide +kernel) ⟨Nat.le_of_ble_eq_true rfl, Nat.le_of_ble_eq_true rfl⟩) rfl hl.1 rfl (Nat.le_of_ble_eq_true rfl) dL_law_239 ⟨by show _ ≤ 1080; omega, by show _ ≤ 11779; omega⟩ hK hP hD hS hA (va_recv hK hP (ci := 10) (q0 := 30) rfl rfl) [30, 31, 32, 33, 34, 35, 36, 37, 38, 39, 40, 41, 42, 43, 44, 45, 46, 47, 48, 49] [0, 1, 2, 3, 4, 5, 6, 7, 8, 9, 10, 11, 12, 13, 14, 15, 16, 17, 18, 19, 20, 21, 22, 23, 24, 25, 26, 27, 28, 29] (wZ g gm bo cA t s y d q k r c o m f T S R C Y D K Q O (1, M.2)) rfl (by decide +kernel) rfl (wr := List.filterMap (fun i => (wZ g gm bo cA t s y d q k r c o m f T S R C Y D K Q O M)[i]?) [0, 1, 2, 3, 4, 5, 6, 7, 8, 9, 10, 11, 12, 13, 14, 15, 16, 17, 18, 19, 20, 21, 22, 23, 24, 25, 26, 27, 28, 29]) rfl rfl (by decide +kernel) rfl (by decide +kernel) [g 0, g 1, g 2, g 3, g 4, g 5, g 6, g 7, g 8, g 9, g 10, g 11, g 12, g 13, g 14, g 15, g 16, g 17, g 18, g 19, g 20, g 21, g 22, g 23, g 24, g 25, g 26, g 27, g 28, bo, gm 0, gm 1, gm 2, gm 3, gm 4, gm 5, gm 6, gm 7, gm 8, gm 9, gm 10, gm 11, gm 12, gm 13, gm 14, gm 15, gm 16, gm 17, gm 18, gm 19] rfl rfl (fun _ _ _ _ _ => trivial) (fun _ _ _ => trivial) (fun H locs hP hD hS => ?_)
    have hP : va_P DD vwCl (wZ g gm bo cA t s y d q k r c o m f T S R C Y D K Q O (1, M.2)) H := hP
    have hD : va_D (fun q : Nat => S0.heap.size ≤ q) (wZ g gm bo cA t s y d q k r c o m f T S R C Y D K Q O (1, M.2)) := hD
    refine lv_istore (lv' := [(6, .int v), (5, .int 1), (0, .ref b), (1, .ref (g 28)), (2, .ref (gm 0)), (3, .ref bo), (4, .int (nI (3 * j)))]) hx hb dL_law_242 hl (by decide) rfl (fun ls hl => ?_)
    refine lv_aload_n hx hb dL_law_244 rfl (lv_at hl 4 rfl) ?_
    refine cn_i (As := []) (rest := []) (r := 1) (w0 := (wZ g gm bo cA t s y d q k r c o m f T S R C Y D K Q O (1, M.2))) (N := 50) ⟨hx, hb, hml, hown, htl⟩ (c_X12_thrown l DD cA gm H.size  T S R C Y D K Q O (1, M.2) 1 rfl) (cwV 0 htl gL_law_X12_thrown rfl rfl rfl (by decide +kernel) ⟨Nat.le_of_ble_eq_true rfl, Nat.le_of_ble_eq_true rfl⟩) rfl hl.1 rfl (Nat.le_of_ble_eq_true rfl) dL_law_245 ⟨by show _ ≤ 1080; omega, by show _ ≤ 11779; omega⟩ hK hP hD hS hA (va_recv hK hP (ci := 10) (q0 := 30) rfl rfl) [30, 31, 32, 33, 34, 35, 36, 37, 38, 39, 40, 41, 42, 43, 44, 45, 46, 47, 48, 49] [0, 1, 2, 3, 4, 5, 6, 7, 8, 9, 10, 11, 12, 13, 14, 15, 16, 17, 18, 19, 20, 21, 22, 23, 24, 25, 26, 27, 28, 29] (wZ g gm bo cA t s y d q k r c o m f T S R C Y D K Q O (1, M.2)) rfl (by decide +kernel) rfl (wr := List.filterMap (fun i => (wZ g gm bo cA t s y d q k r c o m f T S R C Y D K Q O (1, M.2))[i]?) [0, 1, 2, 3, 4, 5, 6, 7, 8, 9, 10, 11, 12, 13, 14, 15, 16, 17, 18, 19, 20, 21, 22, 23, 24, 25, 26, 27, 28, 29]) rfl rfl (by decide +kernel) rfl (by decide +kernel) [g 0, g 1, g 2, g 3, g 4, g 5, g 6, g 7, g 8, g 9, g 10, g 11, g 12, g 13, g 14, g 15, g 16, g 17, g 18, g 19, g 20, g 21, g 22, g 23, g 24, g 25, g 26, g 27, g 28, bo, gm 0, gm 1, gm 2, gm 3, gm 4, gm 5, gm 6, gm 7, gm 8, gm 9, gm 10, gm 11, gm 12, gm 13, gm 14, gm 15, gm 16, gm 17, gm 18, gm 19] rfl rfl (fun _ _ _ _ _ => trivial) (fun _ _ _ => trivial) (fun H locs hP hD hS => ?_)
    have hP : va_P DD vwCl (wZ g gm bo cA t s y d q k r c o m f T S R C Y D K Q O (1, M.2)) H := hP
    have hD : va_D (fun q : Nat => S0.heap.size ≤ q) (wZ g gm bo cA t s y d q k r c o m f T S R C Y D K Q O (1, M.2)) := hD
    refine lv_iload hx hb dL_law_248 (lv_at hl 1 rfl) ?_
    refine lv_icmp_eq (tgt := 255) hx hb dL_law_250 (by decide) (fun _ => ?_) (fun z => absurd rfl z)
    refine lv_iload hx hb dL_law_255 (lv_at hl 1 rfl) ?_
    refine lv_if_ne (tgt := 272) hx hb dL_law_257 (by decide) (fun _ => ?_) (fun z => absurd z (by decide))
    refine lv_goto (tgt := 424) hx hb dL_law_272 (by decide) ?_
    refine W.widen (k := 50 + (j + 1)) (n := 3551 + 6 * (j + 1)) (by omega) (by omega) ?_
    exact KT _ _ _ _ _ _ _ _ _ _ _ _ _ _ _ _ _ _ _ _ _ (hB.th 1) hO H locs hP hD hS ls (lv_sub hl [2, 3, 4, 5, 6] rfl)
set_option maxHeartbeats 4000000 in
set_option maxRecDepth 100000 in
theorem law_cell {PP : Program} {l : Launch} {EE : Env} {S0 : State} {MM : MethodId} {below : List Frame} {meth : Method} {CC : Code} {DD : va_G} {cA : Nat → ClassId} {b L : Nat} {xs : Nat → Int32} {ad adK adV sa : Nat → Nat} {tA tS : Nat} (hst : l.stackTraces = false) (hL : L ≤ 1536) (C0 : lw_At PP S0 MM meth CC b L xs) (hK : va_K DD vwCl (bTY cA) S0) (hX0 : SX ad adK adV tA tS (fun q : Nat => S0.heap.size ≤ q) S0 S0.heap) (hE0 : EX sa (fun q : Nat => S0.heap.size ≤ q) S0 S0.heap) (g gm : Nat → Nat) (bo : Nat) {j : Nat} (hj : 3 * j + 3 ≤ L) (KT : LT PP l EE S0 MM below meth CC DD cA b g gm bo (nI (3 * j)) (50 + (j + 1)) (3551 + 6 * (j + 1)) 424) : LT PP l EE S0 MM below meth CC DD cA b g gm bo (nI (3 * j)) (50 + j) (3551 + 6 * j) 275 := by
  intro t s y d q k r c o m T S R C Y D K Q O M f hB hO H locs hP hD hS ls hl
  obtain ⟨hx, hb, hr, hml, hown, hts, hXs, hbl, hlocks, hgv⟩ := C0
  have hb : CC.code = cL_law := hb
  have hown : S0.vm.findClass RL = some MM.cls := hown
  have htl : ∀ w ∈ wsL_law, w.before #[Value.ref b] S0 = true := fun w h => hts w (wl_all w h)
  have hA : ∀ q : Nat, S0.heap.size ≤ q → (fun q : Nat => S0.heap.size ≤ q) q := fun _ h => h
  have hbA : ¬ (fun q : Nat => S0.heap.size ≤ q) b := Nat.not_le.mpr hbl
  have h1 : vp_in (nI (3 * j) + 1) L := by rw [nI_1]; exact vp_in_nI (by omega) (by omega)
  have h2 : vp_in (nI (3 * j) + 2) L := by rw [show nI (3 * j) + 2 = nI (3 * j + 2) from nI_add (3 * j) 2]; exact vp_in_nI (by omega) (by omega)
  rcases o_cell hB (xs (nI (3 * j) + 1).toNatClampNeg) with ⟨v, e1, e2⟩ | ⟨e1, v, e2⟩
  · refine lv_aload_n hx hb dL_law_275 rfl (lv_at hl 1 rfl) ?_
    refine lv_aload_n hx hb dL_law_276 rfl (lv_at hl 0 rfl) ?_
    refine lv_iload hx hb dL_law_277 (lv_at hl 4 rfl) ?_
    refine lv_iconst (v := 1) hx hb dL_law_279 (by decide +kernel) ?_
    refine lv_iadd hx hb dL_law_280 ?_
    refine va_sld hx hb hXs hbl hbA hS h1 dL_law_281 ?_
    refine lv_aload_n hx hb dL_law_282 rfl (lv_at hl 3 rfl) ?_
    refine ch_i (As := [.ref (g 28), .int (xs (nI (3 * j) + 1).toNatClampNeg), .ref bo]) (rest := []) (r := 0) (w0 := (wZ g gm bo cA t s y d q k r c o m f T S R C Y D K Q O M)) (N := 50) ⟨hx, hb, hml, hown, htl⟩ (c_L_cell l DD cA ad adK adV tA tS g bo H.size (xs (nI (3 * j) + 1).toNatClampNeg) t s y d q k r c o m f v e1) (vx_cwSW 3 htl gL_law_L_cell rfl rfl rfl (by decide +kernel) ⟨Nat.le_of_ble_eq_true rfl, Nat.le_of_ble_eq_true rfl⟩) rfl hl.1 rfl (Nat.le_of_ble_eq_true rfl) dL_law_283 ⟨by show _ ≤ 1080; omega, by show _ ≤ 11779; omega⟩ hK hP hD hS hA [0, 1, 2, 3, 4, 5, 6, 7, 8, 9, 10, 11, 12, 13, 14, 15, 16, 17, 18, 19, 20, 21, 22, 23, 24, 25, 26, 27, 28, 29] [30, 31, 32, 33, 34, 35, 36, 37, 38, 39, 40, 41, 42, 43, 44, 45, 46, 47, 48, 49] (wZ g gm bo cA t s y d q k r c o m (vp_updL f 0 v.toInt64) T S R C Y D K Q O M) rfl (by decide +kernel) rfl (wr := List.filterMap (fun i => (wZ g gm bo cA t s y d q k r c o m f T S R C Y D K Q O M)[i]?) [30, 31, 32, 33, 34, 35, 36, 37, 38, 39, 40, 41, 42, 43, 44, 45, 46, 47, 48, 49]) rfl rfl (by decide +kernel) rfl (by decide +kernel) [g 0, g 1, g 2, g 3, g 4, g 5, g 6, g 7, g 8, g 9, g 10, g 11, g 12, g 13, g 14, g 15, g 16, g 17, g 18, g 19, g 20, g 21, g 22, g 23, g 24, g 25, g 26, g 27, g 28, bo, gm 0, gm 1, gm 2, gm 3, gm 4, gm 5, gm 6, gm 7, gm 8, gm 9, gm 10, gm 11, gm 12, gm 13, gm 14, gm 15, gm 16, gm 17, gm 18, gm 19] rfl rfl (fun a U g mk h => SX.blind a U g mk h) (fun U hU hW => SX.call hX0 hS (va_free (wc := (wL g bo cA t s y d q k r c o m f)) hD hS hA [0, 1, 2, 3, 4, 5, 6, 7, 8, 9, 10, 11, 12, 13, 14, 15, 16, 17, 18, 19, 20, 21, 22, 23, 24, 25, 26, 27, 28, 29] rfl) U hU hW) (fun H locs hP hD hS => ?_)
    have hP : va_P DD vwCl (wZ g gm bo cA t s y d q k r c o m (vp_updL f 0 v.toInt64) T S R C Y D K Q O M) H := hP
    have hD : va_D (fun q : Nat => S0.heap.size ≤ q) (wZ g gm bo cA t s y d q k r c o m (vp_updL f 0 v.toInt64) T S R C Y D K Q O M) := hD
    refine lv_istore (lv' := [(5, .int 0), (0, .ref b), (1, .ref (g 28)), (2, .ref (gm 0)), (3, .ref bo), (4, .int (nI (3 * j)))]) hx hb dL_law_286 hl (by decide) rfl (fun ls hl => ?_)
    refine lv_aload_n hx hb dL_law_288 rfl (lv_at hl 3 rfl) ?_
    refine lv_aload_n hx hb dL_law_289 rfl (lv_at hl 1 rfl) ?_
    refine lv_iload hx hb dL_law_290 (lv_at hl 5 rfl) ?_
    refine lv_iconst (v := 1) hx hb dL_law_292 (by decide +kernel) ?_
    refine lv_iadd hx hb dL_law_293 ?_
    refine va_sld hx hb hXs hbl hbA hS h1 dL_law_294 ?_
    refine cn_i (As := [.int (xs (nI (3 * j) + 1).toNatClampNeg)]) (rest := []) (r := v) (w0 := (wZ g gm bo cA t s y d q k r c o m (vp_updL f 0 v.toInt64) T S R C Y D K Q O M)) (N := 50) ⟨hx, hb, hml, hown, htl⟩ (c_X12_cell l DD cA gm H.size (xs (nI (3 * j) + 1).toNatClampNeg) T S R C Y D K Q O M (v, (0, M.2)) e2) (cwV 1 htl gL_law_X12_cell rfl rfl rfl (by decide +kernel) ⟨Nat.le_of_ble_eq_true rfl, Nat.le_of_ble_eq_true rfl⟩) rfl hl.1 rfl (Nat.le_of_ble_eq_true rfl) dL_law_295 ⟨by show _ ≤ 1080; omega, by show _ ≤ 11779; omega⟩ hK hP hD hS hA (va_recv hK hP (ci := 10) (q0 := 30) rfl rfl) [30, 31, 32, 33, 34, 35, 36, 37, 38, 39, 40, 41, 42, 43, 44, 45, 46, 47, 48, 49] [0, 1, 2, 3, 4, 5, 6, 7, 8, 9, 10, 11, 12, 13, 14, 15, 16, 17, 18, 19, 20, 21, 22, 23, 24, 25, 26, 27, 28, 29] (wZ g gm bo cA t s y d q k r c o m (vp_updL f 0 v.toInt64) T S R C Y D K Q O (0, M.2)) rfl (by decide +kernel) rfl (wr := List.filterMap (fun i => (wZ g gm bo cA t s y d q k r c o m (vp_updL f 0 v.toInt64) T S R C Y D K Q O M)[i]?) [0, 1, 2, 3, 4, 5, 6, 7, 8, 9, 10, 11, 12, 13, 14, 15, 16, 17, 18, 19, 20, 21, 22, 23, 24, 25, 26, 27, 28, 29]) rfl rfl (by decide +kernel) rfl (by decide +kernel) [g 0, g 1, g 2, g 3, g 4, g 5, g 6, g 7, g 8, g 9, g 10, g 11, g 12, g 13, g 14, g 15, g 16, g 17, g 18, g 19, g 20, g 21, g 22, g 23, g 24, g 25, g 26, g 27, g 28, bo, gm 0, gm 1, gm 2, gm 3, gm 4, gm 5, gm 6, gm 7, gm 8, gm 9, gm 10, gm 11, gm 12, gm 13, gm 14, gm 15, gm 16, gm 17, gm 18, gm 19] rfl rfl (fun _ _ _ _ _ => trivial) (fun _ _ _ => trivial) (fun H locs hP hD hS => ?_)
    have hP : va_P DD vwCl (wZ g gm bo cA t s y d q k r c o m (vp_updL f 0 v.toInt64) T S R C Y D K Q O (0, M.2)) H := hP
    have hD : va_D (fun q : Nat => S0.heap.size ≤ q) (wZ g gm bo cA t s y d q k r c o m (vp_updL f 0 v.toInt64) T S R C Y D K Q O (0, M.2)) := hD
    refine lv_istore (lv' := [(6, .int v), (5, .int 0), (0, .ref b), (1, .ref (g 28)), (2, .ref (gm 0)), (3, .ref bo), (4, .int (nI (3 * j)))]) hx hb dL_law_298 hl (by decide) rfl (fun ls hl => ?_)
    refine lv_aload_n hx hb dL_law_300 rfl (lv_at hl 4 rfl) ?_
    refine cn_i (As := []) (rest := []) (r := 0) (w0 := (wZ g gm bo cA t s y d q k r c o m (vp_updL f 0 v.toInt64) T S R C Y D K Q O (0, M.2))) (N := 50) ⟨hx, hb, hml, hown, htl⟩ (c_X12_thrown l DD cA gm H.size  T S R C Y D K Q O (0, M.2) 0 rfl) (cwV 0 htl gL_law_X12_thrown rfl rfl rfl (by decide +kernel) ⟨Nat.le_of_ble_eq_true rfl, Nat.le_of_ble_eq_true rfl⟩) rfl hl.1 rfl (Nat.le_of_ble_eq_true rfl) dL_law_301 ⟨by show _ ≤ 1080; omega, by show _ ≤ 11779; omega⟩ hK hP hD hS hA (va_recv hK hP (ci := 10) (q0 := 30) rfl rfl) [30, 31, 32, 33, 34, 35, 36, 37, 38, 39, 40, 41, 42, 43, 44, 45, 46, 47, 48, 49] [0, 1, 2, 3, 4, 5, 6, 7, 8, 9, 10, 11, 12, 13, 14, 15, 16, 17, 18, 19, 20, 21, 22, 23, 24, 25, 26, 27, 28, 29] (wZ g gm bo cA t s y d q k r c o m (vp_updL f 0 v.toInt64) T S R C Y D K Q O (0, M.2)) rfl (by decide +kernel) rfl (wr := List.filterMap (fun i => (wZ g gm bo cA t s y d q k r c o m (vp_updL f 0 v.toInt64) T S R C Y D K Q O (0, M.2))[i]?) [0, 1, 2, 3, 4, 5, 6, 7, 8, 9, 10, 11, 12, 13, 14, 15, 16, 17, 18, 19, 20, 21, 22, 23, 24, 25, 26, 27, 28, 29]) rfl rfl (by decide +kernel) rfl (by decide +kernel) [g 0, g 1, g 2, g 3, g 4, g 5, g 6, g 7, g 8, g 9, g 10, g 11, g 12, g 13, g 14, g 15, g 16, g 17, g 18, g 19, g 20, g 21, g 22, g 23, g 24, g 25, g 26, g 27, g 28, bo, gm 0, gm 1, gm 2, gm 3, gm 4, gm 5, gm 6, gm 7, gm 8, gm 9, gm 10, gm 11, gm 12, gm 13, gm 14, gm 15, gm 16, gm 17, gm 18, gm 19] rfl rfl (fun _ _ _ _ _ => trivial) (fun _ _ _ => trivial) (fun H locs hP hD hS => ?_)
    have hP : va_P DD vwCl (wZ g gm bo cA t s y d q k r c o m (vp_updL f 0 v.toInt64) T S R C Y D K Q O (0, M.2)) H := hP
    have hD : va_D (fun q : Nat => S0.heap.size ≤ q) (wZ g gm bo cA t s y d q k r c o m (vp_updL f 0 v.toInt64) T S R C Y D K Q O (0, M.2)) := hD
    refine lv_iload hx hb dL_law_304 (lv_at hl 1 rfl) ?_
    refine lv_icmp_eq (tgt := 311) hx hb dL_law_306 (by decide) (fun _ => ?_) (fun z => absurd rfl z)
    refine lv_iload hx hb dL_law_311 (lv_at hl 1 rfl) ?_
    refine lv_if_ne (tgt := 328) hx hb dL_law_313 (by decide) (fun z => absurd rfl z) (fun _ => ?_)
    refine lv_aload_n hx hb dL_law_316 rfl (lv_at hl 5 rfl) ?_
    refine lv_iconst (v := 0) hx hb dL_law_317 (by decide +kernel) ?_
    refine va_lald hx hb hK hP 29 3 rfl rfl (show vp_in 0 1 from vp_in_nI (n := 0) (N := 1) (by decide) (by decide)) dL_law_318 ?_
    refine lv_iload hx hb dL_law_319 (lv_at hl 0 rfl) ?_
    refine lv_i2l hx hb dL_law_321 rfl ?_
    refine W.lcmp hx hb dL_law_322 ?_
    refine lv_if_eq (tgt := 328) hx hb dL_law_323 (by decide) (fun _ => ?_) (fun z => absurd ((lg_cmp_eq _ _).mpr rfl) z)
    refine lv_goto (tgt := 424) hx hb dL_law_328 (by decide) ?_
    refine W.widen (k := 50 + (j + 1)) (n := 3551 + 6 * (j + 1)) (by omega) (by omega) ?_
    exact KT _ _ _ _ _ _ _ _ _ _ _ _ _ _ _ _ _ _ _ _ _ (hB.th 0) hO H locs hP hD hS ls (lv_sub hl [2, 3, 4, 5, 6] rfl)
  · refine lv_aload_n hx hb dL_law_275 rfl (lv_at hl 1 rfl) ?_
    refine lv_aload_n hx hb dL_law_276 rfl (lv_at hl 0 rfl) ?_
    refine lv_iload hx hb dL_law_277 (lv_at hl 4 rfl) ?_
    refine lv_iconst (v := 1) hx hb dL_law_279 (by decide +kernel) ?_
    refine lv_iadd hx hb dL_law_280 ?_
    refine va_sld hx hb hXs hbl hbA hS h1 dL_law_281 ?_
    refine lv_aload_n hx hb dL_law_282 rfl (lv_at hl 3 rfl) ?_
    refine ch_i (As := [.ref (g 28), .int (xs (nI (3 * j) + 1).toNatClampNeg), .ref bo]) (rest := []) (r := 1) (w0 := (wZ g gm bo cA t s y d q k r c o m f T S R C Y D K Q O M)) (N := 50) ⟨hx, hb, hml, hown, htl⟩ (x_L_cell l hst DD cA ad adK adV tA tS sa g bo H.size (xs (nI (3 * j) + 1).toNatClampNeg) t s y d q k r c o m f e1) (vx_cwSW 3 htl gL_law_L_cell rfl rfl rfl (by decide +kernel) ⟨Nat.le_of_ble_eq_true rfl, Nat.le_of_ble_eq_true rfl⟩) rfl hl.1 rfl (Nat.le_of_ble_eq_true rfl) dL_law_283 ⟨by show _ ≤ 1080; omega, by show _ ≤ 11779; omega⟩ hK hP hD hS hA [0, 1, 2, 3, 4, 5, 6, 7, 8, 9, 10, 11, 12, 13, 14, 15, 16, 17, 18, 19, 20, 21, 22, 23, 24, 25, 26, 27, 28, 29] [30, 31, 32, 33, 34, 35, 36, 37, 38, 39, 40, 41, 42, 43, 44, 45, 46, 47, 48, 49] (wZ g gm bo cA t s y d q k r c o m f T S R C Y D K Q O M) rfl (by decide +kernel) rfl (wr := List.filterMap (fun i => (wZ g gm bo cA t s y d q k r c o m f T S R C Y D K Q O M)[i]?) [30, 31, 32, 33, 34, 35, 36, 37, 38, 39, 40, 41, 42, 43, 44, 45, 46, 47, 48, 49]) rfl rfl (by decide +kernel) rfl (by decide +kernel) [g 0, g 1, g 2, g 3, g 4, g 5, g 6, g 7, g 8, g 9, g 10, g 11, g 12, g 13, g 14, g 15, g 16, g 17, g 18, g 19, g 20, g 21, g 22, g 23, g 24, g 25, g 26, g 27, g 28, bo, gm 0, gm 1, gm 2, gm 3, gm 4, gm 5, gm 6, gm 7, gm 8, gm 9, gm 10, gm 11, gm 12, gm 13, gm 14, gm 15, gm 16, gm 17, gm 18, gm 19] rfl rfl (fun a U g mk h => ⟨SX.blind a U g mk h.1, EX.blind a U g mk h.2⟩) (fun U hU hW => ⟨SX.call hX0 hS (va_free (wc := (wL g bo cA t s y d q k r c o m f)) hD hS hA [0, 1, 2, 3, 4, 5, 6, 7, 8, 9, 10, 11, 12, 13, 14, 15, 16, 17, 18, 19, 20, 21, 22, 23, 24, 25, 26, 27, 28, 29] rfl) U hU hW, EX.call hE0 hS (va_free (wc := (wL g bo cA t s y d q k r c o m f)) hD hS hA [0, 1, 2, 3, 4, 5, 6, 7, 8, 9, 10, 11, 12, 13, 14, 15, 16, 17, 18, 19, 20, 21, 22, 23, 24, 25, 26, 27, 28, 29] rfl) U hU hW⟩) (fun H locs hP hD hS => ?_)
    have hP : va_P DD vwCl (wZ g gm bo cA t s y d q k r c o m f T S R C Y D K Q O M) H := hP
    have hD : va_D (fun q : Nat => S0.heap.size ≤ q) (wZ g gm bo cA t s y d q k r c o m f T S R C Y D K Q O M) := hD
    refine lv_istore (lv' := [(5, .int 1), (0, .ref b), (1, .ref (g 28)), (2, .ref (gm 0)), (3, .ref bo), (4, .int (nI (3 * j)))]) hx hb dL_law_286 hl (by decide) rfl (fun ls hl => ?_)
    refine lv_aload_n hx hb dL_law_288 rfl (lv_at hl 3 rfl) ?_
    refine lv_aload_n hx hb dL_law_289 rfl (lv_at hl 1 rfl) ?_
    refine lv_iload hx hb dL_law_290 (lv_at hl 5 rfl) ?_
    refine lv_iconst (v := 1) hx hb dL_law_292 (by decide +kernel) ?_
    refine lv_iadd hx hb dL_law_293 ?_
    refine va_sld hx hb hXs hbl hbA hS h1 dL_law_294 ?_
    refine cn_i (As := [.int (xs (nI (3 * j) + 1).toNatClampNeg)]) (rest := []) (r := v) (w0 := (wZ g gm bo cA t s y d q k r c o m f T S R C Y D K Q O M)) (N := 50) ⟨hx, hb, hml, hown, htl⟩ (c_X12_cell l DD cA gm H.size (xs (nI (3 * j) + 1).toNatClampNeg) T S R C Y D K Q O M (v, (1, M.2)) e2) (cwV 1 htl gL_law_X12_cell rfl rfl rfl (by decide +kernel) ⟨Nat.le_of_ble_eq_true rfl, Nat.le_of_ble_eq_true rfl⟩) rfl hl.1 rfl (Nat.le_of_ble_eq_true rfl) dL_law_295 ⟨by show _ ≤ 1080; omega, by show _ ≤ 11779; omega⟩ hK hP hD hS hA (va_recv hK hP (ci := 10) (q0 := 30) rfl rfl) [30, 31, 32, 33, 34, 35, 36, 37, 38, 39, 40, 41, 42, 43, 44, 45, 46, 47, 48, 49] [0, 1, 2, 3, 4, 5, 6, 7, 8, 9, 10, 11, 12, 13, 14, 15, 16, 17, 18, 19, 20, 21, 22, 23, 24, 25, 26, 27, 28, 29] (wZ g gm bo cA t s y d q k r c o m f T S R C Y D K Q O (1, M.2)) rfl (by decide +kernel) rfl (wr := List.filterMap (fun i => (wZ g gm bo cA t s y d q k r c o m f T S R C Y D K Q O M)[i]?) [0, 1, 2, 3, 4, 5, 6, 7, 8, 9, 10, 11, 12, 13, 14, 15, 16, 17, 18, 19, 20, 21, 22, 23, 24, 25, 26, 27, 28, 29]) rfl rfl (by decide +kernel) rfl (by decide +kernel) [g 0, g 1, g 2, g 3, g 4, g 5, g 6, g 7, g 8, g 9, g 10, g 11, g 12, g 13, g 14, g 15, g 16, g 17, g 18, g 19, g 20, g 21, g 22, g 23, g 24, g 25, g 26, g 27, g 28, bo, gm 0, gm 1, gm 2, gm 3, gm 4, gm 5, gm 6, gm 7, gm 8, gm 9, gm 10, gm 11, gm 12, gm 13, gm 14, gm 15, gm 16, gm 17, gm 18, gm 19] rfl rfl (fun _ _ _ _ _ => trivial) (fun _ _ _ => trivial) (fun H locs hP hD hS => ?_)
    have hP : va_P DD vwCl (wZ g gm bo cA t s y d q k r c o m f T S R C Y D K Q O (1, M.2)) H := hP
    have hD : va_D (fun q : Nat => S0.heap.size ≤ q) (wZ g gm bo cA t s y d q k r c o m f T S R C Y D K Q O (1, M.2)) := hD
    refine lv_istore (lv' := [(6, .int v), (5, .int 1), (0, .ref b), (1, .ref (g 28)), (2, .ref (gm 0)), (3, .ref bo), (4, .int (nI (3 * j)))]) hx hb dL_law_298 hl (by decide) rfl (fun ls hl => ?_)
    refine lv_aload_n hx hb dL_law_300 rfl (lv_at hl 4 rfl) ?_
    refine cn_i (As := []) (rest := []) (r := 1) (w0 := (wZ g gm bo cA t s y d q k r c o m f T S R C Y D K Q O (1, M.2))) (N := 50) ⟨hx, hb, hml, hown, htl⟩ (c_X12_thrown l DD cA gm H.size  T S R C Y D K Q O (1, M.2) 1 rfl) (cwV 0 htl gL_law_X12_thrown rfl rfl rfl (by decide +kernel) ⟨Nat.le_of_ble_eq_true rfl, Nat.le_of_ble_eq_true rfl⟩) rfl hl.1 rfl (Nat.le_of_ble_eq_true rfl) dL_law_301 ⟨by show _ ≤ 1080; omega, by show _ ≤ 11779; omega⟩ hK hP hD hS hA (va_recv hK hP (ci := 10) (q0 := 30) rfl rfl) [30, 31, 32, 33, 34, 35, 36, 37, 38, 39, 40, 41, 42, 43, 44, 45, 46, 47, 48, 49] [0, 1, 2, 3, 4, 5, 6, 7, 8, 9, 10, 11, 12, 13, 14, 15, 16, 17, 18, 19, 20, 21, 22, 23, 24, 25, 26, 27, 28, 29] (wZ g gm bo cA t s y d q k r c o m f T S R C Y D K Q O (1, M.2)) rfl (by decide +kernel) rfl (wr := List.filterMap (fun i => (wZ g gm bo cA t s y d q k r c o m f T S R C Y D K Q O (1, M.2))[i]?) [0, 1, 2, 3, 4, 5, 6, 7, 8, 9, 10, 11, 12, 13, 14, 15, 16, 17, 18, 19, 20, 21, 22, 23, 24, 25, 26, 27, 28, 29]) rfl rfl (by decide +kernel) rfl (by decide +kernel) [g 0, g 1, g 2, g 3, g 4, g 5, g 6, g 7, g 8, g 9, g 10, g 11, g 12, g 13, g 14, g 15, g 16, g 17, g 18, g 19, g 20, g 21, g 22, g 23, g 24, g 25, g 26, g 27, g 28, bo, gm 0, gm 1, gm 2, gm 3, gm 4, gm 5, gm 6, gm 7, gm 8, gm 9, gm 10, gm 11, gm 12, gm 13, gm 14, gm 15, gm 16, gm 17, gm 18, gm 19] rfl rfl (fun _ _ _ _ _ => trivial) (fun _ _ _ => trivial) (fun H locs hP hD hS => ?_)
    have hP : va_P DD vwCl (wZ g gm bo cA t s y d q k r c o m f T S R C Y D K Q O (1, M.2)) H := hP
    have hD : va_D (fun q : Nat => S0.heap.size ≤ q) (wZ g gm bo cA t s y d q k r c o m f T S R C Y D K Q O (1, M.2)) := hD
    refine lv_iload hx hb dL_law_304 (lv_at hl 1 rfl) ?_
    refine lv_icmp_eq (tgt := 311) hx hb dL_law_306 (by decide) (fun _ => ?_) (fun z => absurd rfl z)
    refine lv_iload hx hb dL_law_311 (lv_at hl 1 rfl) ?_
    refine lv_if_ne (tgt := 328) hx hb dL_law_313 (by decide) (fun _ => ?_) (fun z => absurd z (by decide))
    refine lv_goto (tgt := 424) hx hb dL_law_328 (by decide) ?_
    refine W.widen (k := 50 + (j + 1)) (n := 3551 + 6 * (j + 1)) (by omega) (by omega) ?_
    exact KT _ _ _ _ _ _ _ _ _ _ _ _ _ _ _ _ _ _ _ _ _ (hB.th 1) hO H locs hP hD hS ls (lv_sub hl [2, 3, 4, 5, 6] rfl)
set_option maxHeartbeats 4000000 in
set_option maxRecDepth 100000 in
theorem law_word {PP : Program} {l : Launch} {EE : Env} {S0 : State} {MM : MethodId} {below : List Frame} {meth : Method} {CC : Code} {DD : va_G} {cA : Nat → ClassId} {b L : Nat} {xs : Nat → Int32} {ad adK adV sa : Nat → Nat} {tA tS : Nat} (hst : l.stackTraces = false) (hL : L ≤ 1536) (C0 : lw_At PP S0 MM meth CC b L xs) (hK : va_K DD vwCl (bTY cA) S0) (hX0 : SX ad adK adV tA tS (fun q : Nat => S0.heap.size ≤ q) S0 S0.heap) (hE0 : EX sa (fun q : Nat => S0.heap.size ≤ q) S0 S0.heap) (g gm : Nat → Nat) (bo : Nat) {j : Nat} (hj : 3 * j + 3 ≤ L) (KT : LT PP l EE S0 MM below meth CC DD cA b g gm bo (nI (3 * j)) (50 + (j + 1)) (3551 + 6 * (j + 1)) 424) : LT PP l EE S0 MM below meth CC DD cA b g gm bo (nI (3 * j)) (50 + j) (3551 + 6 * j) 331 := by
  intro t s y d q k r c o m T S R C Y D K Q O M f hB hO H locs hP hD hS ls hl
  obtain ⟨hx, hb, hr, hml, hown, hts, hXs, hbl, hlocks, hgv⟩ := C0
  have hb : CC.code = cL_law := hb
  have hown : S0.vm.findClass RL = some MM.cls := hown
  have htl : ∀ w ∈ wsL_law, w.before #[Value.ref b] S0 = true := fun w h => hts w (wl_all w h)
  have hA : ∀ q : Nat, S0.heap.size ≤ q → (fun q : Nat => S0.heap.size ≤ q) q := fun _ h => h
  have hbA : ¬ (fun q : Nat => S0.heap.size ≤ q) b := Nat.not_le.mpr hbl
  have h1 : vp_in (nI (3 * j) + 1) L := by rw [nI_1]; exact vp_in_nI (by omega) (by omega)
  have h2 : vp_in (nI (3 * j) + 2) L := by rw [show nI (3 * j) + 2 = nI (3 * j + 2) from nI_add (3 * j) 2]; exact vp_in_nI (by omega) (by omega)
  rcases o_word hB (xs (nI (3 * j) + 1).toNatClampNeg) (xs (nI (3 * j) + 2).toNatClampNeg) with ⟨v, e1, e2⟩ | ⟨e1, v, e2⟩ | ⟨e1, v, e2⟩
  · refine lv_aload_n hx hb dL_law_331 rfl (lv_at hl 1 rfl) ?_
    refine lv_aload_n hx hb dL_law_332 rfl (lv_at hl 0 rfl) ?_
    refine lv_iload hx hb dL_law_333 (lv_at hl 4 rfl) ?_
    refine lv_iconst (v := 1) hx hb dL_law_335 (by decide +kernel) ?_
    refine lv_iadd hx hb dL_law_336 ?_
    refine va_sld hx hb hXs hbl hbA hS h1 dL_law_337 ?_
    refine lv_aload_n hx hb dL_law_338 rfl (lv_at hl 0 rfl) ?_
    refine lv_iload hx hb dL_law_339 (lv_at hl 4 rfl) ?_
    refine lv_iconst (v := 2) hx hb dL_law_341 (by decide +kernel) ?_
    refine lv_iadd hx hb dL_law_342 ?_
    refine va_sld hx hb hXs hbl hbA hS h2 dL_law_343 ?_
    refine lv_aload_n hx hb dL_law_344 rfl (lv_at hl 3 rfl) ?_
    refine ch_i (As := [.ref (g 28), .int (xs (nI (3 * j) + 1).toNatClampNeg), .int (xs (nI (3 * j) + 2).toNatClampNeg), .ref bo]) (rest := []) (r := 0) (w0 := (wZ g gm bo cA t s y d q k r c o m f T S R C Y D K Q O M)) (N := 50) ⟨hx, hb, hml, hown, htl⟩ (c_L_word l DD cA ad adK adV tA tS g bo H.size (xs (nI (3 * j) + 1).toNatClampNeg) (xs (nI (3 * j) + 2).toNatClampNeg) t s y d q k r c o m f v e1) (vx_cwSW 4 htl g2L_law_L_word rfl rfl rfl (by decide +kernel) ⟨Nat.le_of_ble_eq_true rfl, Nat.le_of_ble_eq_true rfl⟩) rfl hl.1 rfl (Nat.le_of_ble_eq_true rfl) dL_law_345 ⟨by show _ ≤ 1080; omega, by show _ ≤ 11779; omega⟩ hK hP hD hS hA [0, 1, 2, 3, 4, 5, 6, 7, 8, 9, 10, 11, 12, 13, 14, 15, 16, 17, 18, 19, 20, 21, 22, 23, 24, 25, 26, 27, 28, 29] [30, 31, 32, 33, 34, 35, 36, 37, 38, 39, 40, 41, 42, 43, 44, 45, 46, 47, 48, 49] (wZ g gm bo cA t s y d q k r c o m (vp_updL f 0 v.toInt64) T S R C Y D K Q O M) rfl (by decide +kernel) rfl (wr := List.filterMap (fun i => (wZ g gm bo cA t s y d q k r c o m f T S R C Y D K Q O M)[i]?) [30, 31, 32, 33, 34, 35, 36, 37, 38, 39, 40, 41, 42, 43, 44, 45, 46, 47, 48, 49]) rfl rfl (by decide +kernel) rfl (by decide +kernel) [g 0, g 1, g 2, g 3, g 4, g 5, g 6, g 7, g 8, g 9, g 10, g 11, g 12, g 13, g 14, g 15, g 16, g 17, g 18, g 19, g 20, g 21, g 22, g 23, g 24, g 25, g 26, g 27, g 28, bo, gm 0, gm 1, gm 2, gm 3, gm 4, gm 5, gm 6, gm 7, gm 8, gm 9, gm 10, gm 11, gm 12, gm 13, gm 14, gm 15, gm 16, gm 17, gm 18, gm 19] rfl rfl (fun a U g mk h => SX.blind a U g mk h) (fun U hU hW => SX.call hX0 hS (va_free (wc := (wL g bo cA t s y d q k r c o m f)) hD hS hA [0, 1, 2, 3, 4, 5, 6, 7, 8, 9, 10, 11, 12, 13, 14, 15, 16, 17, 18, 19, 20, 21, 22, 23, 24, 25, 26, 27, 28, 29] rfl) U hU hW) (fun H locs hP hD hS => ?_)
    have hP : va_P DD vwCl (wZ g gm bo cA t s y d q k r c o m (vp_updL f 0 v.toInt64) T S R C Y D K Q O M) H := hP
    have hD : va_D (fun q : Nat => S0.heap.size ≤ q) (wZ g gm bo cA t s y d q k r c o m (vp_updL f 0 v.toInt64) T S R C Y D K Q O M) := hD
    refine lv_istore (lv' := [(5, .int 0), (0, .ref b), (1, .ref (g 28)), (2, .ref (gm 0)), (3, .ref bo), (4, .int (nI (3 * j)))]) hx hb dL_law_348 hl (by decide) rfl (fun ls hl => ?_)
    refine lv_aload_n hx hb dL_law_350 rfl (lv_at hl 3 rfl) ?_
    refine lv_aload_n hx hb dL_law_351 rfl (lv_at hl 1 rfl) ?_
    refine lv_iload hx hb dL_law_352 (lv_at hl 5 rfl) ?_
    refine lv_iconst (v := 1) hx hb dL_law_354 (by decide +kernel) ?_
    refine lv_iadd hx hb dL_law_355 ?_
    refine va_sld hx hb hXs hbl hbA hS h1 dL_law_356 ?_
    refine lv_aload_n hx hb dL_law_357 rfl (lv_at hl 1 rfl) ?_
    refine lv_iload hx hb dL_law_358 (lv_at hl 5 rfl) ?_
    refine lv_iconst (v := 2) hx hb dL_law_360 (by decide +kernel) ?_
    refine lv_iadd hx hb dL_law_361 ?_
    refine va_sld hx hb hXs hbl hbA hS h2 dL_law_362 ?_
    refine cn_i (As := [.int (xs (nI (3 * j) + 1).toNatClampNeg), .int (xs (nI (3 * j) + 2).toNatClampNeg)]) (rest := []) (r := v) (w0 := (wZ g gm bo cA t s y d q k r c o m (vp_updL f 0 v.toInt64) T S R C Y D K Q O M)) (N := 50) ⟨hx, hb, hml, hown, htl⟩ (c_X12_word l DD cA gm H.size (xs (nI (3 * j) + 1).toNatClampNeg) (xs (nI (3 * j) + 2).toNatClampNeg) T S R C Y D K Q O M (v, (0, M.2)) e2) (cwV 2 htl gL_law_X12_word rfl rfl rfl (by decide +kernel) ⟨Nat.le_of_ble_eq_true rfl, Nat.le_of_ble_eq_true rfl⟩) rfl hl.1 rfl (Nat.le_of_ble_eq_true rfl) dL_law_363 ⟨by show _ ≤ 1080; omega, by show _ ≤ 11779; omega⟩ hK hP hD hS hA (va_recv hK hP (ci := 10) (q0 := 30) rfl rfl) [30, 31, 32, 33, 34, 35, 36, 37, 38, 39, 40, 41, 42, 43, 44, 45, 46, 47, 48, 49] [0, 1, 2, 3, 4, 5, 6, 7, 8, 9, 10, 11, 12, 13, 14, 15, 16, 17, 18, 19, 20, 21, 22, 23, 24, 25, 26, 27, 28, 29] (wZ g gm bo cA t s y d q k r c o m (vp_updL f 0 v.toInt64) T S R C Y D K Q O (0, M.2)) rfl (by decide +kernel) rfl (wr := List.filterMap (fun i => (wZ g gm bo cA t s y d q k r c o m (vp_updL f 0 v.toInt64) T S R C Y D K Q O M)[i]?) [0, 1, 2, 3, 4, 5, 6, 7, 8, 9, 10, 11, 12, 13, 14, 15, 16, 17, 18, 19, 20, 21, 22, 23, 24, 25, 26, 27, 28, 29]) rfl rfl (by decide +kernel) rfl (by decide +kernel) [g 0, g 1, g 2, g 3, g 4, g 5, g 6, g 7, g 8, g 9, g 10, g 11, g 12, g 13, g 14, g 15, g 16, g 17, g 18, g 19, g 20, g 21, g 22, g 23, g 24, g 25, g 26, g 27, g 28, bo, gm 0, gm 1, gm 2, gm 3, gm 4, gm 5, gm 6, gm 7, gm 8, gm 9, gm 10, gm 11, gm 12, gm 13, gm 14, gm 15, gm 16, gm 17, gm 18, gm 19] rfl rfl (fun _ _ _ _ _ => trivial) (fun _ _ _ => trivial) (fun H locs hP hD hS => ?_)
    have hP : va_P DD vwCl (wZ g gm bo cA t s y d q k r c o m (vp_updL f 0 v.toInt64) T S R C Y D K Q O (0, M.2)) H := hP
    have hD : va_D (fun q : Nat => S0.heap.size ≤ q) (wZ g gm bo cA t s y d q k r c o m (vp_updL f 0 v.toInt64) T S R C Y D K Q O (0, M.2)) := hD
    refine lv_istore (lv' := [(6, .int v), (5, .int 0), (0, .ref b), (1, .ref (g 28)), (2, .ref (gm 0)), (3, .ref bo), (4, .int (nI (3 * j)))]) hx hb dL_law_366 hl (by decide) rfl (fun ls hl => ?_)
    refine lv_aload_n hx hb dL_law_368 rfl (lv_at hl 4 rfl) ?_
    refine cn_i (As := []) (rest := []) (r := 0) (w0 := (wZ g gm bo cA t s y d q k r c o m (vp_updL f 0 v.toInt64) T S R C Y D K Q O (0, M.2))) (N := 50) ⟨hx, hb, hml, hown, htl⟩ (c_X12_thrown l DD cA gm H.size  T S R C Y D K Q O (0, M.2) 0 rfl) (cwV 0 htl gL_law_X12_thrown rfl rfl rfl (by decide +kernel) ⟨Nat.le_of_ble_eq_true rfl, Nat.le_of_ble_eq_true rfl⟩) rfl hl.1 rfl (Nat.le_of_ble_eq_true rfl) dL_law_369 ⟨by show _ ≤ 1080; omega, by show _ ≤ 11779; omega⟩ hK hP hD hS hA (va_recv hK hP (ci := 10) (q0 := 30) rfl rfl) [30, 31, 32, 33, 34, 35, 36, 37, 38, 39, 40, 41, 42, 43, 44, 45, 46, 47, 48, 49] [0, 1, 2, 3, 4, 5, 6, 7, 8, 9, 10, 11, 12, 13, 14, 15, 16, 17, 18, 19, 20, 21, 22, 23, 24, 25, 26, 27, 28, 29] (wZ g gm bo cA t s y d q k r c o m (vp_updL f 0 v.toInt64) T S R C Y D K Q O (0, M.2)) rfl (by decide +kernel) rfl (wr := List.filterMap (fun i => (wZ g gm bo cA t s y d q k r c o m (vp_updL f 0 v.toInt64) T S R C Y D K Q O (0, M.2))[i]?) [0, 1, 2, 3, 4, 5, 6, 7, 8, 9, 10, 11, 12, 13, 14, 15, 16, 17, 18, 19, 20, 21, 22, 23, 24, 25, 26, 27, 28, 29]) rfl rfl (by decide +kernel) rfl (by decide +kernel) [g 0, g 1, g 2, g 3, g 4, g 5, g 6, g 7, g 8, g 9, g 10, g 11, g 12, g 13, g 14, g 15, g 16, g 17, g 18, g 19, g 20, g 21, g 22, g 23, g 24, g 25, g 26, g 27, g 28, bo, gm 0, gm 1, gm 2, gm 3, gm 4, gm 5, gm 6, gm 7, gm 8, gm 9, gm 10, gm 11, gm 12, gm 13, gm 14, gm 15, gm 16, gm 17, gm 18, gm 19] rfl rfl (fun _ _ _ _ _ => trivial) (fun _ _ _ => trivial) (fun H locs hP hD hS => ?_)
    have hP : va_P DD vwCl (wZ g gm bo cA t s y d q k r c o m (vp_updL f 0 v.toInt64) T S R C Y D K Q O (0, M.2)) H := hP
    have hD : va_D (fun q : Nat => S0.heap.size ≤ q) (wZ g gm bo cA t s y d q k r c o m (vp_updL f 0 v.toInt64) T S R C Y D K Q O (0, M.2)) := hD
    refine lv_iload hx hb dL_law_372 (lv_at hl 1 rfl) ?_
    refine lv_icmp_eq (tgt := 379) hx hb dL_law_374 (by decide) (fun _ => ?_) (fun z => absurd rfl z)
    refine lv_iload hx hb dL_law_379 (lv_at hl 1 rfl) ?_
    refine lv_if_ne (tgt := 396) hx hb dL_law_381 (by decide) (fun z => absurd rfl z) (fun _ => ?_)
    refine lv_aload_n hx hb dL_law_384 rfl (lv_at hl 5 rfl) ?_
    refine lv_iconst (v := 0) hx hb dL_law_385 (by decide +kernel) ?_
    refine va_lald hx hb hK hP 29 3 rfl rfl (show vp_in 0 1 from vp_in_nI (n := 0) (N := 1) (by decide) (by decide)) dL_law_386 ?_
    refine lv_iload hx hb dL_law_387 (lv_at hl 0 rfl) ?_
    refine lv_i2l hx hb dL_law_389 rfl ?_
    refine W.lcmp hx hb dL_law_390 ?_
    refine lv_if_eq (tgt := 396) hx hb dL_law_391 (by decide) (fun _ => ?_) (fun z => absurd ((lg_cmp_eq _ _).mpr rfl) z)
    refine lv_goto (tgt := 424) hx hb dL_law_396 (by decide) ?_
    refine W.widen (k := 50 + (j + 1)) (n := 3551 + 6 * (j + 1)) (by omega) (by omega) ?_
    exact KT _ _ _ _ _ _ _ _ _ _ _ _ _ _ _ _ _ _ _ _ _ (hB.th 0) hO H locs hP hD hS ls (lv_sub hl [2, 3, 4, 5, 6] rfl)
  · refine lv_aload_n hx hb dL_law_331 rfl (lv_at hl 1 rfl) ?_
    refine lv_aload_n hx hb dL_law_332 rfl (lv_at hl 0 rfl) ?_
    refine lv_iload hx hb dL_law_333 (lv_at hl 4 rfl) ?_
    refine lv_iconst (v := 1) hx hb dL_law_335 (by decide +kernel) ?_
    refine lv_iadd hx hb dL_law_336 ?_
    refine va_sld hx hb hXs hbl hbA hS h1 dL_law_337 ?_
    refine lv_aload_n hx hb dL_law_338 rfl (lv_at hl 0 rfl) ?_
    refine lv_iload hx hb dL_law_339 (lv_at hl 4 rfl) ?_
    refine lv_iconst (v := 2) hx hb dL_law_341 (by decide +kernel) ?_
    refine lv_iadd hx hb dL_law_342 ?_
    refine va_sld hx hb hXs hbl hbA hS h2 dL_law_343 ?_
    refine lv_aload_n hx hb dL_law_344 rfl (lv_at hl 3 rfl) ?_
    refine ch_i (As := [.ref (g 28), .int (xs (nI (3 * j) + 1).toNatClampNeg), .int (xs (nI (3 * j) + 2).toNatClampNeg), .ref bo]) (rest := []) (r := 1) (w0 := (wZ g gm bo cA t s y d q k r c o m f T S R C Y D K Q O M)) (N := 50) ⟨hx, hb, hml, hown, htl⟩ (x_L_word1 l hst DD cA ad adK adV tA tS sa g bo H.size (xs (nI (3 * j) + 1).toNatClampNeg) (xs (nI (3 * j) + 2).toNatClampNeg) t s y d q k r c o m f e1) (vx_cwSW 4 htl g2L_law_L_word rfl rfl rfl (by decide +kernel) ⟨Nat.le_of_ble_eq_true rfl, Nat.le_of_ble_eq_true rfl⟩) rfl hl.1 rfl (Nat.le_of_ble_eq_true rfl) dL_law_345 ⟨by show _ ≤ 1080; omega, by show _ ≤ 11779; omega⟩ hK hP hD hS hA [0, 1, 2, 3, 4, 5, 6, 7, 8, 9, 10, 11, 12, 13, 14, 15, 16, 17, 18, 19, 20, 21, 22, 23, 24, 25, 26, 27, 28, 29] [30, 31, 32, 33, 34, 35, 36, 37, 38, 39, 40, 41, 42, 43, 44, 45, 46, 47, 48, 49] (wZ g gm bo cA t s y d q k r c o m f T S R C Y D K Q O M) rfl (by decide +kernel) rfl (wr := List.filterMap (fun i => (wZ g gm bo cA t s y d q k r c o m f T S R C Y D K Q O M)[i]?) [30, 31, 32, 33, 34, 35, 36, 37, 38, 39, 40, 41, 42, 43, 44, 45, 46, 47, 48, 49]) rfl rfl (by decide +kernel) rfl (by decide +kernel) [g 0, g 1, g 2, g 3, g 4, g 5, g 6, g 7, g 8, g 9, g 10, g 11, g 12, g 13, g 14, g 15, g 16, g 17, g 18, g 19, g 20, g 21, g 22, g 23, g 24, g 25, g 26, g 27, g 28, bo, gm 0, gm 1, gm 2, gm 3, gm 4, gm 5, gm 6, gm 7, gm 8, gm 9, gm 10, gm 11, gm 12, gm 13, gm 14, gm 15, gm 16, gm 17, gm 18, gm 19] rfl rfl (fun a U g mk h => ⟨SX.blind a U g mk h.1, EX.blind a U g mk h.2⟩) (fun U hU hW => ⟨SX.call hX0 hS (va_free (wc := (wL g bo cA t s y d q k r c o m f)) hD hS hA [0, 1, 2, 3, 4, 5, 6, 7, 8, 9, 10, 11, 12, 13, 14, 15, 16, 17, 18, 19, 20, 21, 22, 23, 24, 25, 26, 27, 28, 29] rfl) U hU hW, EX.call hE0 hS (va_free (wc := (wL g bo cA t s y d q k r c o m f)) hD hS hA [0, 1, 2, 3, 4, 5, 6, 7, 8, 9, 10, 11, 12, 13, 14, 15, 16, 17, 18, 19, 20, 21, 22, 23, 24, 25, 26, 27, 28, 29] rfl) U hU hW⟩) (fun H locs hP hD hS => ?_)
    have hP : va_P DD vwCl (wZ g gm bo cA t s y d q k r c o m f T S R C Y D K Q O M) H := hP
    have hD : va_D (fun q : Nat => S0.heap.size ≤ q) (wZ g gm bo cA t s y d q k r c o m f T S R C Y D K Q O M) := hD
    refine lv_istore (lv' := [(5, .int 1), (0, .ref b), (1, .ref (g 28)), (2, .ref (gm 0)), (3, .ref bo), (4, .int (nI (3 * j)))]) hx hb dL_law_348 hl (by decide) rfl (fun ls hl => ?_)
    refine lv_aload_n hx hb dL_law_350 rfl (lv_at hl 3 rfl) ?_
    refine lv_aload_n hx hb dL_law_351 rfl (lv_at hl 1 rfl) ?_
    refine lv_iload hx hb dL_law_352 (lv_at hl 5 rfl) ?_
    refine lv_iconst (v := 1) hx hb dL_law_354 (by decide +kernel) ?_
    refine lv_iadd hx hb dL_law_355 ?_
    refine va_sld hx hb hXs hbl hbA hS h1 dL_law_356 ?_
    refine lv_aload_n hx hb dL_law_357 rfl (lv_at hl 1 rfl) ?_
    refine lv_iload hx hb dL_law_358 (lv_at hl 5 rfl) ?_
    refine lv_iconst (v := 2) hx hb dL_law_360 (by decide +kernel) ?_
    refine lv_iadd hx hb dL_law_361 ?_
    refine va_sld hx hb hXs hbl hbA hS h2 dL_law_362 ?_
    refine cn_i (As := [.int (xs (nI (3 * j) + 1).toNatClampNeg), .int (xs (nI (3 * j) + 2).toNatClampNeg)]) (rest := []) (r := v) (w0 := (wZ g gm bo cA t s y d q k r c o m f T S R C Y D K Q O M)) (N := 50) ⟨hx, hb, hml, hown, htl⟩ (c_X12_word l DD cA gm H.size (xs (nI (3 * j) + 1).toNatClampNeg) (xs (nI (3 * j) + 2).toNatClampNeg) T S R C Y D K Q O M (v, (1, M.2)) e2) (cwV 2 htl gL_law_X12_word rfl rfl rfl (by decide +kernel) ⟨Nat.le_of_ble_eq_true rfl, Nat.le_of_ble_eq_true rfl⟩) rfl hl.1 rfl (Nat.le_of_ble_eq_true rfl) dL_law_363 ⟨by show _ ≤ 1080; omega, by show _ ≤ 11779; omega⟩ hK hP hD hS hA (va_recv hK hP (ci := 10) (q0 := 30) rfl rfl) [30, 31, 32, 33, 34, 35, 36, 37, 38, 39, 40, 41, 42, 43, 44, 45, 46, 47, 48, 49] [0, 1, 2, 3, 4, 5, 6, 7, 8, 9, 10, 11, 12, 13, 14, 15, 16, 17, 18, 19, 20, 21, 22, 23, 24, 25, 26, 27, 28, 29] (wZ g gm bo cA t s y d q k r c o m f T S R C Y D K Q O (1, M.2)) rfl (by decide +kernel) rfl (wr := List.filterMap (fun i => (wZ g gm bo cA t s y d q k r c o m f T S R C Y D K Q O M)[i]?) [0, 1, 2, 3, 4, 5, 6, 7, 8, 9, 10, 11, 12, 13, 14, 15, 16, 17, 18, 19, 20, 21, 22, 23, 24, 25, 26, 27, 28, 29]) rfl rfl (by decide +kernel) rfl (by decide +kernel) [g 0, g 1, g 2, g 3, g 4, g 5, g 6, g 7, g 8, g 9, g 10, g 11, g 12, g 13, g 14, g 15, g 16, g 17, g 18, g 19, g 20, g 21, g 22, g 23, g 24, g 25, g 26, g 27, g 28, bo, gm 0, gm 1, gm 2, gm 3, gm 4, gm 5, gm 6, gm 7, gm 8, gm 9, gm 10, gm 11, gm 12, gm 13, gm 14, gm 15, gm 16, gm 17, gm 18, gm 19] rfl rfl (fun _ _ _ _ _ => trivial) (fun _ _ _ => trivial) (fun H locs hP hD hS => ?_)
    have hP : va_P DD vwCl (wZ g gm bo cA t s y d q k r c o m f T S R C Y D K Q O (1, M.2)) H := hP
    have hD : va_D (fun q : Nat => S0.heap.size ≤ q) (wZ g gm bo cA t s y d q k r c o m f T S R C Y D K Q O (1, M.2)) := hD
    refine lv_istore (lv' := [(6, .int v), (5, .int 1), (0, .ref b), (1, .ref (g 28)), (2, .ref (gm 0)), (3, .ref bo), (4, .int (nI (3 * j)))]) hx hb dL_law_366 hl (by decide) rfl (fun ls hl => ?_)
    refine lv_aload_n hx hb dL_law_368 rfl (lv_at hl 4 rfl) ?_
    refine cn_i (As := []) (rest := []) (r := 1) (w0 := (wZ g gm bo cA t s y d q k r c o m f T S R C Y D K Q O (1, M.2))) (N := 50) ⟨hx, hb, hml, hown, htl⟩ (c_X12_thrown l DD cA gm H.size  T S R C Y D K Q O (1, M.2) 1 rfl) (cwV 0 htl gL_law_X12_thrown rfl rfl rfl (by decide +kernel) ⟨Nat.le_of_ble_eq_true rfl, Nat.le_of_ble_eq_true rfl⟩) rfl hl.1 rfl (Nat.le_of_ble_eq_true rfl) dL_law_369 ⟨by show _ ≤ 1080; omega, by show _ ≤ 11779; omega⟩ hK hP hD hS hA (va_recv hK hP (ci := 10) (q0 := 30) rfl rfl) [30, 31, 32, 33, 34, 35, 36, 37, 38, 39, 40, 41, 42, 43, 44, 45, 46, 47, 48, 49] [0, 1, 2, 3, 4, 5, 6, 7, 8, 9, 10, 11, 12, 13, 14, 15, 16, 17, 18, 19, 20, 21, 22, 23, 24, 25, 26, 27, 28, 29] (wZ g gm bo cA t s y d q k r c o m f T S R C Y D K Q O (1, M.2)) rfl (by decide +kernel) rfl (wr := List.filterMap (fun i => (wZ g gm bo cA t s y d q k r c o m f T S R C Y D K Q O (1, M.2))[i]?) [0, 1, 2, 3, 4, 5, 6, 7, 8, 9, 10, 11, 12, 13, 14, 15, 16, 17, 18, 19, 20, 21, 22, 23, 24, 25, 26, 27, 28, 29]) rfl rfl (by decide +kernel) rfl (by decide +kernel) [g 0, g 1, g 2, g 3, g 4, g 5, g 6, g 7, g 8, g 9, g 10, g 11, g 12, g 13, g 14, g 15, g 16, g 17, g 18, g 19, g 20, g 21, g 22, g 23, g 24, g 25, g 26, g 27, g 28, bo, gm 0, gm 1, gm 2, gm 3, gm 4, gm 5, gm 6, gm 7, gm 8, gm 9, gm 10, gm 11, gm 12, gm 13, gm 14, gm 15, gm 16, gm 17, gm 18, gm 19] rfl rfl (fun _ _ _ _ _ => trivial) (fun _ _ _ => trivial) (fun H locs hP hD hS => ?_)
    have hP : va_P DD vwCl (wZ g gm bo cA t s y d q k r c o m f T S R C Y D K Q O (1, M.2)) H := hP
    have hD : va_D (fun q : Nat => S0.heap.size ≤ q) (wZ g gm bo cA t s y d q k r c o m f T S R C Y D K Q O (1, M.2)) := hD
    refine lv_iload hx hb dL_law_372 (lv_at hl 1 rfl) ?_
    refine lv_icmp_eq (tgt := 379) hx hb dL_law_374 (by decide) (fun _ => ?_) (fun z => absurd rfl z)
    refine lv_iload hx hb dL_law_379 (lv_at hl 1 rfl) ?_
    refine lv_if_ne (tgt := 396) hx hb dL_law_381 (by decide) (fun _ => ?_) (fun z => absurd z (by decide))
    refine lv_goto (tgt := 424) hx hb dL_law_396 (by decide) ?_
    refine W.widen (k := 50 + (j + 1)) (n := 3551 + 6 * (j + 1)) (by omega) (by omega) ?_
    exact KT _ _ _ _ _ _ _ _ _ _ _ _ _ _ _ _ _ _ _ _ _ (hB.th 1) hO H locs hP hD hS ls (lv_sub hl [2, 3, 4, 5, 6] rfl)
  · refine lv_aload_n hx hb dL_law_331 rfl (lv_at hl 1 rfl) ?_
    refine lv_aload_n hx hb dL_law_332 rfl (lv_at hl 0 rfl) ?_
    refine lv_iload hx hb dL_law_333 (lv_at hl 4 rfl) ?_
    refine lv_iconst (v := 1) hx hb dL_law_335 (by decide +kernel) ?_
    refine lv_iadd hx hb dL_law_336 ?_
    refine va_sld hx hb hXs hbl hbA hS h1 dL_law_337 ?_
    refine lv_aload_n hx hb dL_law_338 rfl (lv_at hl 0 rfl) ?_
    refine lv_iload hx hb dL_law_339 (lv_at hl 4 rfl) ?_
    refine lv_iconst (v := 2) hx hb dL_law_341 (by decide +kernel) ?_
    refine lv_iadd hx hb dL_law_342 ?_
    refine va_sld hx hb hXs hbl hbA hS h2 dL_law_343 ?_
    refine lv_aload_n hx hb dL_law_344 rfl (lv_at hl 3 rfl) ?_
    refine ch_i (As := [.ref (g 28), .int (xs (nI (3 * j) + 1).toNatClampNeg), .int (xs (nI (3 * j) + 2).toNatClampNeg), .ref bo]) (rest := []) (r := 2) (w0 := (wZ g gm bo cA t s y d q k r c o m f T S R C Y D K Q O M)) (N := 50) ⟨hx, hb, hml, hown, htl⟩ (x_L_word2 l hst DD cA ad adK adV tA tS sa g bo H.size (xs (nI (3 * j) + 1).toNatClampNeg) (xs (nI (3 * j) + 2).toNatClampNeg) t s y d q k r c o m f e1) (vx_cwSW 4 htl g2L_law_L_word rfl rfl rfl (by decide +kernel) ⟨Nat.le_of_ble_eq_true rfl, Nat.le_of_ble_eq_true rfl⟩) rfl hl.1 rfl (Nat.le_of_ble_eq_true rfl) dL_law_345 ⟨by show _ ≤ 1080; omega, by show _ ≤ 11779; omega⟩ hK hP hD hS hA [0, 1, 2, 3, 4, 5, 6, 7, 8, 9, 10, 11, 12, 13, 14, 15, 16, 17, 18, 19, 20, 21, 22, 23, 24, 25, 26, 27, 28, 29] [30, 31, 32, 33, 34, 35, 36, 37, 38, 39, 40, 41, 42, 43, 44, 45, 46, 47, 48, 49] (wZ g gm bo cA t s y d q k r c o m f T S R C Y D K Q O M) rfl (by decide +kernel) rfl (wr := List.filterMap (fun i => (wZ g gm bo cA t s y d q k r c o m f T S R C Y D K Q O M)[i]?) [30, 31, 32, 33, 34, 35, 36, 37, 38, 39, 40, 41, 42, 43, 44, 45, 46, 47, 48, 49]) rfl rfl (by decide +kernel) rfl (by decide +kernel) [g 0, g 1, g 2, g 3, g 4, g 5, g 6, g 7, g 8, g 9, g 10, g 11, g 12, g 13, g 14, g 15, g 16, g 17, g 18, g 19, g 20, g 21, g 22, g 23, g 24, g 25, g 26, g 27, g 28, bo, gm 0, gm 1, gm 2, gm 3, gm 4, gm 5, gm 6, gm 7, gm 8, gm 9, gm 10, gm 11, gm 12, gm 13, gm 14, gm 15, gm 16, gm 17, gm 18, gm 19] rfl rfl (fun a U g mk h => ⟨SX.blind a U g mk h.1, EX.blind a U g mk h.2⟩) (fun U hU hW => ⟨SX.call hX0 hS (va_free (wc := (wL g bo cA t s y d q k r c o m f)) hD hS hA [0, 1, 2, 3, 4, 5, 6, 7, 8, 9, 10, 11, 12, 13, 14, 15, 16, 17, 18, 19, 20, 21, 22, 23, 24, 25, 26, 27, 28, 29] rfl) U hU hW, EX.call hE0 hS (va_free (wc := (wL g bo cA t s y d q k r c o m f)) hD hS hA [0, 1, 2, 3, 4, 5, 6, 7, 8, 9, 10, 11, 12, 13, 14, 15, 16, 17, 18, 19, 20, 21, 22, 23, 24, 25, 26, 27, 28, 29] rfl) U hU hW⟩) (fun H locs hP hD hS => ?_)
    have hP : va_P DD vwCl (wZ g gm bo cA t s y d q k r c o m f T S R C Y D K Q O M) H := hP
    have hD : va_D (fun q : Nat => S0.heap.size ≤ q) (wZ g gm bo cA t s y d q k r c o m f T S R C Y D K Q O M) := hD
    refine lv_istore (lv' := [(5, .int 2), (0, .ref b), (1, .ref (g 28)), (2, .ref (gm 0)), (3, .ref bo), (4, .int (nI (3 * j)))]) hx hb dL_law_348 hl (by decide) rfl (fun ls hl => ?_)
    refine lv_aload_n hx hb dL_law_350 rfl (lv_at hl 3 rfl) ?_
    refine lv_aload_n hx hb dL_law_351 rfl (lv_at hl 1 rfl) ?_
    refine lv_iload hx hb dL_law_352 (lv_at hl 5 rfl) ?_
    refine lv_iconst (v := 1) hx hb dL_law_354 (by decide +kernel) ?_
    refine lv_iadd hx hb dL_law_355 ?_
    refine va_sld hx hb hXs hbl hbA hS h1 dL_law_356 ?_
    refine lv_aload_n hx hb dL_law_357 rfl (lv_at hl 1 rfl) ?_
    refine lv_iload hx hb dL_law_358 (lv_at hl 5 rfl) ?_
    refine lv_iconst (v := 2) hx hb dL_law_360 (by decide +kernel) ?_
    refine lv_iadd hx hb dL_law_361 ?_
    refine va_sld hx hb hXs hbl hbA hS h2 dL_law_362 ?_
    refine cn_i (As := [.int (xs (nI (3 * j) + 1).toNatClampNeg), .int (xs (nI (3 * j) + 2).toNatClampNeg)]) (rest := []) (r := v) (w0 := (wZ g gm bo cA t s y d q k r c o m f T S R C Y D K Q O M)) (N := 50) ⟨hx, hb, hml, hown, htl⟩ (c_X12_word l DD cA gm H.size (xs (nI (3 * j) + 1).toNatClampNeg) (xs (nI (3 * j) + 2).toNatClampNeg) T S R C Y D K Q O M (v, (2, M.2)) e2) (cwV 2 htl gL_law_X12_word rfl rfl rfl (by decide +kernel) ⟨Nat.le_of_ble_eq_true rfl, Nat.le_of_ble_eq_true rfl⟩) rfl hl.1 rfl (Nat.le_of_ble_eq_true rfl) dL_law_363 ⟨by show _ ≤ 1080; omega, by show _ ≤ 11779; omega⟩ hK hP hD hS hA (va_recv hK hP (ci := 10) (q0 := 30) rfl rfl) [30, 31, 32, 33, 34, 35, 36, 37, 38, 39, 40, 41, 42, 43, 44, 45, 46, 47, 48, 49] [0, 1, 2, 3, 4, 5, 6, 7, 8, 9, 10, 11, 12, 13, 14, 15, 16, 17, 18, 19, 20, 21, 22, 23, 24, 25, 26, 27, 28, 29] (wZ g gm bo cA t s y d q k r c o m f T S R C Y D K Q O (2, M.2)) rfl (by decide +kernel) rfl (wr := List.filterMap (fun i => (wZ g gm bo cA t s y d q k r c o m f T S R C Y D K Q O M)[i]?) [0, 1, 2, 3, 4, 5, 6, 7, 8, 9, 10, 11, 12, 13, 14, 15, 16, 17, 18, 19, 20, 21, 22, 23, 24, 25, 26, 27, 28, 29]) rfl rfl (by decide +kernel) rfl (by decide +kernel) [g 0, g 1, g 2, g 3, g 4, g 5, g 6, g 7, g 8, g 9, g 10, g 11, g 12, g 13, g 14, g 15, g 16, g 17, g 18, g 19, g 20, g 21, g 22, g 23, g 24, g 25, g 26, g 27, g 28, bo, gm 0, gm 1, gm 2, gm 3, gm 4, gm 5, gm 6, gm 7, gm 8, gm 9, gm 10, gm 11, gm 12, gm 13, gm 14, gm 15, gm 16, gm 17, gm 18, gm 19] rfl rfl (fun _ _ _ _ _ => trivial) (fun _ _ _ => trivial) (fun H locs hP hD hS => ?_)
    have hP : va_P DD vwCl (wZ g gm bo cA t s y d q k r c o m f T S R C Y D K Q O (2, M.2)) H := hP
    have hD : va_D (fun q : Nat => S0.heap.size ≤ q) (wZ g gm bo cA t s y d q k r c o m f T S R C Y D K Q O (2, M.2)) := hD
    refine lv_istore (lv' := [(6, .int v), (5, .int 2), (0, .ref b), (1, .ref (g 28)), (2, .ref (gm 0)), (3, .ref bo), (4, .int (nI (3 * j)))]) hx hb dL_law_366 hl (by decide) rfl (fun ls hl => ?_)
    refine lv_aload_n hx hb dL_law_368 rfl (lv_at hl 4 rfl) ?_
    refine cn_i (As := []) (rest := []) (r := 2) (w0 := (wZ g gm bo cA t s y d q k r c o m f T S R C Y D K Q O (2, M.2))) (N := 50) ⟨hx, hb, hml, hown, htl⟩ (c_X12_thrown l DD cA gm H.size  T S R C Y D K Q O (2, M.2) 2 rfl) (cwV 0 htl gL_law_X12_thrown rfl rfl rfl (by decide +kernel) ⟨Nat.le_of_ble_eq_true rfl, Nat.le_of_ble_eq_true rfl⟩) rfl hl.1 rfl (Nat.le_of_ble_eq_true rfl) dL_law_369 ⟨by show _ ≤ 1080; omega, by show _ ≤ 11779; omega⟩ hK hP hD hS hA (va_recv hK hP (ci := 10) (q0 := 30) rfl rfl) [30, 31, 32, 33, 34, 35, 36, 37, 38, 39, 40, 41, 42, 43, 44, 45, 46, 47, 48, 49] [0, 1, 2, 3, 4, 5, 6, 7, 8, 9, 10, 11, 12, 13, 14, 15, 16, 17, 18, 19, 20, 21, 22, 23, 24, 25, 26, 27, 28, 29] (wZ g gm bo cA t s y d q k r c o m f T S R C Y D K Q O (2, M.2)) rfl (by decide +kernel) rfl (wr := List.filterMap (fun i => (wZ g gm bo cA t s y d q k r c o m f T S R C Y D K Q O (2, M.2))[i]?) [0, 1, 2, 3, 4, 5, 6, 7, 8, 9, 10, 11, 12, 13, 14, 15, 16, 17, 18, 19, 20, 21, 22, 23, 24, 25, 26, 27, 28, 29]) rfl rfl (by decide +kernel) rfl (by decide +kernel) [g 0, g 1, g 2, g 3, g 4, g 5, g 6, g 7, g 8, g 9, g 10, g 11, g 12, g 13, g 14, g 15, g 16, g 17, g 18, g 19, g 20, g 21, g 22, g 23, g 24, g 25, g 26, g 27, g 28, bo, gm 0, gm 1, gm 2, gm 3, gm 4, gm 5, gm 6, gm 7, gm 8, gm 9, gm 10, gm 11, gm 12, gm 13, gm 14, gm 15, gm 16, gm 17, gm 18, gm 19] rfl rfl (fun _ _ _ _ _ => trivial) (fun _ _ _ => trivial) (fun H locs hP hD hS => ?_)
    have hP : va_P DD vwCl (wZ g gm bo cA t s y d q k r c o m f T S R C Y D K Q O (2, M.2)) H := hP
    have hD : va_D (fun q : Nat => S0.heap.size ≤ q) (wZ g gm bo cA t s y d q k r c o m f T S R C Y D K Q O (2, M.2)) := hD
    refine lv_iload hx hb dL_law_372 (lv_at hl 1 rfl) ?_
    refine lv_icmp_eq (tgt := 379) hx hb dL_law_374 (by decide) (fun _ => ?_) (fun z => absurd rfl z)
    refine lv_iload hx hb dL_law_379 (lv_at hl 1 rfl) ?_
    refine lv_if_ne (tgt := 396) hx hb dL_law_381 (by decide) (fun _ => ?_) (fun z => absurd z (by decide))
    refine lv_goto (tgt := 424) hx hb dL_law_396 (by decide) ?_
    refine W.widen (k := 50 + (j + 1)) (n := 3551 + 6 * (j + 1)) (by omega) (by omega) ?_
    exact KT _ _ _ _ _ _ _ _ _ _ _ _ _ _ _ _ _ _ _ _ _ (hB.th 2) hO H locs hP hD hS ls (lv_sub hl [2, 3, 4, 5, 6] rfl)
set_option maxHeartbeats 4000000 in
set_option maxRecDepth 100000 in
theorem law_loop {PP : Program} {l : Launch} {EE : Env} {S0 : State} {MM : MethodId} {below : List Frame} {meth : Method} {CC : Code} {DD : va_G} {cA : Nat → ClassId} {b L : Nat} {xs : Nat → Int32} {ad adK adV sa : Nat → Nat} {tA tS : Nat} (hst : l.stackTraces = false) (hL : L ≤ 1536) (C0 : lw_At PP S0 MM meth CC b L xs) (hK : va_K DD vwCl (bTY cA) S0) (hX0 : SX ad adK adV tA tS (fun q : Nat => S0.heap.size ≤ q) S0 S0.heap) (hE0 : EX sa (fun q : Nat => S0.heap.size ≤ q) S0 S0.heap) (g gm : Nat → Nat) (bo : Nat) : ∀ (n j : Nat), 3 * j ≤ L → L < 3 * j + 3 * n → LT PP l EE S0 MM below meth CC DD cA b g gm bo (nI (3 * j)) (50 + j) (3551 + 6 * j) 23 := by
  intro n
  induction n with
  | zero => intro j h1 h2; omega
  | succ n ih =>
    intro j hj hn t s y d q k r c o m T S R C Y D K Q O M f hB hO H locs hP hD hS ls hl
    obtain ⟨hx, hb, hr, hml, hown, hts, hXs, hbl, hlocks, hgv⟩ := id C0
    have hb : CC.code = cL_law := hb
    have hbA : ¬ (fun q : Nat => S0.heap.size ≤ q) b := Nat.not_le.mpr hbl
    refine lv_iload hx hb dL_law_23 (lv_at hl 4 rfl) ?_
    refine lv_aload_n hx hb dL_law_25 rfl (lv_at hl 0 rfl) ?_
    refine va_slen hx hb hXs hbl hbA hS dL_law_26 ?_
    refine lv_iconst (v := 3) hx hb dL_law_27 (by decide +kernel) ?_
    refine lv_isub hx hb dL_law_28 ?_
    refine lv_icmp_gt (tgt := 430) hx hb dL_law_29 (by decide) (fun c1 => ?_) (fun c1 => ?_)
    · refine lv_iconst (v := 1) hx hb dL_law_430 (by decide +kernel) ?_
      refine va_forget (fun q hq => hS.2.2 q hq) ?_
      refine W.widen (k := 1080) (n := 11779) (by omega) (by omega) ?_
      exact lw_ret hx hb hr hlocks dL_law_431
    · have hj3 := law_i hL hj c1
      have h0 : vp_in (nI (3 * j)) L := vp_in_nI (by omega) (by omega)
      have KT : LT PP l EE S0 MM below meth CC DD cA b g gm bo (nI (3 * j)) (50 + (j + 1)) (3551 + 6 * (j + 1)) 424 := by
        intro t s y d q k r c o m T S R C Y D K Q O M f hB hO H locs hP hD hS ls hl
        refine lv_iinc (v := nI (3 * j) + 3) (lv' := [(4, .int (nI (3 * j) + 3)), (0, .ref b), (1, .ref (g 28)), (2, .ref (gm 0)), (3, .ref bo)]) hx hb dL_law_424 hl (k := 4) rfl rfl (by decide) rfl (fun ls hl => ?_)
        refine lv_goto (tgt := 23) hx hb dL_law_427 (by decide) ?_
        have h9 := lv_sub hl [1, 2, 3, 4, 0] rfl
        rw [show nI (3 * j) + 3 = nI (3 * (j + 1)) from nI_add (3 * j) 3] at h9
        exact ih (j + 1) (by omega) (by omega) _ _ _ _ _ _ _ _ _ _ _ _ _ _ _ _ _ _ _ _ _ hB hO H locs hP hD hS ls h9
      refine lv_aload_n hx hb dL_law_32 rfl (lv_at hl 0 rfl) ?_
      refine lv_iload hx hb dL_law_33 (lv_at hl 4 rfl) ?_
      refine va_sld hx hb hXs hbl hbA hS h0 dL_law_35 ?_
      refine lv_bipush (v := 7) hx hb dL_law_36 (by decide +kernel) ?_
      refine lv_iand hx hb dL_law_38 ?_
      obtain ⟨mm, hmm, em⟩ := and7 (xs (nI (3 * j)).toNatClampNeg)
      rw [em]
      rcases (show mm = 0 ∨ mm = 1 ∨ mm = 2 ∨ mm = 3 ∨ mm = 4 ∨ mm = 5 ∨ mm = 6 ∨ mm = 7 by omega) with rfl | rfl | rfl | rfl | rfl | rfl | rfl | rfl
      · refine lv_tableIn (tgt := 80) (off := 41) hx hb dL_law_39 (by decide +kernel) (by decide +kernel) (by decide +kernel) (by decide) ?_
        exact law_type hst hL C0 hK hX0 hE0 g gm bo hj3 KT _ _ _ _ _ _ _ _ _ _ _ _ _ _ _ _ _ _ _ _ _ hB hO H locs hP hD hS ls hl
      · refine lv_tableIn (tgt := 107) (off := 68) hx hb dL_law_39 (by decide +kernel) (by decide +kernel) (by decide +kernel) (by decide) ?_
        exact law_run hst hL C0 hK hX0 hE0 g gm bo hj3 KT _ _ _ _ _ _ _ _ _ _ _ _ _ _ _ _ _ _ _ _ _ hB hO H locs hP hD hS ls hl
      · refine lv_tableIn (tgt := 163) (off := 124) hx hb dL_law_39 (by decide +kernel) (by decide +kernel) (by decide +kernel) (by decide) ?_
        exact law_output hst hL C0 hK hX0 hE0 g gm bo hj3 KT _ _ _ _ _ _ _ _ _ _ _ _ _ _ _ _ _ _ _ _ _ hB hO H locs hP hD hS ls hl
      · refine lv_tableIn (tgt := 219) (off := 180) hx hb dL_law_39 (by decide +kernel) (by decide +kernel) (by decide +kernel) (by decide) ?_
        exact law_stack hst hL C0 hK hX0 hE0 g gm bo hj3 KT _ _ _ _ _ _ _ _ _ _ _ _ _ _ _ _ _ _ _ _ _ hB hO H locs hP hD hS ls hl
      · refine lv_tableIn (tgt := 275) (off := 236) hx hb dL_law_39 (by decide +kernel) (by decide +kernel) (by decide +kernel) (by decide) ?_
        exact law_cell hst hL C0 hK hX0 hE0 g gm bo hj3 KT _ _ _ _ _ _ _ _ _ _ _ _ _ _ _ _ _ _ _ _ _ hB hO H locs hP hD hS ls hl
      · refine lv_tableIn (tgt := 331) (off := 292) hx hb dL_law_39 (by decide +kernel) (by decide +kernel) (by decide +kernel) (by decide) ?_
        exact law_word hst hL C0 hK hX0 hE0 g gm bo hj3 KT _ _ _ _ _ _ _ _ _ _ _ _ _ _ _ _ _ _ _ _ _ hB hO H locs hP hD hS ls hl
      · refine lv_tableIn (tgt := 399) (off := 360) hx hb dL_law_39 (by decide +kernel) (by decide +kernel) (by decide +kernel) (by decide) ?_
        exact law_count hst hL C0 hK hX0 hE0 g gm bo hj3 KT _ _ _ _ _ _ _ _ _ _ _ _ _ _ _ _ _ _ _ _ _ hB hO H locs hP hD hS ls hl
      · refine lv_tableOut (tgt := 424) hx hb dL_law_39 (by decide +kernel) (by decide) ?_
        refine W.widen (k := 50 + (j + 1)) (n := 3551 + 6 * (j + 1)) (by omega) (by omega) ?_
        exact KT _ _ _ _ _ _ _ _ _ _ _ _ _ _ _ _ _ _ _ _ _ hB hO H locs hP hD hS ls hl
