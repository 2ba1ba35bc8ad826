/-! what a throw needs: the messages' constants, two statics of Throwable -/
def exS : List (Nat × String) := [(28, "fuel is not 0 .. 3000"), (49, "no such character of output"), (63, "no such number on the stack"), (79, "no such cell"), (91, "no such made word"), (109, "what is not 0 .. 4")]
def exB : List Cond := [.declares (Bundle.initS "java/lang/RuntimeException"), .declares (Bundle.initS "java/lang/Exception"), .declares (Bundle.initS Bundle.tN), .castable "java/lang/IndexOutOfBoundsException" "java/lang/IndexOutOfBoundsException", .castable "java/lang/IllegalArgumentException" "java/lang/IllegalArgumentException"]
def exK : Cond → Bool
  | .declares _ => true
  | .castable .. => true
  | _ => false
theorem ex_all : ∀ w ∈ exB, exK w = true := List.all_eq_true.mp (by decide +kernel)
theorem ex_tab {w : Cond} (h : exK w = true) : w.onTables = true := by
  cases w <;> first | rfl | exact absurd h (by intro z; cases z)
theorem ex_warm {s U : State} (hW : s.WarmedH U.vm) {w : Cond} (h : exK w = true) (hz : va_Nw w s) : va_Nw w U := by
  cases w <;> first | exact va_Nw.warmC hW hz | exact va_tabs rfl (rfl : (s.setVm U.vm).vm = U.vm) (by rw [Cond.declares_setVm hW.alike]; exact hz) | exact absurd h (by intro z; cases z)
def exN (u : Int32) : String := if u = 1 then "java/lang/IndexOutOfBoundsException" else "java/lang/IllegalArgumentException"
def EX (sa : Nat → Nat) (A : Nat → Prop) (U : State) (H : Heap) : Prop := (∀ q ∈ exS, vk_R RX11 q.1 q.2 (sa q.1) U) ∧ vx_Zq Bundle.tN "UNASSIGNED_STACK" Bundle.steD A U H ∧ vx_Zq Bundle.tN "SUPPRESSED_SENTINEL" Bundle.listD A U H ∧ (∀ w ∈ exB, va_Nw w U) ∧ va_Nc "java/lang/IllegalArgumentException" "java/lang/IndexOutOfBoundsException" U
theorem EX.call {sa : Nat → Nat} {A B : Nat → Prop} {s : State} {H : Heap} {locs : List Loc} (h : EX sa A s s.heap) (hS : va_S A s.heap H locs) (hF : ∀ q, B q → A q) (U : State) (hU : U.heap = H) (hW : s.WarmedH U.vm) : EX sa B U U.heap := by
  obtain ⟨h1, h2, h3, h4, h5⟩ := h
  rw [hU]
  have hv := hW.alike
  exact ⟨fun q hq => vk_R.warm hW (h1 q hq), ((h2.kept hS.2.1).narrow hF).moved hv, ((h3.kept hS.2.1).narrow hF).moved hv, fun w hw => ex_warm hW (ex_all w hw) (h4 w hw), h5.moved hv⟩
theorem EX.blind {sa : Nat → Nat} {A : Nat → Prop} (a : Array Value) (U : State) (g : JFrame) (mk : MethodId) (h : EX sa A U U.heap) : EX sa A (U.calling g mk a) (U.calling g mk a).heap := by
  obtain ⟨h1, h2, h3, h4, h5⟩ := h
  have hv : U.vm.Alike (U.calling g mk a).vm := Vm.Alike.refl U.vm
  exact ⟨fun q hq => vk_R.same (u := U) (U := U.calling g mk a) rfl (h1 q hq), h2.moved hv, h3.moved hv, fun w hw => va_Nw.same (u := U) (U := U.calling g mk a) (ex_tab (ex_all w hw)) rfl (h4 w hw), h5.moved hv⟩

def b_X11_run_11 (t : tT) (s : tR) (y : tY) (d : tD) (q : tP) (k : tK) (r : tR) (c : tC) (o : tO) (m : tM) : Option (Int32 × tT × tR × tY × tD × tP × tK × tR × tC × tO × tM) := none
def f_X11_run (x1 : Int32) (t : tT) (s : tR) (y : tY) (d : tD) (q : tP) (k : tK) (r : tR) (c : tC) (o : tO) (m : tM) : Option (Int32 × tT × tR × tY × tD × tP × tK × tR × tC × tO × tM) := if x1 < 0 then (b_X11_run_11 t s y d q k r c o m) else (if x1 ≤ 3000 then ((f_X3_interpret x1 t s y d q k r c o m).bind (fun u3 => some (u3.1, u3.2.1, u3.2.2.1, u3.2.2.2.1, u3.2.2.2.2.1, u3.2.2.2.2.2.1, u3.2.2.2.2.2.2.1, u3.2.2.2.2.2.2.2.1, u3.2.2.2.2.2.2.2.2.1, u3.2.2.2.2.2.2.2.2.2.1, u3.2.2.2.2.2.2.2.2.2.2))) else (b_X11_run_11 t s y d q k r c o m))
set_option maxRecDepth 20000 in
theorem hX11_run_X3_interpret_33 : GoodIn wsX11_run (wsV RX11 33 RX3 yX3_interpret wsX3_interpret) := goodIn_r _ [4, 5, 6, 7, 8, 9, 10, 11, 12, 13, 14, 15, 16, 17, 18, 19, 20, 7, 21, 22, 23, 24, 25, 26, 27, 28, 29, 30, 31, 32, 33, 34, 35, 36, 37, 38, 39, 40, 41, 42, 43, 44, 45, 46, 47, 48, 49, 50, 51, 52, 53, 54, 55, 56, 57, 58, 59, 60, 61, 62, 63, 64, 65, 66, 67, 68, 69, 70, 71, 72, 73, 74, 75, 76, 77, 78, 79, 80, 81, 82, 83, 84, 85, 86, 87, 88, 89, 90, 91, 92, 93, 94, 95, 96, 97, 98, 99, 100, 101, 102, 103, 104, 105, 106, 107, 108, 109, 110, 111, 112, 113, 114, 115, 116, 117, 118, 119, 120, 121, 122, 123, 124, 125, 126, 127, 128, 129, 130, 131, 132, 133, 134, 135, 136, 137, 138, 139, 140, 141, 142, 143, 144, 145, 146, 147, 148, 149, 150, 151, 152, 153, 154, 155, 156, 157, 158, 159, 160, 161, 162, 163, 164, 165, 166, 167, 168, 169, 170, 171, 172, 173, 174, 175, 176, 177, 178, 179, 180, 181, 182, 183, 184, 185, 186, 187, 188, 189, 190, 191, 192, 193, 194, 195, 196, 197, 198, 199, 200, 201, 202, 203, 204, 205, 206, 207, 208, 209, 210, 211, 212, 213, 214, 215, 216, 217, 218, 219, 220, 221, 222, 223, 224, 225, 226, 227, 228, 229, 230, 231, 232, 233, 234, 235, 236, 237, 238, 239, 240, 241, 242, 243, 244, 245, 246, 247, 248, 249, 250, 251, 252, 253, 254, 255, 256, 257, 258, 259, 260, 261, 262, 263, 264, 265, 266, 267, 268, 269, 270, 271, 272, 273, 274, 275, 276, 277, 278, 279, 280, 281, 282, 283, 284, 285, 286, 287, 288, 289, 290, 291, 292, 293, 294, 295, 296, 297, 298, 299, 300, 301, 302, 303, 304, 305, 306, 307, 308, 309, 310, 311, 312, 313, 314, 315, 316, 317, 318, 319, 320, 321, 322, 323, 324, 325, 326, 327, 328, 329, 330, 331, 332, 333, 334, 335, 336, 337, 338, 339, 340, 341, 342, 343, 344, 345, 346, 347, 348, 349, 350, 351, 352, 353, 354, 355, 356, 357, 358, 359, 360, 361, 362, 363, 364, 365, 366, 367, 368, 369, 370, 371, 372, 373, 374, 375, 376, 377, 378, 379, 380, 381, 382, 383, 384, 385, 386, 387, 388, 389, 390, 391, 392, 393, 394, 395, 396, 397, 398, 399, 400, 401, 402, 403, 404, 405, 406, 407, 408, 409, 410, 411, 412, 413, 414, 415, 416, 417, 418, 419, 420, 421, 422, 423, 424, 425, 426, 427, 428, 429, 430, 431, 432, 433, 434, 435, 436, 437, 438, 439, 440, 441, 442, 443, 444, 445, 446, 447, 448, 449, 450, 451, 452, 453, 454, 455, 456, 457, 458, 459, 460, 461, 462, 463, 464, 465, 466, 467, 468, 469, 470, 471, 472, 473, 474, 475, 476, 477, 478, 479, 480, 481, 482, 483, 484, 485, 486, 487, 488, 489, 490, 491, 492, 493, 494, 495, 496, 497, 498, 499, 500, 501, 502, 503, 504, 505, 506, 507, 508, 509, 510, 511, 512, 513, 514, 515, 516, 517, 518, 519, 520, 521, 522, 523, 524, 525, 526, 527, 528, 529, 530, 531, 532, 533, 534, 535, 536, 537, 538, 540, 541, 542, 543, 544, 545, 546, 547, 548, 549, 550, 551, 552, 553, 554, 555, 556, 557, 558, 559, 560, 561, 562, 563, 564, 565, 566, 567, 568, 569, 570, 571, 572, 573, 574, 575, 576, 577, 578, 579, 580, 581, 582, 583, 584, 585, 586, 587] rfl (by decide +kernel)
set_option maxHeartbeats 4000000 in
set_option maxRecDepth 100000 in
theorem c_X11_run (l : Launch) (D : va_G) (cA : Nat → ClassId) (ad adK adV : Nat → Nat) (tA tS : Nat) (g : Nat → Nat) (sz : Nat) (x1 : Int32) (t : tT) (s : tR) (y : tY) (d : tD) (q : tP) (k : tK) (r : tR) (c : tC) (o : tO) (m : tM) (u : Int32 × tT × tR × tY × tD × tP × tK × tR × tC × tO × tM) (hE : f_X11_run x1 t s y d q k r c o m = some u) : Met l yX11_run wsX11_run ({ frames := 9, cells := 0, slots := 0, locals := 198 }) (va_Pc [.ref (g 28), .int x1] (PRE D cA (wG g cA t s y d q k r c o m) sz (fun U => SX ad adK adV tA tS (va_A (wG g cA t s y d q k r c o m) sz) U U.heap))) (cQi D (wG g cA u.2.1 u.2.2.1 u.2.2.2.1 u.2.2.2.2.1 u.2.2.2.2.2.1 u.2.2.2.2.2.2.1 u.2.2.2.2.2.2.2.1 u.2.2.2.2.2.2.2.2.1 u.2.2.2.2.2.2.2.2.2.1 u.2.2.2.2.2.2.2.2.2.2) (va_A (wG g cA t s y d q k r c o m) sz) u.1) 0 0 (va_A (wG g cA t s y d q k r c o m) sz) := by
  refine Met.ofW (cc := cX11_run) (maxL := 2) (ret := (some .int)) (by decide) rfl ?_
  intro PP EE S0 MM args below meth CC S1 B hml hv
  obtain ⟨rfl, hsz, hP, hK, hD0, hX⟩ := hv
  have hx := B.exec
  have hb := B.bytes
  have hr := B.returns
  have hts := atoms_spec (ws := wsX11_run) B.pre
  have hown : S0.vm.findClass RX11 = some MM.cls := findClass_of_methodNamed B.named
  have hlocks := B.notSynchronized
  subst hsz
  have hD := hD0.self (sz := S0.heap.size)
  have hX : SX ad adK adV tA tS (va_A (wG g cA t s y d q k r c o m) S0.heap.size) S0 S0.heap := hX
  generalize hAe : va_A (wG g cA t s y d q k r c o m) S0.heap.size = A at hD hX ⊢
  have hA : ∀ q : Nat, S0.heap.size ≤ q → A q := fun q h => by rw [← hAe]; exact Or.inr h
  have hS : va_S A S0.heap S0.heap [] := va_S.rf
  have k0 := hts (.fieldLink RX11 10 "WordForge" "machine" "LWordForge$Machine;") (List.mem_of_getElem? (i := 3) rfl)
  have inX11 : ∀ w ∈ wsX110, w ∈ wsX11_run := fun _ h => List.mem_cons_of_mem _ (List.mem_append_left _ (List.mem_append_left _ (List.mem_append_left _ (List.mem_append_left _ (List.mem_append_left _ (List.mem_append_left _ (List.mem_append_left _ (List.mem_append_left _ (List.mem_append_left _ (List.mem_append_left _ (List.mem_append_right _ h)))))))))))
  have hl := lv_entry ([.ref (g 28), .int x1]) (n := 2) (Nat.le_of_ble_eq_true rfl)
  rw [lg_entry_eq]
  generalize (lg_sl ([.ref (g 28), .int x1]) ++ List.replicate (2 - (lg_sl ([.ref (g 28), .int x1])).length) Slot.unset).toArray = ls at hl ⊢
  have hl : lv_has ls 2 [(0, .ref (g 28)), (1, .int x1)] := hl
  have w11 : ∀ (t : tT) (s : tR) (y : tY) (d : tD) (q : tP) (k : tK) (r : tR) (c : tC) (o : tO) (m : tM) (H : Heap) (locs : List Loc) (ls : Array Slot), va_P D vwCl (wG g cA t s y d q k r c o m) H → va_D A (wG g cA t s y d q k r c o m) → va_S A S0.heap H locs → lv_has ls 2 [] → b_X11_run_11  t s y d q k r c o m = some u → W PP l EE (headSpec wsX11_run ({ frames := 9, cells := 0, slots := 0, locals := 198 })).room S0 MM (#[.ref (g 28), .int x1] : Array Value) below meth CC H locs 0 0 (MQ below (cQi D (wG g cA u.2.1 u.2.2.1 u.2.2.2.1 u.2.2.2.2.1 u.2.2.2.2.2.1 u.2.2.2.2.2.2.1 u.2.2.2.2.2.2.2.1 u.2.2.2.2.2.2.2.2.1 u.2.2.2.2.2.2.2.2.2.1 u.2.2.2.2.2.2.2.2.2.2) A u.1) (#[.ref (g 28), .int x1] : Array Value) S0 0 0 A) (F0 MM 11 ls []) := by
    intro t s y d q k r c o m
    intro H locs ls hP hD hS hl hE
    unfold b_X11_run_11 at hE
    exact nomatch hE
  unfold f_X11_run at hE
  suffices main : ∀ (H : Heap) (locs : List Loc) (ls : Array Slot), va_P D vwCl (wG g cA t s y d q k r c o m) H → va_D A (wG g cA t s y d q k r c o m) → va_S A S0.heap H locs → lv_has ls 2 [(0, .ref (g 28)), (1, .int x1)] → W PP l EE (headSpec wsX11_run ({ frames := 9, cells := 0, slots := 0, locals := 198 })).room S0 MM (#[.ref (g 28), .int x1] : Array Value) below meth CC H locs 0 0 (MQ below (cQi D (wG g cA u.2.1 u.2.2.1 u.2.2.2.1 u.2.2.2.2.1 u.2.2.2.2.2.1 u.2.2.2.2.2.2.1 u.2.2.2.2.2.2.2.1 u.2.2.2.2.2.2.2.2.1 u.2.2.2.2.2.2.2.2.2.1 u.2.2.2.2.2.2.2.2.2.2) A u.1) (#[.ref (g 28), .int x1] : Array Value) S0 0 0 A) (F0 MM 0 ls []) from main _ _ _ hP hD hS hl
  intro H locs ls hP hD hS hl
  refine lv_iload_n hx hb dX11_run_0 rfl (lv_at hl 1 rfl) ?_
  refine lv_if_lt (tgt := 11) hx hb dX11_run_1 (by decide) (fun c1 => ?_) (fun c1 => ?_)
  · have hE := if_t c1 hE
    exact w11  t s y d q k r c o m H locs ls hP hD hS (lv_sub hl [] rfl) hE
  · have hE := if_f c1 hE
    refine lv_iload_n hx hb dX11_run_4 rfl (lv_at hl 1 rfl) ?_
    refine lv_sipush (v := 3000) hx hb dX11_run_5 (by decide +kernel) ?_
    refine lv_icmp_le (tgt := 21) hx hb dX11_run_8 (by decide) (fun c2 => ?_) (fun c2 => ?_)
    · have hE := if_t c2 hE
      refine lv_aload_n hx hb dX11_run_21 rfl (lv_at hl 0 rfl) ?_
      refine va_get (D := D) (ci := 9) (v := .ref (g 0)) (C := RX11) (T := TX11) (N := 1) hx hb hts inX11 hown hK hP 28 rfl rfl 0 (by decide) k0 (fun _ h9 => h9) rfl dX11_run_22 ?_
      refine lv_iload_n hx hb dX11_run_25 rfl (lv_at hl 1 rfl) ?_
      obtain ⟨u3, h4, hE⟩ := bd_some hE
      refine cn_i (As := [.int x1]) (rest := []) (r := u3.1) (w0 := (wG g cA t s y d q k r c o m)) (N := 29) ⟨hx, hb, hml, hown, hts⟩ (c_X3_interpret l D cA ad adK adV tA tS g H.size x1 t s y d q k r c o m u3 h4) (cwV 1 hts hX11_run_X3_interpret_33 rfl rfl rfl (by decide +kernel) ⟨Nat.le_of_ble_eq_true rfl, Nat.le_of_ble_eq_true rfl⟩) rfl hl.1 rfl (Nat.le_of_ble_eq_true rfl) dX11_run_26 ⟨Nat.zero_le _, Nat.zero_le _⟩ hK hP hD hS hA (va_recv hK hP (ci := 2) (q0 := 0) rfl rfl) [0, 1, 2, 3, 4, 5, 6, 7, 8, 9, 10, 11, 12, 13, 14, 15, 16, 17, 18, 19, 20, 21, 22, 23, 24, 25, 26, 27] [28] (wG g cA u3.2.1 u3.2.2.1 u3.2.2.2.1 u3.2.2.2.2.1 u3.2.2.2.2.2.1 u3.2.2.2.2.2.2.1 u3.2.2.2.2.2.2.2.1 u3.2.2.2.2.2.2.2.2.1 u3.2.2.2.2.2.2.2.2.2.1 u3.2.2.2.2.2.2.2.2.2.2) rfl (by decide +kernel) rfl (wr := List.filterMap (fun i => (wG g cA t s y d q k r c o m)[i]?) [28]) rfl rfl (by decide +kernel) rfl (by decide +kernel) [g 0, g 1, g 2, g 3, g 4, g 5, g 6, g 7, g 8, g 9, g 10, g 11, g 12, g 13, g 14, g 15, g 16, g 17, g 18, g 19, g 20, g 21, g 22, g 23, g 24, g 25, g 26, g 27, g 28] rfl rfl (fun a U g mk h => SX.blind a U g mk h) (fun U hU hW => SX.call hX hS (va_free (wc := (wM g cA t s y d q k r c o m)) hD hS hA [0, 1, 2, 3, 4, 5, 6, 7, 8, 9, 10, 11, 12, 13, 14, 15, 16, 17, 18, 19, 20, 21, 22, 23, 24, 25, 26, 27] rfl) U hU hW) (fun H locs hP hD hS => ?_)
      have hP : va_P D vwCl (wG g cA u3.2.1 u3.2.2.1 u3.2.2.2.1 u3.2.2.2.2.1 u3.2.2.2.2.2.1 u3.2.2.2.2.2.2.1 u3.2.2.2.2.2.2.2.1 u3.2.2.2.2.2.2.2.2.1 u3.2.2.2.2.2.2.2.2.2.1 u3.2.2.2.2.2.2.2.2.2.2) H := hP
      have hD : va_D A (wG g cA u3.2.1 u3.2.2.1 u3.2.2.2.1 u3.2.2.2.2.1 u3.2.2.2.2.2.1 u3.2.2.2.2.2.2.1 u3.2.2.2.2.2.2.2.1 u3.2.2.2.2.2.2.2.2.1 u3.2.2.2.2.2.2.2.2.2.1 u3.2.2.2.2.2.2.2.2.2.2) := hD
      obtain rfl := Option.some.inj hE
      exact rt_i hx hb hr hP hS rfl hlocks dX11_run_29
    · have hE := if_f c2 hE
      exact w11  t s y d q k r c o m H locs ls hP hD hS (lv_sub hl [] rfl) hE
def tb_X11_run_11 (t : tT) (s : tR) (y : tY) (d : tD) (q : tP) (k : tK) (r : tR) (c : tC) (o : tO) (m : tM) : Option (Int32) := some 2
def t_X11_run (x1 : Int32) (t : tT) (s : tR) (y : tY) (d : tD) (q : tP) (k : tK) (r : tR) (c : tC) (o : tO) (m : tM) : Option (Int32) := if x1 < 0 then (tb_X11_run_11 t s y d q k r c o m) else (if x1 ≤ 3000 then ((f_X3_interpret x1 t s y d q k r c o m).bind (fun u3 => none)) else (tb_X11_run_11 t s y d q k r c o m))
set_option maxHeartbeats 4000000 in
set_option maxRecDepth 100000 in
theorem x_X11_run (l : Launch) (hst : l.stackTraces = false) (D : va_G) (cA : Nat → ClassId) (ad adK adV : Nat → Nat) (tA tS : Nat) (sa : Nat → Nat) (g : Nat → Nat) (sz : Nat) (x1 : Int32) (t : tT) (s : tR) (y : tY) (d : tD) (q : tP) (k : tK) (r : tR) (c : tC) (o : tO) (m : tM) (u : Int32) (hE : t_X11_run x1 t s y d q k r c o m = some u) : vx_Met l yX11_run wsX11_run ({ frames := 9, cells := 1, slots := 6, locals := 198 }) (va_Pc [.ref (g 28), .int x1] (PRE D cA (wG g cA t s y d q k r c o m) sz (fun U => SX ad adK adV tA tS (va_A (wG g cA t s y d q k r c o m) sz) U U.heap ∧ EX sa (va_A (wG g cA t s y d q k r c o m) sz) U U.heap))) (va_Qi (fun (_ : Int32) (_ : Unit) => False) (fun _ _ => True) (va_A (wG g cA t s y d q k r c o m) sz)) (vx_X (fun (_ : Unit) => True) (fun E _ TT => E = exN u ∧ va_P D vwCl (wG g cA t s y d q k r c o m) TT.heap) (va_A (wG g cA t s y d q k r c o m) sz)) 1 6 (va_A (wG g cA t s y d q k r c o m) sz) := by
  refine vx_ofW (cc := cX11_run) (maxL := 2) (ret := (some .int)) (by decide) rfl ?_
  intro PP EE S0 MM args below meth CC S1 B hml htb hv
  obtain ⟨rfl, hsz, hP, hK, hD0, hX, hEX⟩ := hv
  have hx := B.exec
  have hb := B.bytes
  have hr := B.returns
  have hts := atoms_spec (ws := wsX11_run) B.pre
  have hown : S0.vm.findClass RX11 = some MM.cls := findClass_of_methodNamed B.named
  have hlocks := B.notSynchronized
  subst hsz
  have hD := hD0.self (sz := S0.heap.size)
  have hX : SX ad adK adV tA tS (va_A (wG g cA t s y d q k r c o m) S0.heap.size) S0 S0.heap := hX
  have hEX : EX sa (va_A (wG g cA t s y d q k r c o m) S0.heap.size) S0 S0.heap := hEX
  generalize hAe : va_A (wG g cA t s y d q k r c o m) S0.heap.size = A at hD hX hEX ⊢
  have hA : ∀ q : Nat, S0.heap.size ≤ q → A q := fun q h => by rw [← hAe]; exact Or.inr h
  have hS : va_S A S0.heap S0.heap [] := va_S.rf
  have k0 := hts (.fieldLink RX11 10 "WordForge" "machine" "LWordForge$Machine;") (List.mem_of_getElem? (i := 3) rfl)
  have inX11 : ∀ w ∈ wsX110, w ∈ wsX11_run := fun _ h => List.mem_cons_of_mem _ (List.mem_append_left _ (List.mem_append_left _ (List.mem_append_left _ (List.mem_append_left _ (List.mem_append_left _ (List.mem_append_left _ (List.mem_append_left _ (List.mem_append_left _ (List.mem_append_left _ (List.mem_append_left _ (List.mem_append_right _ h)))))))))))
  have k2 := hts (.classLink RX11 26 "java/lang/IllegalArgumentException") (List.mem_of_getElem? (i := 1) rfl)
  have k3 := hts (.initialized "java/lang/IllegalArgumentException") (List.mem_of_getElem? (i := 2) rfl)
  have hl := lv_entry ([.ref (g 28), .int x1]) (n := 2) (Nat.le_of_ble_eq_true rfl)
  rw [lg_entry_eq]
  generalize (lg_sl ([.ref (g 28), .int x1]) ++ List.replicate (2 - (lg_sl ([.ref (g 28), .int x1])).length) Slot.unset).toArray = ls at hl ⊢
  have hl : lv_has ls 2 [(0, .ref (g 28)), (1, .int x1)] := hl
  have w11 : ∀ (t : tT) (s : tR) (y : tY) (d : tD) (q : tP) (k : tK) (r : tR) (c : tC) (o : tO) (m : tM) (H : Heap) (locs : List Loc) (ls : Array Slot), va_P D vwCl (wG g cA t s y d q k r c o m) H → va_D A (wG g cA t s y d q k r c o m) → va_S A S0.heap H locs → lv_has ls 2 [] → tb_X11_run_11  t s y d q k r c o m = some u → W PP l EE (headSpec wsX11_run ({ frames := 9, cells := 1, slots := 6, locals := 198 })).room S0 MM (#[.ref (g 28), .int x1] : Array Value) below meth CC H locs 0 0 (vx_MQ below (va_Qi (fun (_ : Int32) (_ : Unit) => False) (fun _ _ => True) A) (vx_X (fun (_ : Unit) => True) (fun E _ TT => E = exN u ∧ va_P D vwCl (wG g cA t s y d q k r c o m) TT.heap) A) (#[.ref (g 28), .int x1] : Array Value) S0 1 6 A) (F0 MM 11 ls []) := by
    intro t s y d q k r c o m
    intro H locs ls hP hD hS hl hE
    unfold tb_X11_run_11 at hE
    obtain rfl := Option.some.inj hE
    have hat : ∀ w ∈ vx_atS RX11 30 "java/lang/IllegalArgumentException" ["java/lang/RuntimeException", "java/lang/Exception"], w.before ((#[.ref (g 28), .int x1] : Array Value)) S0 = true := vx_hat (B := [.declares (Bundle.initS "java/lang/RuntimeException"), .declares (Bundle.initS "java/lang/Exception"), .declares (Bundle.initS Bundle.tN), .castable "java/lang/IllegalArgumentException" "java/lang/IllegalArgumentException"]) (fun w h => hts w (List.mem_cons_of_mem _ (List.mem_append_right _ h))) (fun w h => by rw [show (vx_atS RX11 30 "java/lang/IllegalArgumentException" ["java/lang/RuntimeException", "java/lang/Exception"]).filter (fun w => !goodWord w) = [.declares (Bundle.initS "java/lang/RuntimeException"), .declares (Bundle.initS "java/lang/Exception"), .declares (Bundle.initS Bundle.tN), .castable "java/lang/IllegalArgumentException" "java/lang/IllegalArgumentException"] by decide +kernel] at h; exact h) (vx_c (va_Nw.use rfl (hEX.2.2.2.1 _ (List.mem_of_getElem? (i := 0) rfl))) (vx_c (va_Nw.use rfl (hEX.2.2.2.1 _ (List.mem_of_getElem? (i := 1) rfl))) (vx_c (va_Nw.use rfl (hEX.2.2.2.1 _ (List.mem_of_getElem? (i := 2) rfl))) (vx_c (va_Nw.use rfl (hEX.2.2.2.1 _ (List.mem_of_getElem? (i := 4) rfl))) vx_n))))
    refine vx_throwS (own := RX11) (cls := "java/lang/IllegalArgumentException") (text := "fuel is not 0 .. 3000") (names := ["java/lang/RuntimeException", "java/lang/Exception"]) (ik := 26) (is := 28) (ic := 30) (sa := sa 28) hx hb hst hown (by decide +kernel) (by decide +kernel) k2 k3 (hEX.1 (28, "fuel is not 0 .. 3000") (List.mem_of_getElem? (i := 0) rfl)) hat (List.all_eq_true.mp (by decide +kernel)) hEX.2.1 hEX.2.2.1 hS (hl.1.trans hml.symm) dX11_run_11 dX11_run_14 dX11_run_15 dX11_run_17 dX11_run_20 (fun x h => (htb x h).elim) (by decide) (by decide) (by decide) (by decide) hlocks (fun TT hvm hz hk => ⟨(), trivial, ⟨rfl, hP.kept (fun j z hj => hk z.1 (hP j z hj).lt)⟩, Nat.le_trans hS.1 hz, fun z h1 h2 => (hk z (Nat.lt_of_lt_of_le h1 hS.1)).trans (hS.2.1 z h1 h2)⟩) (fun z h => hS.2.2 z h) (by decide) (by decide)
  unfold t_X11_run at hE
  suffices main : ∀ (H : Heap) (locs : List Loc) (ls : Array Slot), va_P D vwCl (wG g cA t s y d q k r c o m) H → va_D A (wG g cA t s y d q k r c o m) → va_S A S0.heap H locs → lv_has ls 2 [(0, .ref (g 28)), (1, .int x1)] → W PP l EE (headSpec wsX11_run ({ frames := 9, cells := 1, slots := 6, locals := 198 })).room S0 MM (#[.ref (g 28), .int x1] : Array Value) below meth CC H locs 0 0 (vx_MQ below (va_Qi (fun (_ : Int32) (_ : Unit) => False) (fun _ _ => True) A) (vx_X (fun (_ : Unit) => True) (fun E _ TT => E = exN u ∧ va_P D vwCl (wG g cA t s y d q k r c o m) TT.heap) A) (#[.ref (g 28), .int x1] : Array Value) S0 1 6 A) (F0 MM 0 ls []) from main _ _ _ hP hD hS hl
  intro H locs ls hP hD hS hl
  refine lv_iload_n hx hb dX11_run_0 rfl (lv_at hl 1 rfl) ?_
  refine lv_if_lt (tgt := 11) hx hb dX11_run_1 (by decide) (fun c1 => ?_) (fun c1 => ?_)
  · have hE := if_t c1 hE
    exact w11  t s y d q k r c o m H locs ls hP hD hS (lv_sub hl [] rfl) hE
  · have hE := if_f c1 hE
    refine lv_iload_n hx hb dX11_run_4 rfl (lv_at hl 1 rfl) ?_
    refine lv_sipush (v := 3000) hx hb dX11_run_5 (by decide +kernel) ?_
    refine lv_icmp_le (tgt := 21) hx hb dX11_run_8 (by decide) (fun c2 => ?_) (fun c2 => ?_)
    · have hE := if_t c2 hE
      refine lv_aload_n hx hb dX11_run_21 rfl (lv_at hl 0 rfl) ?_
      refine va_get (D := D) (ci := 9) (v := .ref (g 0)) (C := RX11) (T := TX11) (N := 1) hx hb hts inX11 hown hK hP 28 rfl rfl 0 (by decide) k0 (fun _ h9 => h9) rfl dX11_run_22 ?_
      refine lv_iload_n hx hb dX11_run_25 rfl (lv_at hl 1 rfl) ?_
      obtain ⟨u3, h4, hE⟩ := bd_some hE
      refine cn_i (As := [.int x1]) (rest := []) (r := u3.1) (w0 := (wG g cA t s y d q k r c o m)) (N := 29) ⟨hx, hb, hml, hown, hts⟩ (c_X3_interpret l D cA ad adK adV tA tS g H.size x1 t s y d q k r c o m u3 h4) (cwV 1 hts hX11_run_X3_interpret_33 rfl rfl rfl (by decide +kernel) ⟨Nat.le_of_ble_eq_true rfl, Nat.le_of_ble_eq_true rfl⟩) rfl hl.1 rfl (Nat.le_of_ble_eq_true rfl) dX11_run_26 ⟨Nat.zero_le _, Nat.zero_le _⟩ hK hP hD hS hA (va_recv hK hP (ci := 2) (q0 := 0) rfl rfl) [0, 1, 2, 3, 4, 5, 6, 7, 8, 9, 10, 11, 12, 13, 14, 15, 16, 17, 18, 19, 20, 21, 22, 23, 24, 25, 26, 27] [28] (wG g cA u3.2.1 u3.2.2.1 u3.2.2.2.1 u3.2.2.2.2.1 u3.2.2.2.2.2.1 u3.2.2.2.2.2.2.1 u3.2.2.2.2.2.2.2.1 u3.2.2.2.2.2.2.2.2.1 u3.2.2.2.2.2.2.2.2.2.1 u3.2.2.2.2.2.2.2.2.2.2) rfl (by decide +kernel) rfl (wr := List.filterMap (fun i => (wG g cA t s y d q k r c o m)[i]?) [28]) rfl rfl (by decide +kernel) rfl (by decide +kernel) [g 0, g 1, g 2, g 3, g 4, g 5, g 6, g 7, g 8, g 9, g 10, g 11, g 12, g 13, g 14, g 15, g 16, g 17, g 18, g 19, g 20, g 21, g 22, g 23, g 24, g 25, g 26, g 27, g 28] rfl rfl (fun a U g mk h => SX.blind a U g mk h) (fun U hU hW => SX.call hX hS (va_free (wc := (wM g cA t s y d q k r c o m)) hD hS hA [0, 1, 2, 3, 4, 5, 6, 7, 8, 9, 10, 11, 12, 13, 14, 15, 16, 17, 18, 19, 20, 21, 22, 23, 24, 25, 26, 27] rfl) U hU hW) (fun H locs hP hD hS => ?_)
      have hP : va_P D vwCl (wG g cA u3.2.1 u3.2.2.1 u3.2.2.2.1 u3.2.2.2.2.1 u3.2.2.2.2.2.1 u3.2.2.2.2.2.2.1 u3.2.2.2.2.2.2.2.1 u3.2.2.2.2.2.2.2.2.1 u3.2.2.2.2.2.2.2.2.2.1 u3.2.2.2.2.2.2.2.2.2.2) H := hP
      have hD : va_D A (wG g cA u3.2.1 u3.2.2.1 u3.2.2.2.1 u3.2.2.2.2.1 u3.2.2.2.2.2.1 u3.2.2.2.2.2.2.1 u3.2.2.2.2.2.2.2.1 u3.2.2.2.2.2.2.2.2.1 u3.2.2.2.2.2.2.2.2.2.1 u3.2.2.2.2.2.2.2.2.2.2) := hD
      exact nomatch hE
    · have hE := if_f c2 hE
      exact w11  t s y d q k r c o m H locs ls hP hD hS (lv_sub hl [] rfl) hE
def b_X11_output_18 (o : tO) : Option (Int32) := none
def f_X11_output (x1 : Int32) (o : tO) : Option (Int32) := if x1 < 0 then (b_X11_output_18 o) else (if x1 < o.1 then (ck (¬ (x1 < 0 ∨ 300 ≤ x1.toNatClampNeg)) (ck (((o.2 x1.toNatClampNeg).toUInt32 % 65536).toInt32 = (o.2 x1.toNatClampNeg)) (some (o.2 x1.toNatClampNeg)))) else (b_X11_output_18 o))
set_option maxHeartbeats 4000000 in
set_option maxRecDepth 100000 in
theorem c_X11_output (l : Launch) (D : va_G) (cA : Nat → ClassId) (ad adK adV : Nat → Nat) (tA tS : Nat) (g : Nat → Nat) (sz : Nat) (x1 : Int32) (t : tT) (s : tR) (y : tY) (d : tD) (q : tP) (k : tK) (r : tR) (c : tC) (o : tO) (m : tM) (u : Int32) (hE : f_X11_output x1 o = some u) : Met l yX11_output wsX11_output ({ frames := 0, cells := 0, slots := 0, locals := 0 }) (va_Pc [.ref (g 28), .int x1] (PRE D cA (wG g cA t s y d q k r c o m) sz (fun U => SX ad adK adV tA tS (va_A (wG g cA t s y d q k r c o m) sz) U U.heap))) (cQi D (wG g cA t s y d q k r c o m) (va_A (wG g cA t s y d q k r c o m) sz) u) 0 0 (va_A (wG g cA t s y d q k r c o m) sz) := by
  refine Met.ofW (cc := cX11_output) (maxL := 2) (ret := (some .char)) (by decide) rfl ?_
  intro PP EE S0 MM args below meth CC S1 B hml hv
  obtain ⟨rfl, hsz, hP, hK, hD0, hX⟩ := hv
  have hx := B.exec
  have hb := B.bytes
  have hr := B.returns
  have hts := atoms_spec (ws := wsX11_output) B.pre
  have hown : S0.vm.findClass RX11 = some MM.cls := findClass_of_methodNamed B.named
  have hlocks := B.notSynchronized
  subst hsz
  have hD := hD0.self (sz := S0.heap.size)
  have hX : SX ad adK adV tA tS (va_A (wG g cA t s y d q k r c o m) S0.heap.size) S0 S0.heap := hX
  generalize hAe : va_A (wG g cA t s y d q k r c o m) S0.heap.size = A at hD hX ⊢
  have hA : ∀ q : Nat, S0.heap.size ≤ q → A q := fun q h => by rw [← hAe]; exact Or.inr h
  have hS : va_S A S0.heap S0.heap [] := va_S.rf
  have k0 := hts (.fieldLink RX11 10 "WordForge" "machine" "LWordForge$Machine;") (List.mem_of_getElem? (i := 3) rfl)
  have inX11 : ∀ w ∈ wsX110, w ∈ wsX11_output := fun _ h => List.mem_cons_of_mem _ (List.mem_append_left _ (List.mem_append_left _ (List.mem_append_left _ (List.mem_append_right _ h))))
  have k2 := hX.nest (.fieldLinkNest RX11 37 "WordForge$Machine" "written" "LWordForge$Output;" "WordForge") (List.mem_of_getElem? (i := 34) rfl)
  have inX3 : ∀ w ∈ wsX30, w ∈ wsX11_output := fun _ h => List.mem_cons_of_mem _ (List.mem_append_left _ (List.mem_append_left _ (List.mem_append_right _ h)))
  have k4 := hX.nest (.fieldLinkNest RX11 41 "WordForge$Output" "size" "I" "WordForge") (List.mem_of_getElem? (i := 23) rfl)
  have inX7 : ∀ w ∈ wsX70, w ∈ wsX11_output := fun _ h => List.mem_cons_of_mem _ (List.mem_append_left _ (List.mem_append_right _ h))
  have k6 := hX.nest (.fieldLinkNest RX11 52 "WordForge$Output" "characters" "[C" "WordForge") (List.mem_of_getElem? (i := 21) rfl)
  have hl := lv_entry ([.ref (g 28), .int x1]) (n := 2) (Nat.le_of_ble_eq_true rfl)
  rw [lg_entry_eq]
  generalize (lg_sl ([.ref (g 28), .int x1]) ++ List.replicate (2 - (lg_sl ([.ref (g 28), .int x1])).length) Slot.unset).toArray = ls at hl ⊢
  have hl : lv_has ls 2 [(0, .ref (g 28)), (1, .int x1)] := hl
  have w18 : ∀ (o : tO) (H : Heap) (locs : List Loc) (ls : Array Slot), va_P D vwCl (wG g cA t s y d q k r c o m) H → va_D A (wG g cA t s y d q k r c o m) → va_S A S0.heap H locs → lv_has ls 2 [] → b_X11_output_18  o = some u → W PP l EE (headSpec wsX11_output ({ frames := 0, cells := 0, slots := 0, locals := 0 })).room S0 MM (#[.ref (g 28), .int x1] : Array Value) below meth CC H locs 0 0 (MQ below (cQi D (wG g cA t s y d q k r c o m) A u) (#[.ref (g 28), .int x1] : Array Value) S0 0 0 A) (F0 MM 18 ls []) := by
    intro o
    intro H locs ls hP hD hS hl hE
    unfold b_X11_output_18 at hE
    exact nomatch hE
  unfold f_X11_output at hE
  suffices main : ∀ (H : Heap) (locs : List Loc) (ls : Array Slot), va_P D vwCl (wG g cA t s y d q k r c o m) H → va_D A (wG g cA t s y d q k r c o m) → va_S A S0.heap H locs → lv_has ls 2 [(0, .ref (g 28)), (1, .int x1)] → W PP l EE (headSpec wsX11_output ({ frames := 0, cells := 0, slots := 0, locals := 0 })).room S0 MM (#[.ref (g 28), .int x1] : Array Value) below meth CC H locs 0 0 (MQ below (cQi D (wG g cA t s y d q k r c o m) A u) (#[.ref (g 28), .int x1] : Array Value) S0 0 0 A) (F0 MM 0 ls []) from main _ _ _ hP hD hS hl
  intro H locs ls hP hD hS hl
  refine lv_iload_n hx hb dX11_output_0 rfl (lv_at hl 1 rfl) ?_
  refine lv_if_lt (tgt := 18) hx hb dX11_output_1 (by decide) (fun c1 => ?_) (fun c1 => ?_)
  · have hE := if_t c1 hE
    exact w18  o H locs ls hP hD hS (lv_sub hl [] rfl) hE
  · have hE := if_f c1 hE
    refine lv_iload_n hx hb dX11_output_4 rfl (lv_at hl 1 rfl) ?_
    refine lv_aload_n hx hb dX11_output_5 rfl (lv_at hl 0 rfl) ?_
    refine va_get (D := D) (ci := 9) (v := .ref (g 0)) (C := RX11) (T := TX11) (N := 1) hx hb hts inX11 hown hK hP 28 rfl rfl 0 (by decide) k0 (fun _ h9 => h9) rfl dX11_output_6 ?_
    refine va_getN (D := D) (ci := 2) (v := .ref (g 26)) (C := RX3) (T := TX3) (N := 14) hx hb hts inX3 hown hK hP 0 rfl rfl 6 (by decide) (k2 _) (fun _ h9 => h9) rfl dX11_output_9 ?_
    refine va_getN (D := D) (ci := 6) (v := .int o.1) (C := RX7) (T := TX7) (N := 2) hx hb hts inX7 hown hK hP 26 rfl rfl 1 (by decide) (k4 _) (fun _ h9 => h9) rfl dX11_output_12 ?_
    refine lv_icmp_lt (tgt := 28) hx hb dX11_output_15 (by decide) (fun c2 => ?_) (fun c2 => ?_)
    · have hE := if_t c2 hE
      refine lv_aload_n hx hb dX11_output_28 rfl (lv_at hl 0 rfl) ?_
      refine va_get (D := D) (ci := 9) (v := .ref (g 0)) (C := RX11) (T := TX11) (N := 1) hx hb hts inX11 hown hK hP 28 rfl rfl 0 (by decide) k0 (fun _ h9 => h9) rfl dX11_output_29 ?_
      refine va_getN (D := D) (ci := 2) (v := .ref (g 26)) (C := RX3) (T := TX3) (N := 14) hx hb hts inX3 hown hK hP 0 rfl rfl 6 (by decide) (k2 _) (fun _ h9 => h9) rfl dX11_output_32 ?_
      refine va_getN (D := D) (ci := 6) (v := .ref (g 27)) (C := RX7) (T := TX7) (N := 2) hx hb hts inX7 hown hK hP 26 rfl rfl 0 (by decide) (k6 _) (fun _ h9 => h9) rfl dX11_output_35 ?_
      refine lv_iload_n hx hb dX11_output_38 rfl (lv_at hl 1 rfl) ?_
      have ⟨c3, hE⟩ := ck_some hE
      refine va_cald hx hb hK hP 27 2 rfl rfl c3 dX11_output_39 ?_
      have ⟨c4, hE⟩ := ck_some hE
      obtain rfl := Option.some.inj hE
      exact rt_n hx hb hr (cfit c4).1 hP hS rfl hlocks dX11_output_40
    · have hE := if_f c2 hE
      exact w18  o H locs ls hP hD hS (lv_sub hl [] rfl) hE
def tb_X11_output_18 (o : tO) : Option (Int32) := some 1
def t_X11_output (x1 : Int32) (o : tO) : Option (Int32) := if x1 < 0 then (tb_X11_output_18 o) else (if x1 < o.1 then (ck (¬ (x1 < 0 ∨ 300 ≤ x1.toNatClampNeg)) (none)) else (tb_X11_output_18 o))
set_option maxHeartbeats 4000000 in
set_option maxRecDepth 100000 in
theorem x_X11_output (l : Launch) (hst : l.stackTraces = false) (D : va_G) (cA : Nat → ClassId) (ad adK adV : Nat → Nat) (tA tS : Nat) (sa : Nat → Nat) (g : Nat → Nat) (sz : Nat) (x1 : Int32) (t : tT) (s : tR) (y : tY) (d : tD) (q : tP) (k : tK) (r : tR) (c : tC) (o : tO) (m : tM) (u : Int32) (hE : t_X11_output x1 o = some u) : vx_Met l yX11_output wsX11_output ({ frames := 6, cells := 1, slots := 6, locals := 82 }) (va_Pc [.ref (g 28), .int x1] (PRE D cA (wG g cA t s y d q k r c o m) sz (fun U => SX ad adK adV tA tS (va_A (wG g cA t s y d q k r c o m) sz) U U.heap ∧ EX sa (va_A (wG g cA t s y d q k r c o m) sz) U U.heap))) (va_Qi (fun (_ : Int32) (_ : Unit) => False) (fun _ _ => True) (va_A (wG g cA t s y d q k r c o m) sz)) (vx_X (fun (_ : Unit) => True) (fun E _ TT => E = exN u ∧ va_P D vwCl (wG g cA t s y d q k r c o m) TT.heap) (va_A (wG g cA t s y d q k r c o m) sz)) 1 6 (va_A (wG g cA t s y d q k r c o m) sz) := by
  refine vx_ofW (cc := cX11_output) (maxL := 2) (ret := (some .char)) (by decide) rfl ?_
  intro PP EE S0 MM args below meth CC S1 B hml htb hv
  obtain ⟨rfl, hsz, hP, hK, hD0, hX, hEX⟩ := hv
  have hx := B.exec
  have hb := B.bytes
  have hr := B.returns
  have hts := atoms_spec (ws := wsX11_output) B.pre
  have hown : S0.vm.findClass RX11 = some MM.cls := findClass_of_methodNamed B.named
  have hlocks := B.notSynchronized
  subst hsz
  have hD := hD0.self (sz := S0.heap.size)
  have hX : SX ad adK adV tA tS (va_A (wG g cA t s y d q k r c o m) S0.heap.size) S0 S0.heap := hX
  have hEX : EX sa (va_A (wG g cA t s y d q k r c o m) S0.heap.size) S0 S0.heap := hEX
  generalize hAe : va_A (wG g cA t s y d q k r c o m) S0.heap.size = A at hD hX hEX ⊢
  have hA : ∀ q : Nat, S0.heap.size ≤ q → A q := fun q h => by rw [← hAe]; exact Or.inr h
  have hS : va_S A S0.heap S0.heap [] := va_S.rf
  have k0 := hts (.fieldLink RX11 10 "WordForge" "machine" "LWordForge$Machine;") (List.mem_of_getElem? (i := 3) rfl)
  have inX11 : ∀ w ∈ wsX110, w ∈ wsX11_output := fun _ h => List.mem_cons_of_mem _ (List.mem_append_left _ (List.mem_append_left _ (List.mem_append_left _ (List.mem_append_right _ h))))
  have k2 := hX.nest (.fieldLinkNest RX11 37 "WordForge$Machine" "written" "LWordForge$Output;" "WordForge") (List.mem_of_getElem? (i := 34) rfl)
  have inX3 : ∀ w ∈ wsX30, w ∈ wsX11_output := fun _ h => List.mem_cons_of_mem _ (List.mem_append_left _ (List.mem_append_left _ (List.mem_append_right _ h)))
  have k4 := hX.nest (.fieldLinkNest RX11 41 "WordForge$Output" "size" "I" "WordForge") (List.mem_of_getElem? (i := 23) rfl)
  have inX7 : ∀ w ∈ wsX70, w ∈ wsX11_output := fun _ h => List.mem_cons_of_mem _ (List.mem_append_left _ (List.mem_append_right _ h))
  have k6 := hX.nest (.fieldLinkNest RX11 52 "WordForge$Output" "characters" "[C" "WordForge") (List.mem_of_getElem? (i := 21) rfl)
  have k7 := hts (.classLink RX11 47 "java/lang/IndexOutOfBoundsException") (List.mem_of_getElem? (i := 1) rfl)
  have k8 := hts (.initialized "java/lang/IndexOutOfBoundsException") (List.mem_of_getElem? (i := 2) rfl)
  have hl := lv_entry ([.ref (g 28), .int x1]) (n := 2) (Nat.le_of_ble_eq_true rfl)
  rw [lg_entry_eq]
  generalize (lg_sl ([.ref (g 28), .int x1]) ++ List.replicate (2 - (lg_sl ([.ref (g 28), .int x1])).length) Slot.unset).toArray = ls at hl ⊢
  have hl : lv_has ls 2 [(0, .ref (g 28)), (1, .int x1)] := hl
  have w18 : ∀ (o : tO) (H : Heap) (locs : List Loc) (ls : Array Slot), va_P D vwCl (wG g cA t s y d q k r c o m) H → va_D A (wG g cA t s y d q k r c o m) → va_S A S0.heap H locs → lv_has ls 2 [] → tb_X11_output_18  o = some u → W PP l EE (headSpec wsX11_output ({ frames := 6, cells := 1, slots := 6, locals := 82 })).room S0 MM (#[.ref (g 28), .int x1] : Array Value) below meth CC H locs 0 0 (vx_MQ below (va_Qi (fun (_ : Int32) (_ : Unit) => False) (fun _ _ => True) A) (vx_X (fun (_ : Unit) => True) (fun E _ TT => E = exN u ∧ va_P D vwCl (wG g cA t s y d q k r c o m) TT.heap) A) (#[.ref (g 28), .int x1] : Array Value) S0 1 6 A) (F0 MM 18 ls []) := by
    intro o
    intro H locs ls hP hD hS hl hE
    unfold tb_X11_output_18 at hE
    obtain rfl := Option.some.inj hE
    have hat : ∀ w ∈ vx_atS RX11 51 "java/lang/IndexOutOfBoundsException" ["java/lang/RuntimeException", "java/lang/Exception"], w.before ((#[.ref (g 28), .int x1] : Array Value)) S0 = true := vx_hat (B := [.declares (Bundle.initS "java/lang/RuntimeException"), .declares (Bundle.initS "java/lang/Exception"), .declares (Bundle.initS Bundle.tN), .castable "java/lang/IndexOutOfBoundsException" "java/lang/IndexOutOfBoundsException"]) (fun w h => hts w (List.mem_cons_of_mem _ (List.mem_append_right _ h))) (fun w h => by rw [show (vx_atS RX11 51 "java/lang/IndexOutOfBoundsException" ["java/lang/RuntimeException", "java/lang/Exception"]).filter (fun w => !goodWord w) = [.declares (Bundle.initS "java/lang/RuntimeException"), .declares (Bundle.initS "java/lang/Exception"), .declares (Bundle.initS Bundle.tN), .castable "java/lang/IndexOutOfBoundsException" "java/lang/IndexOutOfBoundsException"] by decide +kernel] at h; exact h) (vx_c (va_Nw.use rfl (hEX.2.2.2.1 _ (List.mem_of_getElem? (i := 0) rfl))) (vx_c (va_Nw.use rfl (hEX.2.2.2.1 _ (List.mem_of_getElem? (i := 1) rfl))) (vx_c (va_Nw.use rfl (hEX.2.2.2.1 _ (List.mem_of_getElem? (i := 2) rfl))) (vx_c (va_Nw.use rfl (hEX.2.2.2.1 _ (List.mem_of_getElem? (i := 3) rfl))) vx_n))))
    refine vx_throwS (own := RX11) (cls := "java/lang/IndexOutOfBoundsException") (text := "no such character of output") (names := ["java/lang/RuntimeException", "java/lang/Exception"]) (ik := 47) (is := 49) (ic := 51) (sa := sa 49) hx hb hst hown (by decide +kernel) (by decide +kernel) k7 k8 (hEX.1 (49, "no such character of output") (List.mem_of_getElem? (i := 1) rfl)) hat (List.all_eq_true.mp (by decide +kernel)) hEX.2.1 hEX.2.2.1 hS (hl.1.trans hml.symm) dX11_output_18 dX11_output_21 dX11_output_22 dX11_output_24 dX11_output_27 (fun x h => (htb x h).elim) (by decide) (by decide) (by decide) (by decide) hlocks (fun TT hvm hz hk => ⟨(), trivial, ⟨rfl, hP.kept (fun j z hj => hk z.1 (hP j z hj).lt)⟩, Nat.le_trans hS.1 hz, fun z h1 h2 => (hk z (Nat.lt_of_lt_of_le h1 hS.1)).trans (hS.2.1 z h1 h2)⟩) (fun z h => hS.2.2 z h) (by decide) (by decide)
  unfold t_X11_output at hE
  suffices main : ∀ (H : Heap) (locs : List Loc) (ls : Array Slot), va_P D vwCl (wG g cA t s y d q k r c o m) H → va_D A (wG g cA t s y d q k r c o m) → va_S A S0.heap H locs → lv_has ls 2 [(0, .ref (g 28)), (1, .int x1)] → W PP l EE (headSpec wsX11_output ({ frames := 6, cells := 1, slots := 6, locals := 82 })).room S0 MM (#[.ref (g 28), .int x1] : Array Value) below meth CC H locs 0 0 (vx_MQ below (va_Qi (fun (_ : Int32) (_ : Unit) => False) (fun _ _ => True) A) (vx_X (fun (_ : Unit) => True) (fun E _ TT => E = exN u ∧ va_P D vwCl (wG g cA t s y d q k r c o m) TT.heap) A) (#[.ref (g 28), .int x1] : Array Value) S0 1 6 A) (F0 MM 0 ls []) from main _ _ _ hP hD hS hl
  intro H locs ls hP hD hS hl
  refine lv_iload_n hx hb dX11_output_0 rfl (lv_at hl 1 rfl) ?_
  refine lv_if_lt (tgt := 18) hx hb dX11_output_1 (by decide) (fun c1 => ?_) (fun c1 => ?_)
  · have hE := if_t c1 hE
    exact w18  o H locs ls hP hD hS (lv_sub hl [] rfl) hE
  · have hE := if_f c1 hE
    refine lv_iload_n hx hb dX11_output_4 rfl (lv_at hl 1 rfl) ?_
    refine lv_aload_n hx hb dX11_output_5 rfl (lv_at hl 0 rfl) ?_
    refine va_get (D := D) (ci := 9) (v := .ref (g 0)) (C := RX11) (T := TX11) (N := 1) hx hb hts inX11 hown hK hP 28 rfl rfl 0 (by decide) k0 (fun _ h9 => h9) rfl dX11_output_6 ?_
    refine va_getN (D := D) (ci := 2) (v := .ref (g 26)) (C := RX3) (T := TX3) (N := 14) hx hb hts inX3 hown hK hP 0 rfl rfl 6 (by decide) (k2 _) (fun _ h9 => h9) rfl dX11_output_9 ?_
    refine va_getN (D := D) (ci := 6) (v := .int o.1) (C := RX7) (T := TX7) (N := 2) hx hb hts inX7 hown hK hP 26 rfl rfl 1 (by decide) (k4 _) (fun _ h9 => h9) rfl dX11_output_12 ?_
    refine lv_icmp_lt (tgt := 28) hx hb dX11_output_15 (by decide) (fun c2 => ?_) (fun c2 => ?_)
    · have hE := if_t c2 hE
      refine lv_aload_n hx hb dX11_output_28 rfl (lv_at hl 0 rfl) ?_
      refine va_get (D := D) (ci := 9) (v := .ref (g 0)) (C := RX11) (T := TX11) (N := 1) hx hb hts inX11 hown hK hP 28 rfl rfl 0 (by decide) k0 (fun _ h9 => h9) rfl dX11_output_29 ?_
      refine va_getN (D := D) (ci := 2) (v := .ref (g 26)) (C := RX3) (T := TX3) (N := 14) hx hb hts inX3 hown hK hP 0 rfl rfl 6 (by decide) (k2 _) (fun _ h9 => h9) rfl dX11_output_32 ?_
      refine va_getN (D := D) (ci := 6) (v := .ref (g 27)) (C := RX7) (T := TX7) (N := 2) hx hb hts inX7 hown hK hP 26 rfl rfl 0 (by decide) (k6 _) (fun _ h9 => h9) rfl dX11_output_35 ?_
      refine lv_iload_n hx hb dX11_output_38 rfl (lv_at hl 1 rfl) ?_
      have ⟨c3, hE⟩ := ck_some hE
      refine va_cald hx hb hK hP 27 2 rfl rfl c3 dX11_output_39 ?_
      exact nomatch hE
    · have hE := if_f c2 hE
      exact w18  o H locs ls hP hD hS (lv_sub hl [] rfl) hE
def b_X11_stack_18 (s : tR) : Option (Int32) := none
def f_X11_stack (x1 : Int32) (s : tR) : Option (Int32) := if x1 < 0 then (b_X11_stack_18 s) else (if x1 < s.1 then (ck (¬ (x1 < 0 ∨ 30 ≤ x1.toNatClampNeg)) (some (s.2 x1.toNatClampNeg))) else (b_X11_stack_18 s))
set_option maxHeartbeats 4000000 in
set_option maxRecDepth 100000 in
theorem c_X11_stack (l : Launch) (D : va_G) (cA : Nat → ClassId) (ad adK adV : Nat → Nat) (tA tS : Nat) (g : Nat → Nat) (sz : Nat) (x1 : Int32) (t : tT) (s : tR) (y : tY) (d : tD) (q : tP) (k : tK) (r : tR) (c : tC) (o : tO) (m : tM) (u : Int32) (hE : f_X11_stack x1 s = some u) : Met l yX11_stack wsX11_stack ({ frames := 0, cells := 0, slots := 0, locals := 0 }) (va_Pc [.ref (g 28), .int x1] (PRE D cA (wG g cA t s y d q k r c o m) sz (fun U => SX ad adK adV tA tS (va_A (wG g cA t s y d q k r c o m) sz) U U.heap))) (cQi D (wG g cA t s y d q k r c o m) (va_A (wG g cA t s y d q k r c o m) sz) u) 0 0 (va_A (wG g cA t s y d q k r c o m) sz) := by
  refine Met.ofW (cc := cX11_stack) (maxL := 2) (ret := (some .int)) (by decide) rfl ?_
  intro PP EE S0 MM args below meth CC S1 B hml hv
  obtain ⟨rfl, hsz, hP, hK, hD0, hX⟩ := hv
  have hx := B.exec
  have hb := B.bytes
  have hr := B.returns
  have hts := atoms_spec (ws := wsX11_stack) B.pre
  have hown : S0.vm.findClass RX11 = some MM.cls := findClass_of_methodNamed B.named
  have hlocks := B.notSynchronized
  subst hsz
  have hD := hD0.self (sz := S0.heap.size)
  have hX : SX ad adK adV tA tS (va_A (wG g cA t s y d q k r c o m) S0.heap.size) S0 S0.heap := hX
  generalize hAe : va_A (wG g cA t s y d q k r c o m) S0.heap.size = A at hD hX ⊢
  have hA : ∀ q : Nat, S0.heap.size ≤ q → A q := fun q h => by rw [← hAe]; exact Or.inr h
  have hS : va_S A S0.heap S0.heap [] := va_S.rf
  have k0 := hts (.fieldLink RX11 10 "WordForge" "machine" "LWordForge$Machine;") (List.mem_of_getElem? (i := 3) rfl)
  have inX11 : ∀ w ∈ wsX110, w ∈ wsX11_stack := fun _ h => List.mem_cons_of_mem _ (List.mem_append_left _ (List.mem_append_left _ (List.mem_append_left _ (List.mem_append_right _ h))))
  have k2 := hX.nest (.fieldLinkNest RX11 56 "WordForge$Machine" "stack" "LWordForge$Row;" "WordForge") (List.mem_of_getElem? (i := 30) rfl)
  have inX3 : ∀ w ∈ wsX30, w ∈ wsX11_stack := fun _ h => List.mem_cons_of_mem _ (List.mem_append_left _ (List.mem_append_left _ (List.mem_append_right _ h)))
  have k4 := hX.nest (.fieldLinkNest RX11 60 "WordForge$Row" "size" "I" "WordForge") (List.mem_of_getElem? (i := 3) rfl)
  have inX8 : ∀ w ∈ wsX80, w ∈ wsX11_stack := fun _ h => List.mem_cons_of_mem _ (List.mem_append_left _ (List.mem_append_right _ h))
  have k6 := hX.nest (.fieldLinkNest RX11 65 "WordForge$Row" "numbers" "[I" "WordForge") (List.mem_of_getElem? (i := 1) rfl)
  have hl := lv_entry ([.ref (g 28), .int x1]) (n := 2) (Nat.le_of_ble_eq_true rfl)
  rw [lg_entry_eq]
  generalize (lg_sl ([.ref (g 28), .int x1]) ++ List.replicate (2 - (lg_sl ([.ref (g 28), .int x1])).length) Slot.unset).toArray = ls at hl ⊢
  have hl : lv_has ls 2 [(0, .ref (g 28)), (1, .int x1)] := hl
  have w18 : ∀ (s : tR) (H : Heap) (locs : List Loc) (ls : Array Slot), va_P D vwCl (wG g cA t s y d q k r c o m) H → va_D A (wG g cA t s y d q k r c o m) → va_S A S0.heap H locs → lv_has ls 2 [] → b_X11_stack_18  s = some u → W PP l EE (headSpec wsX11_stack ({ frames := 0, cells := 0, slots := 0, locals := 0 })).room S0 MM (#[.ref (g 28), .int x1] : Array Value) below meth CC H locs 0 0 (MQ below (cQi D (wG g cA t s y d q k r c o m) A u) (#[.ref (g 28), .int x1] : Array Value) S0 0 0 A) (F0 MM 18 ls []) := by
    intro s
    intro H locs ls hP hD hS hl hE
    unfold b_X11_stack_18 at hE
    exact nomatch hE
  unfold f_X11_stack at hE
  suffices main : ∀ (H : Heap) (locs : List Loc) (ls : Array Slot), va_P D vwCl (wG g cA t s y d q k r c o m) H → va_D A (wG g cA t s y d q k r c o m) → va_S A S0.heap H locs → lv_has ls 2 [(0, .ref (g 28)), (1, .int x1)] → W PP l EE (headSpec wsX11_stack ({ frames := 0, cells := 0, slots := 0, locals := 0 })).room S0 MM (#[.ref (g 28), .int x1] : Array Value) below meth CC H locs 0 0 (MQ below (cQi D (wG g cA t s y d q k r c o m) A u) (#[.ref (g 28), .int x1] : Array Value) S0 0 0 A) (F0 MM 0 ls []) from main _ _ _ hP hD hS hl
  intro H locs ls hP hD hS hl
  refine lv_iload_n hx hb dX11_stack_0 rfl (lv_at hl 1 rfl) ?_
  refine lv_if_lt (tgt := 18) hx hb dX11_stack_1 (by decide) (fun c1 => ?_) (fun c1 => ?_)
  · have hE := if_t c1 hE
    exact w18  s H locs ls hP hD hS (lv_sub hl [] rfl) hE
  · have hE := if_f c1 hE
    refine lv_iload_n hx hb dX11_stack_4 rfl (lv_at hl 1 rfl) ?_
    refine lv_aload_n hx hb dX11_stack_5 rfl (lv_at hl 0 rfl) ?_
    refine va_get (D := D) (ci := 9) (v := .ref (g 0)) (C := RX11) (T := TX11) (N := 1) hx hb hts inX11 hown hK hP 28 rfl rfl 0 (by decide) k0 (fun _ h9 => h9) rfl dX11_stack_6 ?_
    refine va_getN (D := D) (ci := 2) (v := .ref (g 4)) (C := RX3) (T := TX3) (N := 14) hx hb hts inX3 hown hK hP 0 rfl rfl 1 (by decide) (k2 _) (fun _ h9 => h9) rfl dX11_stack_9 ?_
    refine va_getN (D := D) (ci := 7) (v := .int s.1) (C := RX8) (T := TX8) (N := 3) hx hb hts inX8 hown hK hP 4 rfl rfl 2 (by decide) (k4 _) (fun _ h9 => h9) rfl dX11_stack_12 ?_
    refine lv_icmp_lt (tgt := 28) hx hb dX11_stack_15 (by decide) (fun c2 => ?_) (fun c2 => ?_)
    · have hE := if_t c2 hE
      refine lv_aload_n hx hb dX11_stack_28 rfl (lv_at hl 0 rfl) ?_
      refine va_get (D := D) (ci := 9) (v := .ref (g 0)) (C := RX11) (T := TX11) (N := 1) hx hb hts inX11 hown hK hP 28 rfl rfl 0 (by decide) k0 (fun _ h9 => h9) rfl dX11_stack_29 ?_
      refine va_getN (D := D) (ci := 2) (v := .ref (g 4)) (C := RX3) (T := TX3) (N := 14) hx hb hts inX3 hown hK hP 0 rfl rfl 1 (by decide) (k2 _) (fun _ h9 => h9) rfl dX11_stack_32 ?_
      refine va_getN (D := D) (ci := 7) (v := .ref (g 5)) (C := RX8) (T := TX8) (N := 3) hx hb hts inX8 hown hK hP 4 rfl rfl 0 (by decide) (k6 _) (fun _ h9 => h9) rfl dX11_stack_35 ?_
      refine lv_iload_n hx hb dX11_stack_38 rfl (lv_at hl 1 rfl) ?_
      have ⟨c3, hE⟩ := ck_some hE
      refine va_iald hx hb hK hP 5 0 rfl rfl c3 dX11_stack_39 ?_
      obtain rfl := Option.some.inj hE
      exact rt_i hx hb hr hP hS rfl hlocks dX11_stack_40
    · have hE := if_f c2 hE
      exact w18  s H locs ls hP hD hS (lv_sub hl [] rfl) hE
def tb_X11_stack_18 (s : tR) : Option (Int32) := some 1
def t_X11_stack (x1 : Int32) (s : tR) : Option (Int32) := if x1 < 0 then (tb_X11_stack_18 s) else (if x1 < s.1 then (ck (¬ (x1 < 0 ∨ 30 ≤ x1.toNatClampNeg)) (none)) else (tb_X11_stack_18 s))
set_option maxHeartbeats 4000000 in
set_option maxRecDepth 100000 in
theorem x_X11_stack (l : Launch) (hst : l.stackTraces = false) (D : va_G) (cA : Nat → ClassId) (ad adK adV : Nat → Nat) (tA tS : Nat) (sa : Nat → Nat) (g : Nat → Nat) (sz : Nat) (x1 : Int32) (t : tT) (s : tR) (y : tY) (d : tD) (q : tP) (k : tK) (r : tR) (c : tC) (o : tO) (m : tM) (u : Int32) (hE : t_X11_stack x1 s = some u) : vx_Met l yX11_stack wsX11_stack ({ frames := 6, cells := 1, slots := 6, locals := 82 }) (va_Pc [.ref (g 28), .int x1] (PRE D cA (wG g cA t s y d q k r c o m) sz (fun U => SX ad adK adV tA tS (va_A (wG g cA t s y d q k r c o m) sz) U U.heap ∧ EX sa (va_A (wG g cA t s y d q k r c o m) sz) U U.heap))) (va_Qi (fun (_ : Int32) (_ : Unit) => False) (fun _ _ => True) (va_A (wG g cA t s y d q k r c o m) sz)) (vx_X (fun (_ : Unit) => True) (fun E _ TT => E = exN u ∧ va_P D vwCl (wG g cA t s y d q k r c o m) TT.heap) (va_A (wG g cA t s y d q k r c o m) sz)) 1 6 (va_A (wG g cA t s y d q k r c o m) sz) := by
  refine vx_ofW (cc := cX11_stack) (maxL := 2) (ret := (some .int)) (by decide) rfl ?_
  intro PP EE S0 MM args below meth CC S1 B hml htb hv
  obtain ⟨rfl, hsz, hP, hK, hD0, hX, hEX⟩ := hv
  have hx := B.exec
  have hb := B.bytes
  have hr := B.returns
  have hts := atoms_spec (ws := wsX11_stack) B.pre
  have hown : S0.vm.findClass RX11 = some MM.cls := findClass_of_methodNamed B.named
  have hlocks := B.notSynchronized
  subst hsz
  have hD := hD0.self (sz := S0.heap.size)
  have hX : SX ad adK adV tA tS (va_A (wG g cA t s y d q k r c o m) S0.heap.size) S0 S0.heap := hX
  have hEX : EX sa (va_A (wG g cA t s y d q k r c o m) S0.heap.size) S0 S0.heap := hEX
  generalize hAe : va_A (wG g cA t s y d q k r c o m) S0.heap.size = A at hD hX hEX ⊢
  have hA : ∀ q : Nat, S0.heap.size ≤ q → A q := fun q h => by rw [← hAe]; exact Or.inr h
  have hS : va_S A S0.heap S0.heap [] := va_S.rf
  have k0 := hts (.fieldLink RX11 10 "WordForge" "machine" "LWordForge$Machine;") (List.mem_of_getElem? (i := 3) rfl)
  have inX11 : ∀ w ∈ wsX110, w ∈ wsX11_stack := fun _ h => List.mem_cons_of_mem _ (List.mem_append_left _ (List.mem_append_left _ (List.mem_append_left _ (List.mem_append_right _ h))))
  have k2 := hX.nest (.fieldLinkNest RX11 56 "WordForge$Machine" "stack" "LWordForge$Row;" "WordForge") (List.mem_of_getElem? (i := 30) rfl)
  have inX3 : ∀ w ∈ wsX30, w ∈ wsX11_stack := fun _ h => List.mem_cons_of_mem _ (List.mem_append_left _ (List.mem_append_left _ (List.mem_append_right _ h)))
  have k4 := hX.nest (.fieldLinkNest RX11 60 "WordForge$Row" "size" "I" "WordForge") (List.mem_of_getElem? (i := 3) rfl)
  have inX8 : ∀ w ∈ wsX80, w ∈ wsX11_stack := fun _ h => List.mem_cons_of_mem _ (List.mem_append_left _ (List.mem_append_right _ h))
  have k6 := hX.nest (.fieldLinkNest RX11 65 "WordForge$Row" "numbers" "[I" "WordForge") (List.mem_of_getElem? (i := 1) rfl)
  have k7 := hts (.classLink RX11 47 "java/lang/IndexOutOfBoundsException") (List.mem_of_getElem? (i := 1) rfl)
  have k8 := hts (.initialized "java/lang/IndexOutOfBoundsException") (List.mem_of_getElem? (i := 2) rfl)
  have hl := lv_entry ([.ref (g 28), .int x1]) (n := 2) (Nat.le_of_ble_eq_true rfl)
  rw [lg_entry_eq]
  generalize (lg_sl ([.ref (g 28), .int x1]) ++ List.replicate (2 - (lg_sl ([.ref (g 28), .int x1])).length) Slot.unset).toArray = ls at hl ⊢
  have hl : lv_has ls 2 [(0, .ref (g 28)), (1, .int x1)] := hl
  have w18 : ∀ (s : tR) (H : Heap) (locs : List Loc) (ls : Array Slot), va_P D vwCl (wG g cA t s y d q k r c o m) H → va_D A (wG g cA t s y d q k r c o m) → va_S A S0.heap H locs → lv_has ls 2 [] → tb_X11_stack_18  s = some u → W PP l EE (headSpec wsX11_stack ({ frames := 6, cells := 1, slots := 6, locals := 82 })).room S0 MM (#[.ref (g 28), .int x1] : Array Value) below meth CC H locs 0 0 (vx_MQ below (va_Qi (fun (_ : Int32) (_ : Unit) => False) (fun _ _ => True) A) (vx_X (fun (_ : Unit) => True) (fun E _ TT => E = exN u ∧ va_P D vwCl (wG g cA t s y d q k r c o m) TT.heap) A) (#[.ref (g 28), .int x1] : Array Value) S0 1 6 A) (F0 MM 18 ls []) := by
    intro s
    intro H locs ls hP hD hS hl hE
    unfold tb_X11_stack_18 at hE
    obtain rfl := Option.some.inj hE
    have hat : ∀ w ∈ vx_atS RX11 51 "java/lang/IndexOutOfBoundsException" ["java/lang/RuntimeException", "java/lang/Exception"], w.before ((#[.ref (g 28), .int x1] : Array Value)) S0 = true := vx_hat (B := [.declares (Bundle.initS "java/lang/RuntimeException"), .declares (Bundle.initS "java/lang/Exception"), .declares (Bundle.initS Bundle.tN), .castable "java/lang/IndexOutOfBoundsException" "java/lang/IndexOutOfBoundsException"]) (fun w h => hts w (List.mem_cons_of_mem _ (List.mem_append_right _ h))) (fun w h => by rw [show (vx_atS RX11 51 "java/lang/IndexOutOfBoundsException" ["java/lang/RuntimeException", "java/lang/Exception"]).filter (fun w => !goodWord w) = [.declares (Bundle.initS "java/lang/RuntimeException"), .declares (Bundle.initS "java/lang/Exception"), .declares (Bundle.initS Bundle.tN), .castable "java/lang/IndexOutOfBoundsException" "java/lang/IndexOutOfBoundsException"] by decide +kernel] at h; exact h) (vx_c (va_Nw.use rfl (hEX.2.2.2.1 _ (List.mem_of_getElem? (i := 0) rfl))) (vx_c (va_Nw.use rfl (hEX.2.2.2.1 _ (List.mem_of_getElem? (i := 1) rfl))) (vx_c (va_Nw.use rfl (hEX.2.2.2.1 _ (List.mem_of_getElem? (i := 2) rfl))) (vx_c (va_Nw.use rfl (hEX.2.2.2.1 _ (List.mem_of_getElem? (i := 3) rfl))) vx_n))))
    refine vx_throwS (own := RX11) (cls := "java/lang/IndexOutOfBoundsException") (text := "no such number on the stack") (names := ["java/lang/RuntimeException", "java/lang/Exception"]) (ik := 47) (is := 63) (ic := 51) (sa := sa 63) hx hb hst hown (by decide +kernel) (by decide +kernel) k7 k8 (hEX.1 (63, "no such number on the stack") (List.mem_of_getElem? (i := 2) rfl)) hat (List.all_eq_true.mp (by decide +kernel)) hEX.2.1 hEX.2.2.1 hS (hl.1.trans hml.symm) dX11_stack_18 dX11_stack_21 dX11_stack_22 dX11_stack_24 dX11_stack_27 (fun x h => (htb x h).elim) (by decide) (by decide) (by decide) (by decide) hlocks (fun TT hvm hz hk => ⟨(), trivial, ⟨rfl, hP.kept (fun j z hj => hk z.1 (hP j z hj).lt)⟩, Nat.le_trans hS.1 hz, fun z h1 h2 => (hk z (Nat.lt_of_lt_of_le h1 hS.1)).trans (hS.2.1 z h1 h2)⟩) (fun z h => hS.2.2 z h) (by decide) (by decide)
  unfold t_X11_stack at hE
  suffices main : ∀ (H : Heap) (locs : List Loc) (ls : Array Slot), va_P D vwCl (wG g cA t s y d q k r c o m) H → va_D A (wG g cA t s y d q k r c o m) → va_S A S0.heap H locs → lv_has ls 2 [(0, .ref (g 28)), (1, .int x1)] → W PP l EE (headSpec wsX11_stack ({ frames := 6, cells := 1, slots := 6, locals := 82 })).room S0 MM (#[.ref (g 28), .int x1] : Array Value) below meth CC H locs 0 0 (vx_MQ below (va_Qi (fun (_ : Int32) (_ : Unit) => False) (fun _ _ => True) A) (vx_X (fun (_ : Unit) => True) (fun E _ TT => E = exN u ∧ va_P D vwCl (wG g cA t s y d q k r c o m) TT.heap) A) (#[.ref (g 28), .int x1] : Array Value) S0 1 6 A) (F0 MM 0 ls []) from main _ _ _ hP hD hS hl
  intro H locs ls hP hD hS hl
  refine lv_iload_n hx hb dX11_stack_0 rfl (lv_at hl 1 rfl) ?_
  refine lv_if_lt (tgt := 18) hx hb dX11_stack_1 (by decide) (fun c1 => ?_) (fun c1 => ?_)
  · have hE := if_t c1 hE
    exact w18  s H locs ls hP hD hS (lv_sub hl [] rfl) hE
  · have hE := if_f c1 hE
    refine lv_iload_n hx hb dX11_stack_4 rfl (lv_at hl 1 rfl) ?_
    refine lv_aload_n hx hb dX11_stack_5 rfl (lv_at hl 0 rfl) ?_
    refine va_get (D := D) (ci := 9) (v := .ref (g 0)) (C := RX11) (T := TX11) (N := 1) hx hb hts inX11 hown hK hP 28 rfl rfl 0 (by decide) k0 (fun _ h9 => h9) rfl dX11_stack_6 ?_
    refine va_getN (D := D) (ci := 2) (v := .ref (g 4)) (C := RX3) (T := TX3) (N := 14) hx hb hts inX3 hown hK hP 0 rfl rfl 1 (by decide) (k2 _) (fun _ h9 => h9) rfl dX11_stack_9 ?_
    refine va_getN (D := D) (ci := 7) (v := .int s.1) (C := RX8) (T := TX8) (N := 3) hx hb hts inX8 hown hK hP 4 rfl rfl 2 (by decide) (k4 _) (fun _ h9 => h9) rfl dX11_stack_12 ?_
    refine lv_icmp_lt (tgt := 28) hx hb dX11_stack_15 (by decide) (fun c2 => ?_) (fun c2 => ?_)
    · have hE := if_t c2 hE
      refine lv_aload_n hx hb dX11_stack_28 rfl (lv_at hl 0 rfl) ?_
      refine va_get (D := D) (ci := 9) (v := .ref (g 0)) (C := RX11) (T := TX11) (N := 1) hx hb hts inX11 hown hK hP 28 rfl rfl 0 (by decide) k0 (fun _ h9 => h9) rfl dX11_stack_29 ?_
      refine va_getN (D := D) (ci := 2) (v := .ref (g 4)) (C := RX3) (T := TX3) (N := 14) hx hb hts inX3 hown hK hP 0 rfl rfl 1 (by decide) (k2 _) (fun _ h9 => h9) rfl dX11_stack_32 ?_
      refine va_getN (D := D) (ci := 7) (v := .ref (g 5)) (C := RX8) (T := TX8) (N := 3) hx hb hts inX8 hown hK hP 4 rfl rfl 0 (by decide) (k6 _) (fun _ h9 => h9) rfl dX11_stack_35 ?_
      refine lv_iload_n hx hb dX11_stack_38 rfl (lv_at hl 1 rfl) ?_
      have ⟨c3, hE⟩ := ck_some hE
      refine va_iald hx hb hK hP 5 0 rfl rfl c3 dX11_stack_39 ?_
      exact nomatch hE
    · have hE := if_f c2 hE
      exact w18  s H locs ls hP hD hS (lv_sub hl [] rfl) hE
def f_X11_cell (x1 : Int32) (y : tY) : Option (Int32) := (f_X5_isCell x1).bind (fun u1 => if u1 = 0 then (none) else ((f_X5_at x1 y).bind (fun u4 => some u4)))
set_option maxRecDepth 20000 in
theorem hX11_cell_X5_isCell_73 : GoodIn wsX11_cell (wsV RX11 73 RX5 yX5_isCell wsX5_isCell) := goodIn_r _ [4, 5, 6, 7, 8] rfl (by decide +kernel)
set_option maxRecDepth 20000 in
theorem hX11_cell_X5_at_81 : GoodIn wsX11_cell (wsV RX11 81 RX5 yX5_at wsX5_at) := goodIn_r _ [9, 10, 11, 7, 12, 13, 14, 5, 6, 7, 8, 30, 31] rfl (by decide +kernel)
set_option maxHeartbeats 4000000 in
set_option maxRecDepth 100000 in
theorem c_X11_cell (l : Launch) (D : va_G) (cA : Nat → ClassId) (ad adK adV : Nat → Nat) (tA tS : Nat) (g : Nat → Nat) (sz : Nat) (x1 : Int32) (t : tT) (s : tR) (y : tY) (d : tD) (q : tP) (k : tK) (r : tR) (c : tC) (o : tO) (m : tM) (u : Int32) (hE : f_X11_cell x1 y = some u) : Met l yX11_cell wsX11_cell ({ frames := 2, cells := 0, slots := 0, locals := 42 }) (va_Pc [.ref (g 28), .int x1] (PRE D cA (wG g cA t s y d q k r c o m) sz (fun U => SX ad adK adV tA tS (va_A (wG g cA t s y d q k r c o m) sz) U U.heap))) (cQi D (wG g cA t s y d q k r c o m) (va_A (wG g cA t s y d q k r c o m) sz) u) 0 0 (va_A (wG g cA t s y d q k r c o m) sz) := by
  refine Met.ofW (cc := cX11_cell) (maxL := 2) (ret := (some .int)) (by decide) rfl ?_
  intro PP EE S0 MM args below meth CC S1 B hml hv
  obtain ⟨rfl, hsz, hP, hK, hD0, hX⟩ := hv
  have hx := B.exec
  have hb := B.bytes
  have hr := B.returns
  have hts := atoms_spec (ws := wsX11_cell) B.pre
  have hown : S0.vm.findClass RX11 = some MM.cls := findClass_of_methodNamed B.named
  have hlocks := B.notSynchronized
  subst hsz
  have hD := hD0.self (sz := S0.heap.size)
  have hX : SX ad adK adV tA tS (va_A (wG g cA t s y d q k r c o m) S0.heap.size) S0 S0.heap := hX
  generalize hAe : va_A (wG g cA t s y d q k r c o m) S0.heap.size = A at hD hX ⊢
  have hA : ∀ q : Nat, S0.heap.size ≤ q → A q := fun q h => by rw [← hAe]; exact Or.inr h
  have hS : va_S A S0.heap S0.heap [] := va_S.rf
  have k0 := hts (.fieldLink RX11 10 "WordForge" "machine" "LWordForge$Machine;") (List.mem_of_getElem? (i := 3) rfl)
  have inX11 : ∀ w ∈ wsX110, w ∈ wsX11_cell := fun _ h => List.mem_cons_of_mem _ (List.mem_append_left _ (List.mem_append_left _ (List.mem_append_left _ (List.mem_append_right _ h))))
  have k2 := hX.nest (.fieldLinkNest RX11 69 "WordForge$Machine" "memory" "LWordForge$Memory;" "WordForge") (List.mem_of_getElem? (i := 32) rfl)
  have inX3 : ∀ w ∈ wsX30, w ∈ wsX11_cell := fun _ h => List.mem_cons_of_mem _ (List.mem_append_left _ (List.mem_append_left _ (List.mem_append_right _ h)))
  have hl := lv_entry ([.ref (g 28), .int x1]) (n := 2) (Nat.le_of_ble_eq_true rfl)
  rw [lg_entry_eq]
  generalize (lg_sl ([.ref (g 28), .int x1]) ++ List.replicate (2 - (lg_sl ([.ref (g 28), .int x1])).length) Slot.unset).toArray = ls at hl ⊢
  have hl : lv_has ls 2 [(0, .ref (g 28)), (1, .int x1)] := hl
  unfold f_X11_cell at hE
  suffices main : ∀ (H : Heap) (locs : List Loc) (ls : Array Slot), va_P D vwCl (wG g cA t s y d q k r c o m) H → va_D A (wG g cA t s y d q k r c o m) → va_S A S0.heap H locs → lv_has ls 2 [(0, .ref (g 28)), (1, .int x1)] → W PP l EE (headSpec wsX11_cell ({ frames := 2, cells := 0, slots := 0, locals := 42 })).room S0 MM (#[.ref (g 28), .int x1] : Array Value) below meth CC H locs 0 0 (MQ below (cQi D (wG g cA t s y d q k r c o m) A u) (#[.ref (g 28), .int x1] : Array Value) S0 0 0 A) (F0 MM 0 ls []) from main _ _ _ hP hD hS hl
  intro H locs ls hP hD hS hl
  refine lv_aload_n hx hb dX11_cell_0 rfl (lv_at hl 0 rfl) ?_
  refine va_get (D := D) (ci := 9) (v := .ref (g 0)) (C := RX11) (T := TX11) (N := 1) hx hb hts inX11 hown hK hP 28 rfl rfl 0 (by decide) k0 (fun _ h9 => h9) rfl dX11_cell_1 ?_
  refine va_getN (D := D) (ci := 2) (v := .ref (g 6)) (C := RX3) (T := TX3) (N := 14) hx hb hts inX3 hown hK hP 0 rfl rfl 3 (by decide) (k2 _) (fun _ h9 => h9) rfl dX11_cell_4 ?_
  refine lv_iload_n hx hb dX11_cell_7 rfl (lv_at hl 1 rfl) ?_
  obtain ⟨u1, h2, hE⟩ := bd_some hE
  refine cn_i (As := [.int x1]) (rest := []) (r := u1) (w0 := (wG g cA t s y d q k r c o m)) (N := 29) ⟨hx, hb, hml, hown, hts⟩ (c_X5_isCell l D cA (g 6) (g 7) H.size x1 y u1 h2) (cwV 1 hts hX11_cell_X5_isCell_73 rfl rfl rfl (by decide +kernel) ⟨Nat.le_of_ble_eq_true rfl, Nat.le_of_ble_eq_true rfl⟩) rfl hl.1 rfl (Nat.le_of_ble_eq_true rfl) dX11_cell_8 ⟨Nat.zero_le _, Nat.zero_le _⟩ hK hP hD hS hA (va_recv hK hP (ci := 4) (q0 := 6) rfl rfl) [6, 7] [0, 1, 2, 3, 4, 5, 8, 9, 10, 11, 12, 13, 14, 15, 16, 17, 18, 19, 20, 21, 22, 23, 24, 25, 26, 27, 28] (wG g cA t s y d q k r c o m) rfl (by decide +kernel) rfl (wr := List.filterMap (fun i => (wG g cA t s y d q k r c o m)[i]?) [0, 1, 2, 3, 4, 5, 8, 9, 10, 11, 12, 13, 14, 15, 16, 17, 18, 19, 20, 21, 22, 23, 24, 25, 26, 27, 28]) rfl rfl (by decide +kernel) rfl (by decide +kernel) [g 0, g 1, g 2, g 3, g 4, g 5, g 6, g 7, g 8, g 9, g 10, g 11, g 12, g 13, g 14, g 15, g 16, g 17, g 18, g 19, g 20, g 21, g 22, g 23, g 24, g 25, g 26, g 27, g 28] rfl rfl (fun _ _ _ _ h => h) (fun _ _ _ => trivial) (fun H locs hP hD hS => ?_)
  have hP : va_P D vwCl (wG g cA t s y d q k r c o m) H := hP
  have hD : va_D A (wG g cA t s y d q k r c o m) := hD
  refine lv_if_ne (tgt := 24) hx hb dX11_cell_11 (by decide) (fun c3 => ?_) (fun c3 => ?_)
  · have hE := if_f c3 hE
    refine lv_aload_n hx hb dX11_cell_24 rfl (lv_at hl 0 rfl) ?_
    refine va_get (D := D) (ci := 9) (v := .ref (g 0)) (C := RX11) (T := TX11) (N := 1) hx hb hts inX11 hown hK hP 28 rfl rfl 0 (by decide) k0 (fun _ h9 => h9) rfl dX11_cell_25 ?_
    refine va_getN (D := D) (ci := 2) (v := .ref (g 6)) (C := RX3) (T := TX3) (N := 14) hx hb hts inX3 hown hK hP 0 rfl rfl 3 (by decide) (k2 _) (fun _ h9 => h9) rfl dX11_cell_28 ?_
    refine lv_iload_n hx hb dX11_cell_31 rfl (lv_at hl 1 rfl) ?_
    obtain ⟨u4, h5, hE⟩ := bd_some hE
    refine cn_i (As := [.int x1]) (rest := []) (r := u4) (w0 := (wG g cA t s y d q k r c o m)) (N := 29) ⟨hx, hb, hml, hown, hts⟩ (c_X5_at l D cA (g 6) (g 7) H.size x1 y u4 h5) (cwV 1 hts hX11_cell_X5_at_81 rfl rfl rfl (by decide +kernel) ⟨Nat.le_of_ble_eq_true rfl, Nat.le_of_ble_eq_true rfl⟩) rfl hl.1 rfl (Nat.le_of_ble_eq_true rfl) dX11_cell_32 ⟨Nat.zero_le _, Nat.zero_le _⟩ hK hP hD hS hA (va_recv hK hP (ci := 4) (q0 := 6) rfl rfl) [6, 7] [0, 1, 2, 3, 4, 5, 8, 9, 10, 11, 12, 13, 14, 15, 16, 17, 18, 19, 20, 21, 22, 23, 24, 25, 26, 27, 28] (wG g cA t s y d q k r c o m) rfl (by decide +kernel) rfl (wr := List.filterMap (fun i => (wG g cA t s y d q k r c o m)[i]?) [0, 1, 2, 3, 4, 5, 8, 9, 10, 11, 12, 13, 14, 15, 16, 17, 18, 19, 20, 21, 22, 23, 24, 25, 26, 27, 28]) rfl rfl (by decide +kernel) rfl (by decide +kernel) [g 0, g 1, g 2, g 3, g 4, g 5, g 6, g 7, g 8, g 9, g 10, g 11, g 12, g 13, g 14, g 15, g 16, g 17, g 18, g 19, g 20, g 21, g 22, g 23, g 24, g 25, g 26, g 27, g 28] rfl rfl (fun _ _ _ _ h => h) (fun _ _ _ => trivial) (fun H locs hP hD hS => ?_)
    have hP : va_P D vwCl (wG g cA t s y d q k r c o m) H := hP
    have hD : va_D A (wG g cA t s y d q k r c o m) := hD
    obtain rfl := Option.some.inj hE
    exact rt_i hx hb hr hP hS rfl hlocks dX11_cell_35
  · have hE := if_t c3 hE
    exact nomatch hE
def t_X11_cell (x1 : Int32) (y : tY) : Option (Int32) := (f_X5_isCell x1).bind (fun u1 => if u1 = 0 then (some 1) else ((f_X5_at x1 y).bind (fun u4 => none)))
set_option maxHeartbeats 4000000 in
set_option maxRecDepth 100000 in
theorem x_X11_cell (l : Launch) (hst : l.stackTraces = false) (D : va_G) (cA : Nat → ClassId) (ad adK adV : Nat → Nat) (tA tS : Nat) (sa : Nat → Nat) (g : Nat → Nat) (sz : Nat) (x1 : Int32) (t : tT) (s : tR) (y : tY) (d : tD) (q : tP) (k : tK) (r : tR) (c : tC) (o : tO) (m : tM) (u : Int32) (hE : t_X11_cell x1 y = some u) : vx_Met l yX11_cell wsX11_cell ({ frames := 6, cells := 1, slots := 6, locals := 82 }) (va_Pc [.ref (g 28), .int x1] (PRE D cA (wG g cA t s y d q k r c o m) sz (fun U => SX ad adK adV tA tS (va_A (wG g cA t s y d q k r c o m) sz) U U.heap ∧ EX sa (va_A (wG g cA t s y d q k r c o m) sz) U U.heap))) (va_Qi (fun (_ : Int32) (_ : Unit) => False) (fun _ _ => True) (va_A (wG g cA t s y d q k r c o m) sz)) (vx_X (fun (_ : Unit) => True) (fun E _ TT => E = exN u ∧ va_P D vwCl (wG g cA t s y d q k r c o m) TT.heap) (va_A (wG g cA t s y d q k r c o m) sz)) 1 6 (va_A (wG g cA t s y d q k r c o m) sz) := by
  refine vx_ofW (cc := cX11_cell) (maxL := 2) (ret := (some .int)) (by decide) rfl ?_
  intro PP EE S0 MM args below meth CC S1 B hml htb hv
  obtain ⟨rfl, hsz, hP, hK, hD0, hX, hEX⟩ := hv
  have hx := B.exec
  have hb := B.bytes
  have hr := B.returns
  have hts := atoms_spec (ws := wsX11_cell) B.pre
  have hown : S0.vm.findClass RX11 = some MM.cls := findClass_of_methodNamed B.named
  have hlocks := B.notSynchronized
  subst hsz
  have hD := hD0.self (sz := S0.heap.size)
  have hX : SX ad adK adV tA tS (va_A (wG g cA t s y d q k r c o m) S0.heap.size) S0 S0.heap := hX
  have hEX : EX sa (va_A (wG g cA t s y d q k r c o m) S0.heap.size) S0 S0.heap := hEX
  generalize hAe : va_A (wG g cA t s y d q k r c o m) S0.heap.size = A at hD hX hEX ⊢
  have hA : ∀ q : Nat, S0.heap.size ≤ q → A q := fun q h => by rw [← hAe]; exact Or.inr h
  have hS : va_S A S0.heap S0.heap [] := va_S.rf
  have k0 := hts (.fieldLink RX11 10 "WordForge" "machine" "LWordForge$Machine;") (List.mem_of_getElem? (i := 3) rfl)
  have inX11 : ∀ w ∈ wsX110, w ∈ wsX11_cell := fun _ h => List.mem_cons_of_mem _ (List.mem_append_left _ (List.mem_append_left _ (List.mem_append_left _ (List.mem_append_right _ h))))
  have k2 := hX.nest (.fieldLinkNest RX11 69 "WordForge$Machine" "memory" "LWordForge$Memory;" "WordForge") (List.mem_of_getElem? (i := 32) rfl)
  have inX3 : ∀ w ∈ wsX30, w ∈ wsX11_cell := fun _ h => List.mem_cons_of_mem _ (List.mem_append_left _ (List.mem_append_left _ (List.mem_append_right _ h)))
  have k4 := hts (.classLink RX11 47 "java/lang/IndexOutOfBoundsException") (List.mem_of_getElem? (i := 1) rfl)
  have k5 := hts (.initialized "java/lang/IndexOutOfBoundsException") (List.mem_of_getElem? (i := 2) rfl)
  have hl := lv_entry ([.ref (g 28), .int x1]) (n := 2) (Nat.le_of_ble_eq_true rfl)
  rw [lg_entry_eq]
  generalize (lg_sl ([.ref (g 28), .int x1]) ++ List.replicate (2 - (lg_sl ([.ref (g 28), .int x1])).length) Slot.unset).toArray = ls at hl ⊢
  have hl : lv_has ls 2 [(0, .ref (g 28)), (1, .int x1)] := hl
  unfold t_X11_cell at hE
  suffices main : ∀ (H : Heap) (locs : List Loc) (ls : Array Slot), va_P D vwCl (wG g cA t s y d q k r c o m) H → va_D A (wG g cA t s y d q k r c o m) → va_S A S0.heap H locs → lv_has ls 2 [(0, .ref (g 28)), (1, .int x1)] → W PP l EE (headSpec wsX11_cell ({ frames := 6, cells := 1, slots := 6, locals := 82 })).room S0 MM (#[.ref (g 28), .int x1] : Array Value) below meth CC H locs 0 0 (vx_MQ below (va_Qi (fun (_ : Int32) (_ : Unit) => False) (fun _ _ => True) A) (vx_X (fun (_ : Unit) => True) (fun E _ TT => E = exN u ∧ va_P D vwCl (wG g cA t s y d q k r c o m) TT.heap) A) (#[.ref (g 28), .int x1] : Array Value) S0 1 6 A) (F0 MM 0 ls []) from main _ _ _ hP hD hS hl
  intro H locs ls hP hD hS hl
  refine lv_aload_n hx hb dX11_cell_0 rfl (lv_at hl 0 rfl) ?_
  refine va_get (D := D) (ci := 9) (v := .ref (g 0)) (C := RX11) (T := TX11) (N := 1) hx hb hts inX11 hown hK hP 28 rfl rfl 0 (by decide) k0 (fun _ h9 => h9) rfl dX11_cell_1 ?_
  refine va_getN (D := D) (ci := 2) (v := .ref (g 6)) (C := RX3) (T := TX3) (N := 14) hx hb hts inX3 hown hK hP 0 rfl rfl 3 (by decide) (k2 _) (fun _ h9 => h9) rfl dX11_cell_4 ?_
  refine lv_iload_n hx hb dX11_cell_7 rfl (lv_at hl 1 rfl) ?_
  obtain ⟨u1, h2, hE⟩ := bd_some hE
  refine cn_i (As := [.int x1]) (rest := []) (r := u1) (w0 := (wG g cA t s y d q k r c o m)) (N := 29) ⟨hx, hb, hml, hown, hts⟩ (c_X5_isCell l D cA (g 6) (g 7) H.size x1 y u1 h2) (cwV 1 hts hX11_cell_X5_isCell_73 rfl rfl rfl (by decide +kernel) ⟨Nat.le_of_ble_eq_true rfl, Nat.le_of_ble_eq_true rfl⟩) rfl hl.1 rfl (Nat.le_of_ble_eq_true rfl) dX11_cell_8 ⟨Nat.zero_le _, Nat.zero_le _⟩ hK hP hD hS hA (va_recv hK hP (ci := 4) (q0 := 6) rfl rfl) [6, 7] [0, 1, 2, 3, 4, 5, 8, 9, 10, 11, 12, 13, 14, 15, 16, 17, 18, 19, 20, 21, 22, 23, 24, 25, 26, 27, 28] (wG g cA t s y d q k r c o m) rfl (by decide +kernel) rfl (wr := List.filterMap (fun i => (wG g cA t s y d q k r c o m)[i]?) [0, 1, 2, 3, 4, 5, 8, 9, 10, 11, 12, 13, 14, 15, 16, 17, 18, 19, 20, 21, 22, 23, 24, 25, 26, 27, 28]) rfl rfl (by decide +kernel) rfl (by decide +kernel) [g 0, g 1, g 2, g 3, g 4, g 5, g 6, g 7, g 8, g 9, g 10, g 11, g 12, g 13, g 14, g 15, g 16, g 17, g 18, g 19, g 20, g 21, g 22, g 23, g 24, g 25, g 26, g 27, g 28] rfl rfl (fun _ _ _ _ h => h) (fun _ _ _ => trivial) (fun H locs hP hD hS => ?_)
  have hP : va_P D vwCl (wG g cA t s y d q k r c o m) H := hP
  have hD : va_D A (wG g cA t s y d q k r c o m) := hD
  refine lv_if_ne (tgt := 24) hx hb dX11_cell_11 (by decide) (fun c3 => ?_) (fun c3 => ?_)
  · have hE := if_f c3 hE
    refine lv_aload_n hx hb dX11_cell_24 rfl (lv_at hl 0 rfl) ?_
    refine va_get (D := D) (ci := 9) (v := .ref (g 0)) (C := RX11) (T := TX11) (N := 1) hx hb hts inX11 hown hK hP 28 rfl rfl 0 (by decide) k0 (fun _ h9 => h9) rfl dX11_cell_25 ?_
    refine va_getN (D := D) (ci := 2) (v := .ref (g 6)) (C := RX3) (T := TX3) (N := 14) hx hb hts inX3 hown hK hP 0 rfl rfl 3 (by decide) (k2 _) (fun _ h9 => h9) rfl dX11_cell_28 ?_
    refine lv_iload_n hx hb dX11_cell_31 rfl (lv_at hl 1 rfl) ?_
    obtain ⟨u4, h5, hE⟩ := bd_some hE
    refine cn_i (As := [.int x1]) (rest := []) (r := u4) (w0 := (wG g cA t s y d q k r c o m)) (N := 29) ⟨hx, hb, hml, hown, hts⟩ (c_X5_at l D cA (g 6) (g 7) H.size x1 y u4 h5) (cwV 1 hts hX11_cell_X5_at_81 rfl rfl rfl (by decide +kernel) ⟨Nat.le_of_ble_eq_true rfl, Nat.le_of_ble_eq_true rfl⟩) rfl hl.1 rfl (Nat.le_of_ble_eq_true rfl) dX11_cell_32 ⟨Nat.zero_le _, Nat.zero_le _⟩ hK hP hD hS hA (va_recv hK hP (ci := 4) (q0 := 6) rfl rfl) [6, 7] [0, 1, 2, 3, 4, 5, 8, 9, 10, 11, 12, 13, 14, 15, 16, 17, 18, 19, 20, 21, 22, 23, 24, 25, 26, 27, 28] (wG g cA t s y d q k r c o m) rfl (by decide +kernel) rfl (wr := List.filterMap (fun i => (wG g cA t s y d q k r c o m)[i]?) [0, 1, 2, 3, 4, 5, 8, 9, 10, 11, 12, 13, 14, 15, 16, 17, 18, 19, 20, 21, 22, 23, 24, 25, 26, 27, 28]) rfl rfl (by decide +kernel) rfl (by decide +kernel) [g 0, g 1, g 2, g 3, g 4, g 5, g 6, g 7, g 8, g 9, g 10, g 11, g 12, g 13, g 14, g 15, g 16, g 17, g 18, g 19, g 20, g 21, g 22, g 23, g 24, g 25, g 26, g 27, g 28] rfl rfl (fun _ _ _ _ h => h) (fun _ _ _ => trivial) (fun H locs hP hD hS => ?_)
    have hP : va_P D vwCl (wG g cA t s y d q k r c o m) H := hP
    have hD : va_D A (wG g cA t s y d q k r c o m) := hD
    exact nomatch hE
  · have hE := if_t c3 hE
    obtain rfl := Option.some.inj hE
    have hat : ∀ w ∈ vx_atS RX11 51 "java/lang/IndexOutOfBoundsException" ["java/lang/RuntimeException", "java/lang/Exception"], w.before ((#[.ref (g 28), .int x1] : Array Value)) S0 = true := vx_hat (B := [.declares (Bundle.initS "java/lang/RuntimeException"), .declares (Bundle.initS "java/lang/Exception"), .declares (Bundle.initS Bundle.tN), .castable "java/lang/IndexOutOfBoundsException" "java/lang/IndexOutOfBoundsException"]) (fun w h => hts w (List.mem_cons_of_mem _ (List.mem_append_right _ h))) (fun w h => by rw [show (vx_atS RX11 51 "java/lang/IndexOutOfBoundsException" ["java/lang/RuntimeException", "java/lang/Exception"]).filter (fun w => !goodWord w) = [.declares (Bundle.initS "java/lang/RuntimeException"), .declares (Bundle.initS "java/lang/Exception"), .declares (Bundle.initS Bundle.tN), .castable "java/lang/IndexOutOfBoundsException" "java/lang/IndexOutOfBoundsException"] by decide +kernel] at h; exact h) (vx_c (va_Nw.use rfl (hEX.2.2.2.1 _ (List.mem_of_getElem? (i := 0) rfl))) (vx_c (va_Nw.use rfl (hEX.2.2.2.1 _ (List.mem_of_getElem? (i := 1) rfl))) (vx_c (va_Nw.use rfl (hEX.2.2.2.1 _ (List.mem_of_getElem? (i := 2) rfl))) (vx_c (va_Nw.use rfl (hEX.2.2.2.1 _ (List.mem_of_getElem? (i := 3) rfl))) vx_n))))
    refine vx_throwS (own := RX11) (cls := "java/lang/IndexOutOfBoundsException") (text := "no such cell") (names := ["java/lang/RuntimeException", "java/lang/Exception"]) (ik := 47) (is := 79) (ic := 51) (sa := sa 79) hx hb hst hown (by decide +kernel) (by decide +kernel) k4 k5 (hEX.1 (79, "no such cell") (List.mem_of_getElem? (i := 3) rfl)) hat (List.all_eq_true.mp (by decide +kernel)) hEX.2.1 hEX.2.2.1 hS (hl.1.trans hml.symm) dX11_cell_14 dX11_cell_17 dX11_cell_18 dX11_cell_20 dX11_cell_23 (fun x h => (htb x h).elim) (by decide) (by decide) (by decide) (by decide) hlocks (fun TT hvm hz hk => ⟨(), trivial, ⟨rfl, hP.kept (fun j z hj => hk z.1 (hP j z hj).lt)⟩, Nat.le_trans hS.1 hz, fun z h1 h2 => (hk z (Nat.lt_of_lt_of_le h1 hS.1)).trans (hS.2.1 z h1 h2)⟩) (fun z h => hS.2.2 z h) (by decide) (by decide)
def b_X11_word_20 (d : tD) : Option (Int32) := none
def f_X11_word (x1 : Int32) (x2 : Int32) (d : tD) : Option (Int32) := if x1 < 0 then (b_X11_word_20 d) else (if x1 < d.1 then (if x2 = 0 then (ck (¬ (x1 < 0 ∨ 40 ≤ x1.toNatClampNeg)) (some (d.2.2.2.1 x1.toNatClampNeg))) else if x2 = 1 then (ck (¬ (x1 < 0 ∨ 40 ≤ x1.toNatClampNeg)) (some (d.2.2.2.2.1 x1.toNatClampNeg))) else if x2 = 2 then (ck (¬ (x1 < 0 ∨ 40 ≤ x1.toNatClampNeg)) (if (d.2.2.2.2.2.2.1 x1.toNatClampNeg) = 0 then (some 0) else (some 1))) else if x2 = 3 then (ck (¬ (x1 < 0 ∨ 40 ≤ x1.toNatClampNeg)) (some (d.2.2.2.2.2.1 x1.toNatClampNeg))) else if x2 = 4 then (ck (¬ (x1 < 0 ∨ 40 ≤ x1.toNatClampNeg)) (if (d.2.2.2.2.2.2.2 x1.toNatClampNeg) = 0 then (some 0) else (some 1))) else (none)) else (b_X11_word_20 d))
set_option maxHeartbeats 4000000 in
set_option maxRecDepth 100000 in
theorem c_X11_word (l : Launch) (D : va_G) (cA : Nat → ClassId) (ad adK adV : Nat → Nat) (tA tS : Nat) (g : Nat → Nat) (sz : Nat) (x1 : Int32) (x2 : Int32) (t : tT) (s : tR) (y : tY) (d : tD) (q : tP) (k : tK) (r : tR) (c : tC) (o : tO) (m : tM) (u : Int32) (hE : f_X11_word x1 x2 d = some u) : Met l yX11_word wsX11_word ({ frames := 0, cells := 0, slots := 0, locals := 0 }) (va_Pc [.ref (g 28), .int x1, .int x2] (PRE D cA (wG g cA t s y d q k r c o m) sz (fun U => SX ad adK adV tA tS (va_A (wG g cA t s y d q k r c o m) sz) U U.heap))) (cQi D (wG g cA t s y d q k r c o m) (va_A (wG g cA t s y d q k r c o m) sz) u) 0 0 (va_A (wG g cA t s y d q k r c o m) sz) := by
  refine Met.ofW (cc := cX11_word) (maxL := 4) (ret := (some .int)) (by decide) rfl ?_
  intro PP EE S0 MM args below meth CC S1 B hml hv
  obtain ⟨rfl, hsz, hP, hK, hD0, hX⟩ := hv
  have hx := B.exec
  have hb := B.bytes
  have hr := B.returns
  have hts := atoms_spec (ws := wsX11_word) B.pre
  have hown : S0.vm.findClass RX11 = some MM.cls := findClass_of_methodNamed B.named
  have hlocks := B.notSynchronized
  subst hsz
  have hD := hD0.self (sz := S0.heap.size)
  have hX : SX ad adK adV tA tS (va_A (wG g cA t s y d q k r c o m) S0.heap.size) S0 S0.heap := hX
  generalize hAe : va_A (wG g cA t s y d q k r c o m) S0.heap.size = A at hD hX ⊢
  have hA : ∀ q : Nat, S0.heap.size ≤ q → A q := fun q h => by rw [← hAe]; exact Or.inr h
  have hS : va_S A S0.heap S0.heap [] := va_S.rf
  have k0 := hts (.fieldLink RX11 10 "WordForge" "machine" "LWordForge$Machine;") (List.mem_of_getElem? (i := 5) rfl)
  have inX11 : ∀ w ∈ wsX110, w ∈ wsX11_word := fun _ h => List.mem_cons_of_mem _ (List.mem_append_left _ (List.mem_append_left _ (List.mem_append_left _ (List.mem_append_left _ (List.mem_append_right _ h)))))
  have k2 := hX.nest (.fieldLinkNest RX11 84 "WordForge$Machine" "dictionary" "LWordForge$Dictionary;" "WordForge") (List.mem_of_getElem? (i := 33) rfl)
  have inX3 : ∀ w ∈ wsX30, w ∈ wsX11_word := fun _ h => List.mem_cons_of_mem _ (List.mem_append_left _ (List.mem_append_left _ (List.mem_append_left _ (List.mem_append_right _ h))))
  have k4 := hX.nest (.fieldLinkNest RX11 88 "WordForge$Dictionary" "size" "I" "WordForge") (List.mem_of_getElem? (i := 17) rfl)
  have inX2 : ∀ w ∈ wsX20, w ∈ wsX11_word := fun _ h => List.mem_cons_of_mem _ (List.mem_append_left _ (List.mem_append_left _ (List.mem_append_right _ h)))
  have k6 := hX.nest (.fieldLinkNest RX11 93 "WordForge$Dictionary" "places" "[I" "WordForge") (List.mem_of_getElem? (i := 8) rfl)
  have k7 := hX.nest (.fieldLinkNest RX11 96 "WordForge$Dictionary" "sorts" "[I" "WordForge") (List.mem_of_getElem? (i := 10) rfl)
  have k8 := hX.nest (.fieldLinkNest RX11 99 "WordForge$Dictionary" "immediate" "[Z" "WordForge") (List.mem_of_getElem? (i := 14) rfl)
  have k9 := hX.nest (.fieldLinkNest RX11 103 "WordForge$Dictionary" "behaviours" "[I" "WordForge") (List.mem_of_getElem? (i := 12) rfl)
  have k10 := hX.nest (.fieldLinkNest RX11 106 "WordForge$Dictionary" "finished" "[Z" "WordForge") (List.mem_of_getElem? (i := 15) rfl)
  have hl := lv_entry ([.ref (g 28), .int x1, .int x2]) (n := 4) (Nat.le_of_ble_eq_true rfl)
  rw [lg_entry_eq]
  generalize (lg_sl ([.ref (g 28), .int x1, .int x2]) ++ List.replicate (4 - (lg_sl ([.ref (g 28), .int x1, .int x2])).length) Slot.unset).toArray = ls at hl ⊢
  have hl : lv_has ls 4 [(0, .ref (g 28)), (1, .int x1), (2, .int x2)] := hl
  have w20 : ∀ (d : tD) (H : Heap) (locs : List Loc) (ls : Array Slot), va_P D vwCl (wG g cA t s y d q k r c o m) H → va_D A (wG g cA t s y d q k r c o m) → va_S A S0.heap H locs → lv_has ls 4 [] → b_X11_word_20  d = some u → W PP l EE (headSpec wsX11_word ({ frames := 0, cells := 0, slots := 0, locals := 0 })).room S0 MM (#[.ref (g 28), .int x1, .int x2] : Array Value) below meth CC H locs 0 0 (MQ below (cQi D (wG g cA t s y d q k r c o m) A u) (#[.ref (g 28), .int x1, .int x2] : Array Value) S0 0 0 A) (F0 MM 20 ls []) := by
    intro d
    intro H locs ls hP hD hS hl hE
    unfold b_X11_word_20 at hE
    exact nomatch hE
  unfold f_X11_word at hE
  suffices main : ∀ (H : Heap) (locs : List Loc) (ls : Array Slot), va_P D vwCl (wG g cA t s y d q k r c o m) H → va_D A (wG g cA t s y d q k r c o m) → va_S A S0.heap H locs → lv_has ls 4 [(0, .ref (g 28)), (1, .int x1), (2, .int x2)] → W PP l EE (headSpec wsX11_word ({ frames := 0, cells := 0, slots := 0, locals := 0 })).room S0 MM (#[.ref (g 28), .int x1, .int x2] : Array Value) below meth CC H locs 0 0 (MQ below (cQi D (wG g cA t s y d q k r c o m) A u) (#[.ref (g 28), .int x1, .int x2] : Array Value) S0 0 0 A) (F0 MM 0 ls []) from main _ _ _ hP hD hS hl
  intro H locs ls hP hD hS hl
  refine lv_aload_n hx hb dX11_word_0 rfl (lv_at hl 0 rfl) ?_
  refine va_get (D := D) (ci := 9) (v := .ref (g 0)) (C := RX11) (T := TX11) (N := 1) hx hb hts inX11 hown hK hP 28 rfl rfl 0 (by decide) k0 (fun _ h9 => h9) rfl dX11_word_1 ?_
  refine va_getN (D := D) (ci := 2) (v := .ref (g 8)) (C := RX3) (T := TX3) (N := 14) hx hb hts inX3 hown hK hP 0 rfl rfl 4 (by decide) (k2 _) (fun _ h9 => h9) rfl dX11_word_4 ?_
  refine lv_astore_n (lv' := [(3, .ref (g 8)), (0, .ref (g 28)), (1, .int x1), (2, .int x2)]) hx hb dX11_word_7 rfl hl (by decide) rfl (fun ls hl => ?_)
  refine lv_iload_n hx hb dX11_word_8 rfl (lv_at hl 2 rfl) ?_
  refine lv_if_lt (tgt := 20) hx hb dX11_word_9 (by decide) (fun c1 => ?_) (fun c1 => ?_)
  · have hE := if_t c1 hE
    exact w20  d H locs ls hP hD hS (lv_sub hl [] rfl) hE
  · have hE := if_f c1 hE
    refine lv_iload_n hx hb dX11_word_12 rfl (lv_at hl 2 rfl) ?_
    refine lv_aload_n hx hb dX11_word_13 rfl (lv_at hl 0 rfl) ?_
    refine va_getN (D := D) (ci := 1) (v := .int d.1) (C := RX2) (T := TX2) (N := 8) hx hb hts inX2 hown hK hP 8 rfl rfl 7 (by decide) (k4 _) (fun _ h9 => h9) rfl dX11_word_14 ?_
    refine lv_icmp_lt (tgt := 30) hx hb dX11_word_17 (by decide) (fun c2 => ?_) (fun c2 => ?_)
    · have hE := if_t c2 hE
      refine lv_iload_n hx hb dX11_word_30 rfl (lv_at hl 3 rfl) ?_
      by_cases c3 : x2 = 0
      · have hE := if_t c3 hE
        refine lv_tableIn (tgt := 64) (off := 33) hx hb dX11_word_31 (by rw [c3]; decide +kernel) (by rw [c3]; decide +kernel) (by rw [c3]; decide +kernel) (by decide) ?_
        refine lv_aload_n hx hb dX11_word_64 rfl (lv_at hl 0 rfl) ?_
        refine va_getN (D := D) (ci := 1) (v := .ref (g 11)) (C := RX2) (T := TX2) (N := 8) hx hb hts inX2 hown hK hP 8 rfl rfl 2 (by decide) (k6 _) (fun _ h9 => h9) rfl dX11_word_65 ?_
        refine lv_iload_n hx hb dX11_word_68 rfl (lv_at hl 2 rfl) ?_
        have ⟨c4, hE⟩ := ck_some hE
        refine va_iald hx hb hK hP 11 0 rfl rfl c4 dX11_word_69 ?_
        obtain rfl := Option.some.inj hE
        exact rt_i hx hb hr hP hS rfl hlocks dX11_word_70
      have hE := if_f c3 hE
      by_cases c5 : x2 = 1
      · have hE := if_t c5 hE
        refine lv_tableIn (tgt := 71) (off := 40) hx hb dX11_word_31 (by rw [c5]; decide +kernel) (by rw [c5]; decide +kernel) (by rw [c5]; decide +kernel) (by decide) ?_
        refine lv_aload_n hx hb dX11_word_71 rfl (lv_at hl 0 rfl) ?_
        refine va_getN (D := D) (ci := 1) (v := .ref (g 12)) (C := RX2) (T := TX2) (N := 8) hx hb hts inX2 hown hK hP 8 rfl rfl 3 (by decide) (k7 _) (fun _ h9 => h9) rfl dX11_word_72 ?_
        refine lv_iload_n hx hb dX11_word_75 rfl (lv_at hl 2 rfl) ?_
        have ⟨c6, hE⟩ := ck_some hE
        refine va_iald hx hb hK hP 12 0 rfl rfl c6 dX11_word_76 ?_
        obtain rfl := Option.some.inj hE
        exact rt_i hx hb hr hP hS rfl hlocks dX11_word_77
      have hE := if_f c5 hE
      by_cases c7 : x2 = 2
      · have hE := if_t c7 hE
        refine lv_tableIn (tgt := 78) (off := 47) hx hb dX11_word_31 (by rw [c7]; decide +kernel) (by rw [c7]; decide +kernel) (by rw [c7]; decide +kernel) (by decide) ?_
        refine lv_aload_n hx hb dX11_word_78 rfl (lv_at hl 0 rfl) ?_
        refine va_getN (D := D) (ci := 1) (v := .ref (g 14)) (C := RX2) (T := TX2) (N := 8) hx hb hts inX2 hown hK hP 8 rfl rfl 5 (by decide) (k8 _) (fun _ h9 => h9) rfl dX11_word_79 ?_
        refine lv_iload_n hx hb dX11_word_82 rfl (lv_at hl 2 rfl) ?_
        have ⟨c8, hE⟩ := ck_some hE
        refine va_zald hx hb hK hP 14 1 rfl rfl c8 dX11_word_83 ?_
        refine lv_if_eq (tgt := 91) hx hb dX11_word_84 (by decide) (fun c9 => ?_) (fun c9 => ?_)
        · have hE := if_t c9 hE
          refine lv_iconst (v := 0) hx hb dX11_word_91 (by decide +kernel) ?_
          obtain rfl := Option.some.inj hE
          exact rt_i hx hb hr hP hS rfl hlocks dX11_word_92
        · have hE := if_f c9 hE
          refine lv_iconst (v := 1) hx hb dX11_word_87 (by decide +kernel) ?_
          refine lv_goto (tgt := 92) hx hb dX11_word_88 (by decide) ?_
          obtain rfl := Option.some.inj hE
          exact rt_i hx hb hr hP hS rfl hlocks dX11_word_92
      have hE := if_f c7 hE
      by_cases c10 : x2 = 3
      · have hE := if_t c10 hE
        refine lv_tableIn (tgt := 93) (off := 62) hx hb dX11_word_31 (by rw [c10]; decide +kernel) (by rw [c10]; decide +kernel) (by rw [c10]; decide +kernel) (by decide) ?_
        refine lv_aload_n hx hb dX11_word_93 rfl (lv_at hl 0 rfl) ?_
        refine va_getN (D := D) (ci := 1) (v := .ref (g 13)) (C := RX2) (T := TX2) (N := 8) hx hb hts inX2 hown hK hP 8 rfl rfl 4 (by decide) (k9 _) (fun _ h9 => h9) rfl dX11_word_94 ?_
        refine lv_iload_n hx hb dX11_word_97 rfl (lv_at hl 2 rfl) ?_
        have ⟨c11, hE⟩ := ck_some hE
        refine va_iald hx hb hK hP 13 0 rfl rfl c11 dX11_word_98 ?_
        obtain rfl := Option.some.inj hE
        exact rt_i hx hb hr hP hS rfl hlocks dX11_word_99
      have hE := if_f c10 hE
      by_cases c12 : x2 = 4
      · have hE := if_t c12 hE
        refine lv_tableIn (tgt := 100) (off := 69) hx hb dX11_word_31 (by rw [c12]; decide +kernel) (by rw [c12]; decide +kernel) (by rw [c12]; decide +kernel) (by decide) ?_
        refine lv_aload_n hx hb dX11_word_100 rfl (lv_at hl 0 rfl) ?_
        refine va_getN (D := D) (ci := 1) (v := .ref (g 15)) (C := RX2) (T := TX2) (N := 8) hx hb hts inX2 hown hK hP 8 rfl rfl 6 (by decide) (k10 _) (fun _ h9 => h9) rfl dX11_word_101 ?_
        refine lv_iload_n hx hb dX11_word_104 rfl (lv_at hl 2 rfl) ?_
        have ⟨c13, hE⟩ := ck_some hE
        refine va_zald hx hb hK hP 15 1 rfl rfl c13 dX11_word_105 ?_
        refine lv_if_eq (tgt := 113) hx hb dX11_word_106 (by decide) (fun c14 => ?_) (fun c14 => ?_)
        · have hE := if_t c14 hE
          refine lv_iconst (v := 0) hx hb dX11_word_113 (by decide +kernel) ?_
          obtain rfl := Option.some.inj hE
          exact rt_i hx hb hr hP hS rfl hlocks dX11_word_114
        · have hE := if_f c14 hE
          refine lv_iconst (v := 1) hx hb dX11_word_109 (by decide +kernel) ?_
          refine lv_goto (tgt := 114) hx hb dX11_word_110 (by decide) ?_
          obtain rfl := Option.some.inj hE
          exact rt_i hx hb hr hP hS rfl hlocks dX11_word_114
      have hE := if_f c12 hE
      have tc3 := lv_neT c3 (show (0 : Int32).toInt = 0 by decide +kernel)
      have tc5 := lv_neT c5 (show (1 : Int32).toInt = 1 by decide +kernel)
      have tc7 := lv_neT c7 (show (2 : Int32).toInt = 2 by decide +kernel)
      have tc10 := lv_neT c10 (show (3 : Int32).toInt = 3 by decide +kernel)
      have tc12 := lv_neT c12 (show (4 : Int32).toInt = 4 by decide +kernel)
      refine lv_tableOut (tgt := 115) hx hb dX11_word_31 (by omega) (by decide) ?_
      exact nomatch hE
    · have hE := if_f c2 hE
      exact w20  d H locs ls hP hD hS (lv_sub hl [] rfl) hE
def tb_X11_word_20 (d : tD) : Option (Int32) := some 1
def t_X11_word (x1 : Int32) (x2 : Int32) (d : tD) : Option (Int32) := if x1 < 0 then (tb_X11_word_20 d) else (if x1 < d.1 then (if x2 = 0 then (ck (¬ (x1 < 0 ∨ 40 ≤ x1.toNatClampNeg)) (none)) else if x2 = 1 then (ck (¬ (x1 < 0 ∨ 40 ≤ x1.toNatClampNeg)) (none)) else if x2 = 2 then (ck (¬ (x1 < 0 ∨ 40 ≤ x1.toNatClampNeg)) (if (d.2.2.2.2.2.2.1 x1.toNatClampNeg) = 0 then (none) else (none))) else if x2 = 3 then (ck (¬ (x1 < 0 ∨ 40 ≤ x1.toNatClampNeg)) (none)) else if x2 = 4 then (ck (¬ (x1 < 0 ∨ 40 ≤ x1.toNatClampNeg)) (if (d.2.2.2.2.2.2.2 x1.toNatClampNeg) = 0 then (none) else (none))) else (some 2)) else (tb_X11_word_20 d))
set_option maxHeartbeats 4000000 in
set_option maxRecDepth 100000 in
theorem x_X11_word (l : Launch) (hst : l.stackTraces = false) (D : va_G) (cA : Nat → ClassId) (ad adK adV : Nat → Nat) (tA tS : Nat) (sa : Nat → Nat) (g : Nat → Nat) (sz : Nat) (x1 : Int32) (x2 : Int32) (t : tT) (s : tR) (y : tY) (d : tD) (q : tP) (k : tK) (r : tR) (c : tC) (o : tO) (m : tM) (u : Int32) (hE : t_X11_word x1 x2 d = some u) : vx_Met l yX11_word wsX11_word ({ frames := 6, cells := 1, slots := 6, locals := 82 }) (va_Pc [.ref (g 28), .int x1, .int x2] (PRE D cA (wG g cA t s y d q k r c o m) sz (fun U => SX ad adK adV tA tS (va_A (wG g cA t s y d q k r c o m) sz) U U.heap ∧ EX sa (va_A (wG g cA t s y d q k r c o m) sz) U U.heap))) (va_Qi (fun (_ : Int32) (_ : Unit) => False) (fun _ _ => True) (va_A (wG g cA t s y d q k r c o m) sz)) (vx_X (fun (_ : Unit) => True) (fun E _ TT => E = exN u ∧ va_P D vwCl (wG g cA t s y d q k r c o m) TT.heap) (va_A (wG g cA t s y d q k r c o m) sz)) 1 6 (va_A (wG g cA t s y d q k r c o m) sz) := by
  refine vx_ofW (cc := cX11_word) (maxL := 4) (ret := (some .int)) (by decide) rfl ?_
  intro PP EE S0 MM args below meth CC S1 B hml htb hv
  obtain ⟨rfl, hsz, hP, hK, hD0, hX, hEX⟩ := hv
  have hx := B.exec
  have hb := B.bytes
  have hr := B.returns
  have hts := atoms_spec (ws := wsX11_word) B.pre
  have hown : S0.vm.findClass RX11 = some MM.cls := findClass_of_methodNamed B.named
  have hlocks := B.notSynchronized
  subst hsz
  have hD := hD0.self (sz := S0.heap.size)
  have hX : SX ad adK adV tA tS (va_A (wG g cA t s y d q k r c o m) S0.heap.size) S0 S0.heap := hX
  have hEX : EX sa (va_A (wG g cA t s y d q k r c o m) S0.heap.size) S0 S0.heap := hEX
  generalize hAe : va_A (wG g cA t s y d q k r c o m) S0.heap.size = A at hD hX hEX ⊢
  have hA : ∀ q : Nat, S0.heap.size ≤ q → A q := fun q h => by rw [← hAe]; exact Or.inr h
  have hS : va_S A S0.heap S0.heap [] := va_S.rf
  have k0 := hts (.fieldLink RX11 10 "WordForge" "machine" "LWordForge$Machine;") (List.mem_of_getElem? (i := 5) rfl)
  have inX11 : ∀ w ∈ wsX110, w ∈ wsX11_word := fun _ h => List.mem_cons_of_mem _ (List.mem_append_left _ (List.mem_append_left _ (List.mem_append_left _ (List.mem_append_left _ (List.mem_append_right _ h)))))
  have k2 := hX.nest (.fieldLinkNest RX11 84 "WordForge$Machine" "dictionary" "LWordForge$Dictionary;" "WordForge") (List.mem_of_getElem? (i := 33) rfl)
  have inX3 : ∀ w ∈ wsX30, w ∈ wsX11_word := fun _ h => List.mem_cons_of_mem _ (List.mem_append_left _ (List.mem_append_left _ (List.mem_append_left _ (List.mem_append_right _ h))))
  have k4 := hX.nest (.fieldLinkNest RX11 88 "WordForge$Dictionary" "size" "I" "WordForge") (List.mem_of_getElem? (i := 17) rfl)
  have inX2 : ∀ w ∈ wsX20, w ∈ wsX11_word := fun _ h => List.mem_cons_of_mem _ (List.mem_append_left _ (List.mem_append_left _ (List.mem_append_right _ h)))
  have k6 := hX.nest (.fieldLinkNest RX11 93 "WordForge$Dictionary" "places" "[I" "WordForge") (List.mem_of_getElem? (i := 8) rfl)
  have k7 := hX.nest (.fieldLinkNest RX11 96 "WordForge$Dictionary" "sorts" "[I" "WordForge") (List.mem_of_getElem? (i := 10) rfl)
  have k8 := hX.nest (.fieldLinkNest RX11 99 "WordForge$Dictionary" "immediate" "[Z" "WordForge") (List.mem_of_getElem? (i := 14) rfl)
  have k9 := hX.nest (.fieldLinkNest RX11 103 "WordForge$Dictionary" "behaviours" "[I" "WordForge") (List.mem_of_getElem? (i := 12) rfl)
  have k10 := hX.nest (.fieldLinkNest RX11 106 "WordForge$Dictionary" "finished" "[Z" "WordForge") (List.mem_of_getElem? (i := 15) rfl)
  have k11 := hts (.classLink RX11 26 "java/lang/IllegalArgumentException") (List.mem_of_getElem? (i := 3) rfl)
  have k12 := hts (.initialized "java/lang/IllegalArgumentException") (List.mem_of_getElem? (i := 4) rfl)
  have k13 := hts (.classLink RX11 47 "java/lang/IndexOutOfBoundsException") (List.mem_of_getElem? (i := 1) rfl)
  have k14 := hts (.initialized "java/lang/IndexOutOfBoundsException") (List.mem_of_getElem? (i := 2) rfl)
  have hl := lv_entry ([.ref (g 28), .int x1, .int x2]) (n := 4) (Nat.le_of_ble_eq_true rfl)
  rw [lg_entry_eq]
  generalize (lg_sl ([.ref (g 28), .int x1, .int x2]) ++ List.replicate (4 - (lg_sl ([.ref (g 28), .int x1, .int x2])).length) Slot.unset).toArray = ls at hl ⊢
  have hl : lv_has ls 4 [(0, .ref (g 28)), (1, .int x1), (2, .int x2)] := hl
  have w20 : ∀ (d : tD) (H : Heap) (locs : List Loc) (ls : Array Slot), va_P D vwCl (wG g cA t s y d q k r c o m) H → va_D A (wG g cA t s y d q k r c o m) → va_S A S0.heap H locs → lv_has ls 4 [] → tb_X11_word_20  d = some u → W PP l EE (headSpec wsX11_word ({ frames := 6, cells := 1, slots := 6, locals := 82 })).room S0 MM (#[.ref (g 28), .int x1, .int x2] : Array Value) below meth CC H locs 0 0 (vx_MQ below (va_Qi (fun (_ : Int32) (_ : Unit) => False) (fun _ _ => True) A) (vx_X (fun (_ : Unit) => True) (fun E _ TT => E = exN u ∧ va_P D vwCl (wG g cA t s y d q k r c o m) TT.heap) A) (#[.ref (g 28), .int x1, .int x2] : Array Value) S0 1 6 A) (F0 MM 20 ls []) := by
    intro d
    intro H locs ls hP hD hS hl hE
    unfold tb_X11_word_20 at hE
    obtain rfl := Option.some.inj hE
    have hat : ∀ w ∈ vx_atS RX11 51 "java/lang/IndexOutOfBoundsException" ["java/lang/RuntimeException", "java/lang/Exception"], w.before ((#[.ref (g 28), .int x1, .int x2] : Array Value)) S0 = true := vx_hat (B := [.declares (Bundle.initS "java/lang/RuntimeException"), .declares (Bundle.initS "java/lang/Exception"), .declares (Bundle.initS Bundle.tN), .castable "java/lang/IndexOutOfBoundsException" "java/lang/IndexOutOfBoundsException"]) (fun w h => hts w (List.mem_cons_of_mem _ (List.mem_append_left _ (List.mem_append_right _ h)))) (fun w h => by rw [show (vx_atS RX11 51 "java/lang/IndexOutOfBoundsException" ["java/lang/RuntimeException", "java/lang/Exception"]).filter (fun w => !goodWord w) = [.declares (Bundle.initS "java/lang/RuntimeException"), .declares (Bundle.initS "java/lang/Exception"), .declares (Bundle.initS Bundle.tN), .castable "java/lang/IndexOutOfBoundsException" "java/lang/IndexOutOfBoundsException"] by decide +kernel] at h; exact h) (vx_c (va_Nw.use rfl (hEX.2.2.2.1 _ (List.mem_of_getElem? (i := 0) rfl))) (vx_c (va_Nw.use rfl (hEX.2.2.2.1 _ (List.mem_of_getElem? (i := 1) rfl))) (vx_c (va_Nw.use rfl (hEX.2.2.2.1 _ (List.mem_of_getElem? (i := 2) rfl))) (vx_c (va_Nw.use rfl (hEX.2.2.2.1 _ (List.mem_of_getElem? (i := 3) rfl))) vx_n))))
    refine vx_throwS (own := RX11) (cls := "java/lang/IndexOutOfBoundsException") (text := "no such made word") (names := ["java/lang/RuntimeException", "java/lang/Exception"]) (ik := 47) (is := 91) (ic := 51) (sa := sa 91) hx hb hst hown (by decide +kernel) (by decide +kernel) k13 k14 (hEX.1 (91, "no such made word") (List.mem_of_getElem? (i := 4) rfl)) hat (List.all_eq_true.mp (by decide +kernel)) hEX.2.1 hEX.2.2.1 hS (hl.1.trans hml.symm) dX11_word_20 dX11_word_23 dX11_word_24 dX11_word_26 dX11_word_29 (fun x h => (htb x h).elim) (by decide) (by decide) (by decide) (by decide) hlocks (fun TT hvm hz hk => ⟨(), trivial, ⟨rfl, hP.kept (fun j z hj => hk z.1 (hP j z hj).lt)⟩, Nat.le_trans hS.1 hz, fun z h1 h2 => (hk z (Nat.lt_of_lt_of_le h1 hS.1)).trans (hS.2.1 z h1 h2)⟩) (fun z h => hS.2.2 z h) (by decide) (by decide)
  unfold t_X11_word at hE
  suffices main : ∀ (H : Heap) (locs : List Loc) (ls : Array Slot), va_P D vwCl (wG g cA t s y d q k r c o m) H → va_D A (wG g cA t s y d q k r c o m) → va_S A S0.heap H locs → lv_has ls 4 [(0, .ref (g 28)), (1, .int x1), (2, .int x2)] → W PP l EE (headSpec wsX11_word ({ frames := 6, cells := 1, slots := 6, locals := 82 })).room S0 MM (#[.ref (g 28), .int x1, .int x2] : Array Value) below meth CC H locs 0 0 (vx_MQ below (va_Qi (fun (_ : Int32) (_ : Unit) => False) (fun _ _ => True) A) (vx_X (fun (_ : Unit) => True) (fun E _ TT => E = exN u ∧ va_P D vwCl (wG g cA t s y d q k r c o m) TT.heap) A) (#[.ref (g 28), .int x1, .int x2] : Array Value) S0 1 6 A) (F0 MM 0 ls []) from main _ _ _ hP hD hS hl
  intro H locs ls hP hD hS hl
  refine lv_aload_n hx hb dX11_word_0 rfl (lv_at hl 0 rfl) ?_
  refine va_get (D := D) (ci := 9) (v := .ref (g 0)) (C := RX11) (T := TX11) (N := 1) hx hb hts inX11 hown hK hP 28 rfl rfl 0 (by decide) k0 (fun _ h9 => h9) rfl dX11_word_1 ?_
  refine va_getN (D := D) (ci := 2) (v := .ref (g 8)) (C := RX3) (T := TX3) (N := 14) hx hb hts inX3 hown hK hP 0 rfl rfl 4 (by decide) (k2 _) (fun _ h9 => h9) rfl dX11_word_4 ?_
  refine lv_astore_n (lv' := [(3, .ref (g 8)), (0, .ref (g 28)), (1, .int x1), (2, .int x2)]) hx hb dX11_word_7 rfl hl (by decide) rfl (fun ls hl => ?_)
  refine lv_iload_n hx hb dX11_word_8 rfl (lv_at hl 2 rfl) ?_
  refine lv_if_lt (tgt := 20) hx hb dX11_word_9 (by decide) (fun c1 => ?_) (fun c1 => ?_)
  · have hE := if_t c1 hE
    exact w20  d H locs ls hP hD hS (lv_sub hl [] rfl) hE
  · have hE := if_f c1 hE
    refine lv_iload_n hx hb dX11_word_12 rfl (lv_at hl 2 rfl) ?_
    refine lv_aload_n hx hb dX11_word_13 rfl (lv_at hl 0 rfl) ?_
    refine va_getN (D := D) (ci := 1) (v := .int d.1) (C := RX2) (T := TX2) (N := 8) hx hb hts inX2 hown hK hP 8 rfl rfl 7 (by decide) (k4 _) (fun _ h9 => h9) rfl dX11_word_14 ?_
    refine lv_icmp_lt (tgt := 30) hx hb dX11_word_17 (by decide) (fun c2 => ?_) (fun c2 => ?_)
    · have hE := if_t c2 hE
      refine lv_iload_n hx hb dX11_word_30 rfl (lv_at hl 3 rfl) ?_
      by_cases c3 : x2 = 0
      · have hE := if_t c3 hE
        refine lv_tableIn (tgt := 64) (off := 33) hx hb dX11_word_31 (by rw [c3]; decide +kernel) (by rw [c3]; decide +kernel) (by rw [c3]; decide +kernel) (by decide) ?_
        refine lv_aload_n hx hb dX11_word_64 rfl (lv_at hl 0 rfl) ?_
        refine va_getN (D := D) (ci := 1) (v := .ref (g 11)) (C := RX2) (T := TX2) (N := 8) hx hb hts inX2 hown hK hP 8 rfl rfl 2 (by decide) (k6 _) (fun _ h9 => h9) rfl dX11_word_65 ?_
        refine lv_iload_n hx hb dX11_word_68 rfl (lv_at hl 2 rfl) ?_
        have ⟨c4, hE⟩ := ck_some hE
        refine va_iald hx hb hK hP 11 0 rfl rfl c4 dX11_word_69 ?_
        exact nomatch hE
      have hE := if_f c3 hE
      by_cases c5 : x2 = 1
      · have hE := if_t c5 hE
        refine lv_tableIn (tgt := 71) (off := 40) hx hb dX11_word_31 (by rw [c5]; decide +kernel) (by rw [c5]; decide +kernel) (by rw [c5]; decide +kernel) (by decide) ?_
        refine lv_aload_n hx hb dX11_word_71 rfl (lv_at hl 0 rfl) ?_
        refine va_getN (D := D) (ci := 1) (v := .ref (g 12)) (C := RX2) (T := TX2) (N := 8) hx hb hts inX2 hown hK hP 8 rfl rfl 3 (by decide) (k7 _) (fun _ h9 => h9) rfl dX11_word_72 ?_
        refine lv_iload_n hx hb dX11_word_75 rfl (lv_at hl 2 rfl) ?_
        have ⟨c6, hE⟩ := ck_some hE
        refine va_iald hx hb hK hP 12 0 rfl rfl c6 dX11_word_76 ?_
        exact nomatch hE
      have hE := if_f c5 hE
      by_cases c7 : x2 = 2
      · have hE := if_t c7 hE
        refine lv_tableIn (tgt := 78) (off := 47) hx hb dX11_word_31 (by rw [c7]; decide +kernel) (by rw [c7]; decide +kernel) (by rw [c7]; decide +kernel) (by decide) ?_
        refine lv_aload_n hx hb dX11_word_78 rfl (lv_at hl 0 rfl) ?_
        refine va_getN (D := D) (ci := 1) (v := .ref (g 14)) (C := RX2) (T := TX2) (N := 8) hx hb hts inX2 hown hK hP 8 rfl rfl 5 (by decide) (k8 _) (fun _ h9 => h9) rfl dX11_word_79 ?_
        refine lv_iload_n hx hb dX11_word_82 rfl (lv_at hl 2 rfl) ?_
        have ⟨c8, hE⟩ := ck_some hE
        refine va_zald hx hb hK hP 14 1 rfl rfl c8 dX11_word_83 ?_
        refine lv_if_eq (tgt := 91) hx hb dX11_word_84 (by decide) (fun c9 => ?_) (fun c9 => ?_)
        · have hE := if_t c9 hE
          refine lv_iconst (v := 0) hx hb dX11_word_91 (by decide +kernel) ?_
          exact nomatch hE
        · have hE := if_f c9 hE
          refine lv_iconst (v := 1) hx hb dX11_word_87 (by decide +kernel) ?_
          refine lv_goto (tgt := 92) hx hb dX11_word_88 (by decide) ?_
          exact nomatch hE
      have hE := if_f c7 hE
      by_cases c10 : x2 = 3
      · have hE := if_t c10 hE
        refine lv_tableIn (tgt := 93) (off := 62) hx hb dX11_word_31 (by rw [c10]; decide +kernel) (by rw [c10]; decide +kernel) (by rw [c10]; decide +kernel) (by decide) ?_
        refine lv_aload_n hx hb dX11_word_93 rfl (lv_at hl 0 rfl) ?_
        refine va_getN (D := D) (ci := 1) (v := .ref (g 13)) (C := RX2) (T := TX2) (N := 8) hx hb hts inX2 hown hK hP 8 rfl rfl 4 (by decide) (k9 _) (fun _ h9 => h9) rfl dX11_word_94 ?_
        refine lv_iload_n hx hb dX11_word_97 rfl (lv_at hl 2 rfl) ?_
        have ⟨c11, hE⟩ := ck_some hE
        refine va_iald hx hb hK hP 13 0 rfl rfl c11 dX11_word_98 ?_
        exact nomatch hE
      have hE := if_f c10 hE
      by_cases c12 : x2 = 4
      · have hE := if_t c12 hE
        refine lv_tableIn (tgt := 100) (off := 69) hx hb dX11_word_31 (by rw [c12]; decide +kernel) (by rw [c12]; decide +kernel) (by rw [c12]; decide +kernel) (by decide) ?_
        refine lv_aload_n hx hb dX11_word_100 rfl (lv_at hl 0 rfl) ?_
        refine va_getN (D := D) (ci := 1) (v := .ref (g 15)) (C := RX2) (T := TX2) (N := 8) hx hb hts inX2 hown hK hP 8 rfl rfl 6 (by decide) (k10 _) (fun _ h9 => h9) rfl dX11_word_101 ?_
        refine lv_iload_n hx hb dX11_word_104 rfl (lv_at hl 2 rfl) ?_
        have ⟨c13, hE⟩ := ck_some hE
        refine va_zald hx hb hK hP 15 1 rfl rfl c13 dX11_word_105 ?_
        refine lv_if_eq (tgt := 113) hx hb dX11_word_106 (by decide) (fun c14 => ?_) (fun c14 => ?_)
        · have hE := if_t c14 hE
          refine lv_iconst (v := 0) hx hb dX11_word_113 (by decide +kernel) ?_
          exact nomatch hE
        · have hE := if_f c14 hE
          refine lv_iconst (v := 1) hx hb dX11_word_109 (by decide +kernel) ?_
          refine lv_goto (tgt := 114) hx hb dX11_word_110 (by decide) ?_
          exact nomatch hE
      have hE := if_f c12 hE
      have tc3 := lv_neT c3 (show (0 : Int32).toInt = 0 by decide +kernel)
      have tc5 := lv_neT c5 (show (1 : Int32).toInt = 1 by decide +kernel)
      have tc7 := lv_neT c7 (show (2 : Int32).toInt = 2 by decide +kernel)
      have tc10 := lv_neT c10 (show (3 : Int32).toInt = 3 by decide +kernel)
      have tc12 := lv_neT c12 (show (4 : Int32).toInt = 4 by decide +kernel)
      refine lv_tableOut (tgt := 115) hx hb dX11_word_31 (by omega) (by decide) ?_
      obtain rfl := Option.some.inj hE
      have hat : ∀ w ∈ vx_atS RX11 30 "java/lang/IllegalArgumentException" ["java/lang/RuntimeException", "java/lang/Exception"], w.before ((#[.ref (g 28), .int x1, .int x2] : Array Value)) S0 = true := vx_hat (B := [.declares (Bundle.initS "java/lang/RuntimeException"), .declares (Bundle.initS "java/lang/Exception"), .declares (Bundle.initS Bundle.tN), .castable "java/lang/IllegalArgumentException" "java/lang/IllegalArgumentException"]) (fun w h => hts w (List.mem_cons_of_mem _ (List.mem_append_right _ h))) (fun w h => by rw [show (vx_atS RX11 30 "java/lang/IllegalArgumentException" ["java/lang/RuntimeException", "java/lang/Exception"]).filter (fun w => !goodWord w) = [.declares (Bundle.initS "java/lang/RuntimeException"), .declares (Bundle.initS "java/lang/Exception"), .declares (Bundle.initS Bundle.tN), .castable "java/lang/IllegalArgumentException" "java/lang/IllegalArgumentException"] by decide +kernel] at h; exact h) (vx_c (va_Nw.use rfl (hEX.2.2.2.1 _ (List.mem_of_getElem? (i := 0) rfl))) (vx_c (va_Nw.use rfl (hEX.2.2.2.1 _ (List.mem_of_getElem? (i := 1) rfl))) (vx_c (va_Nw.use rfl (hEX.2.2.2.1 _ (List.mem_of_getElem? (i := 2) rfl))) (vx_c (va_Nw.use rfl (hEX.2.2.2.1 _ (List.mem_of_getElem? (i := 4) rfl))) vx_n))))
      refine vx_throwS (own := RX11) (cls := "java/lang/IllegalArgumentException") (text := "what is not 0 .. 4") (names := ["java/lang/RuntimeException", "java/lang/Exception"]) (ik := 26) (is := 109) (ic := 30) (sa := sa 109) hx hb hst hown (by decide +kernel) (by decide +kernel) k11 k12 (hEX.1 (109, "what is not 0 .. 4") (List.mem_of_getElem? (i := 5) rfl)) hat (List.all_eq_true.mp (by decide +kernel)) hEX.2.1 hEX.2.2.1 hS (hl.1.trans hml.symm) dX11_word_115 dX11_word_118 dX11_word_119 dX11_word_121 dX11_word_124 (fun x h => (htb x h).elim) (by decide) (by decide) (by decide) (by decide) hlocks (fun TT hvm hz hk => ⟨(), trivial, ⟨rfl, hP.kept (fun j z hj => hk z.1 (hP j z hj).lt)⟩, Nat.le_trans hS.1 hz, fun z h1 h2 => (hk z (Nat.lt_of_lt_of_le h1 hS.1)).trans (hS.2.1 z h1 h2)⟩) (fun z h => hS.2.2 z h) (by decide) (by decide)
    · have hE := if_f c2 hE
      exact w20  d H locs ls hP hD hS (lv_sub hl [] rfl) hE
