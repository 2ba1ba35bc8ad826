/-! the law's helpers -/
abbrev wL (g : Nat → Nat) (b : Nat) (cA : Nat → ClassId) (t : tT) (s : tR) (y : tY) (d : tD) (q : tP) (k : tK) (r : tR) (c : tC) (o : tO) (m : tM) (f : Nat → Int64) : va_W := wG g cA t s y d q k r c o m ++ [(b, .inl (cA 3, 1, .inr (.inl f)))]
def wsL_word2 : List Cond := .codeWith yL_word cL_word 5 (some .int) [(0, 10, 13, 19), (0, 10, 17, 13)] :: .classLink RL 13 "java/lang/IllegalArgumentException" :: wsL_word.tail
theorem word2 {w : Cond} (h : w ∈ wsL_word) : w ∈ wsL_word2 := by
  rcases List.mem_cons.mp h with e | h
  · rw [e]; exact List.mem_cons_self
  · exact List.mem_cons_of_mem _ (List.mem_cons_of_mem _ h)
theorem mo_WH {l : Launch} {y : MethodName} {ws ws' : List Cond} {rm : Room} {Pc : Array Value → State → Prop} {Qc : Array Value → State → Outcome → State → Prop} {mc ms : Nat} {free : Addr → Prop} {cc : ByteArray} {maxL : Nat} {ret : Option FieldType} {hh : List (Nat × Nat × Nat × Nat)} (hy : plainName y.cls = true) (hw : ws = Cond.codeWith y cc maxL ret hh :: ws') (body : ∀ p e s m args below meth c s₁, BodyLoose p l y (headSpec ws rm) cc maxL ret e s m args below meth c s₁ → c.maxLocals = maxL → Pc args s → W p l e (headSpec ws rm).room s m args below meth c s.heap [] 0 0 (MQ below Qc args s mc ms free) (entryFrame m args maxL)) : Met l y ws rm Pc Qc mc ms free := by
  have hV : vx_Met l y ws rm Pc Qc (fun _ _ _ => False) mc ms free := vx_ofWH hy hw fun p e s m args below meth c s₁ B hml hP => vx_ret (body p e s m args below meth c s₁ B hml hP)
  intro p e ha hc hk s m args below hf happ hpre hx
  obtain ⟨k, o, h1, h2, h3, h4⟩ := hV p e ha hc hk s m args below hf happ hpre hx
  refine ⟨k, o, h1, h2, h3, ?_⟩
  rcases h4 with h | ⟨q, -, E, ce, L, hF, -⟩
  · exact h
  · exact hF.elim
set_option maxRecDepth 20000 in
theorem ggL_run_X11_run : GoodIn wsL_run wsX11_run := goodIn_ca (goodIn_r _ [6, 7, 8, 9, 10, 11, 12, 13, 14, 15, 16, 17, 18, 19, 20, 21, 22, 23, 24, 25, 26, 27, 28, 29, 30, 31, 32, 33, 34, 35, 36, 37, 38, 39, 40, 41, 42, 43, 44, 45, 46, 47, 48, 49, 50, 51, 52, 53, 54, 55, 56, 57, 58, 59, 60, 61, 62, 63, 64, 65, 66, 67, 68, 69, 70, 71, 72, 73, 74, 75, 76, 77, 78, 79, 80, 81, 82, 83, 84, 85, 86, 87, 88, 89, 90, 91, 92, 93, 94, 95, 96, 97, 98, 99, 100, 101, 102, 103, 104, 105, 106, 107, 108, 109, 110, 111, 112, 113, 114, 115, 116, 117, 118, 119, 120, 121, 122, 123, 124, 125, 126, 127, 128, 129, 130, 131, 132, 133, 134, 135, 136, 137, 138, 139, 140, 141, 142, 143, 144, 145, 146, 147, 148, 149, 150, 151, 152, 153, 154, 155, 156, 157, 158, 159, 160, 161, 162, 163, 164, 165, 166, 167, 168, 169, 170, 171, 172, 173, 174, 175, 176, 177, 178, 179, 180, 181, 182, 183, 184, 185, 186, 187, 188, 189, 190, 191, 192, 193, 194, 195, 196, 197, 198, 199, 200, 201, 202, 203, 204, 205, 206, 207, 208, 209, 210, 211, 212, 213, 214, 215, 216, 217, 218, 219, 220, 221, 222, 223, 224, 225, 226, 227, 228, 229, 230, 231, 232, 233, 234, 235, 236, 237, 238, 239, 240, 241, 242, 243, 244, 245, 246, 247, 248, 249, 250, 251, 252, 253, 254, 255, 256, 257, 258, 259, 260, 261, 262, 263, 264, 265, 266, 267, 268, 269, 270, 271, 272, 273, 274, 275, 276, 277, 278, 279, 280, 281, 282, 283, 284, 285, 286, 287, 288, 289, 290, 291, 292, 293, 294, 295, 296, 297, 298, 299, 300, 301, 302, 303, 304, 305, 306, 307, 308, 309, 310, 311, 312, 313, 314, 315, 316, 317, 318, 319, 320, 321, 322, 323, 324, 325, 326, 327, 328, 329, 330, 331, 332, 333, 334, 335, 336, 337, 338, 339, 340, 341, 342, 343, 344, 345, 346, 347, 348, 349, 350, 351, 352, 353, 354, 355, 356, 357, 358, 359, 360, 361, 362, 363, 364, 365, 366, 367, 368, 369, 370, 371, 372, 373, 374, 375, 376, 377, 378, 379, 380, 381, 382, 383, 384, 385, 386, 387, 388, 389, 390, 391, 392, 393, 394, 395, 396, 397, 398, 399, 400, 401, 402, 403, 404, 405, 406, 407, 408, 409, 410, 411, 412, 413, 414, 415, 416, 417, 418, 419, 420, 421, 422, 423, 424, 425, 426, 427, 428, 429, 430, 431, 432, 433, 434, 435, 436, 437, 438, 439, 440, 441, 442, 443, 444, 445, 446, 447, 448, 449, 450, 451, 452, 453, 454, 455, 456, 457, 458, 459, 460, 461, 462, 463, 464, 465, 466, 467, 468, 469, 470, 471, 472, 473, 474, 475, 476, 477, 478, 479, 480, 481, 482, 483, 484, 485, 486, 487, 488, 489, 490, 491, 492, 493, 494, 495, 496, 497, 498, 499, 500, 501, 502, 503, 504, 505, 506, 507, 508, 509, 510, 511, 512, 513, 514, 515, 516, 517, 518, 519, 520, 521, 522, 523, 524, 525, 526, 527, 528, 529, 530, 531, 532, 533, 534, 535, 536, 537, 538, 539, 540, 541, 542, 543, 544, 545, 546, 547, 548, 549, 550, 551, 552, 553, 554, 555, 556, 557, 558, 559, 560, 561, 562, 563, 564, 565, 566, 567, 568, 569, 570, 571, 572, 573, 574, 575, 576, 577, 578, 579, 580, 581, 582, 583, 584, 585, 586, 587, 588, 589, 590, 591, 592, 593] rfl (by decide +kernel)) (goodIn_sub (fun _ h => List.mem_cons_of_mem _ (List.mem_append_right _ h)) (by decide +kernel))
set_option maxRecDepth 20000 in
theorem gL_run_X11_run : GoodIn wsL_run (wsV RL 7 RX11 yX11_run wsX11_run) := goodIn_app (goodIn_of _ (by decide +kernel)) ggL_run_X11_run
set_option maxRecDepth 20000 in
theorem ggL_output_X11_output : GoodIn wsL_output wsX11_output := goodIn_ca (goodIn_r _ [6, 7, 8, 9, 10, 11, 12, 13, 14, 15, 16, 17, 18, 19, 20, 21, 22, 23, 24, 25, 26] rfl (by decide +kernel)) (goodIn_sub (fun _ h => List.mem_cons_of_mem _ (List.mem_append_right _ h)) (by decide +kernel))
set_option maxRecDepth 20000 in
theorem gL_output_X11_output : GoodIn wsL_output (wsV RL 15 RX11 yX11_output wsX11_output) := goodIn_app (goodIn_of _ (by decide +kernel)) ggL_output_X11_output
set_option maxRecDepth 20000 in
theorem ggL_stack_X11_stack : GoodIn wsL_stack wsX11_stack := goodIn_ca (goodIn_r _ [6, 7, 8, 9, 10, 11, 12, 13, 14, 15, 16, 17, 18, 19, 20, 21, 22, 23, 24, 25, 26, 27] rfl (by decide +kernel)) (goodIn_sub (fun _ h => List.mem_cons_of_mem _ (List.mem_append_right _ h)) (by decide +kernel))
set_option maxRecDepth 20000 in
theorem gL_stack_X11_stack : GoodIn wsL_stack (wsV RL 21 RX11 yX11_stack wsX11_stack) := goodIn_app (goodIn_of _ (by decide +kernel)) ggL_stack_X11_stack
set_option maxRecDepth 20000 in
theorem ggL_cell_X11_cell : GoodIn wsL_cell wsX11_cell := goodIn_ca (goodIn_r _ [6, 7, 8, 9, 10, 11, 12, 13, 14, 15, 16, 17, 18, 19, 20, 21, 22, 23, 24, 25, 26, 27, 28, 29, 30, 31, 32, 33, 34, 35, 36, 37] rfl (by decide +kernel)) (goodIn_sub (fun _ h => List.mem_cons_of_mem _ (List.mem_append_right _ h)) (by decide +kernel))
set_option maxRecDepth 20000 in
theorem gL_cell_X11_cell : GoodIn wsL_cell (wsV RL 24 RX11 yX11_cell wsX11_cell) := goodIn_app (goodIn_of _ (by decide +kernel)) ggL_cell_X11_cell
set_option maxRecDepth 20000 in
theorem ggL_word_X11_word : GoodIn wsL_word wsX11_word := goodIn_ca (goodIn_ca (goodIn_r _ [6, 7, 8, 9, 10, 11, 12, 13, 14, 15, 16, 17, 18, 19, 20, 21, 22, 23, 24, 25, 26, 27, 28, 29, 30, 31, 32, 33, 34] rfl (by decide +kernel)) (goodIn_sub (fun _ h => List.mem_cons_of_mem _ (List.mem_append_left _ (List.mem_append_right _ h))) (by decide +kernel))) (goodIn_sub (fun _ h => List.mem_cons_of_mem _ (List.mem_append_right _ h)) (by decide +kernel))
set_option maxRecDepth 20000 in
theorem gL_word_X11_word : GoodIn wsL_word (wsV RL 27 RX11 yX11_word wsX11_word) := goodIn_app (goodIn_of _ (by decide +kernel)) ggL_word_X11_word
theorem g2L_word_X11_word : GoodIn wsL_word2 (wsV RL 27 RX11 yX11_word wsX11_word) := fun w h => ⟨word2 (gL_word_X11_word w h).1, (gL_word_X11_word w h).2⟩
set_option maxHeartbeats 4000000 in
set_option maxRecDepth 100000 in
theorem c_L_run (l : Launch) (D : va_G) (cA : Nat → ClassId) (ad adK adV : Nat → Nat) (tA tS : Nat) (g : Nat → Nat) (b : Nat) (sz : Nat) (x1 : Int32) (t : tT) (s : tR) (y : tY) (d : tD) (q : tP) (k : tK) (r : tR) (c : tC) (o : tO) (m : tM) (f : Nat → Int64) (u : Int32 × tT × tR × tY × tD × tP × tK × tR × tC × tO × tM) (hE : f_X11_run x1 t s y d q k r c o m = some u) : Met l yL_run wsL_run ({ frames := 10, cells := 0, slots := 0, locals := 219 }) (va_Pc [.ref (g 28), .int x1, .ref b] (PRE D cA (wL g b cA t s y d q k r c o m f) sz (fun U => SX ad adK adV tA tS (va_A (wL g b cA t s y d q k r c o m f) sz) U U.heap))) (cQi D (wL g b cA u.2.1 u.2.2.1 u.2.2.2.1 u.2.2.2.2.1 u.2.2.2.2.2.1 u.2.2.2.2.2.2.1 u.2.2.2.2.2.2.2.1 u.2.2.2.2.2.2.2.2.1 u.2.2.2.2.2.2.2.2.2.1 u.2.2.2.2.2.2.2.2.2.2 (vp_updL f 0 u.1.toInt64)) (va_A (wL g b cA t s y d q k r c o m f) sz) 0) 0 0 (va_A (wL g b cA t s y d q k r c o m f) sz) := by
  refine mo_WH (cc := cL_run) (maxL := 4) (ret := (some .int)) (hh := [(0, 9, 12, 13)]) (by decide) rfl ?_
  intro PP EE S0 MM args below meth CC S1 B hml hv
  obtain ⟨rfl, hsz, hP, hK, hD0, hX⟩ := hv
  have hx := B.exec
  have hb := B.bytes
  have hr := B.returns
  have hts := atoms_spec (ws := wsL_run) B.pre
  have hown : S0.vm.findClass RL = some MM.cls := findClass_of_methodNamed B.named
  have hlocks := B.notSynchronized
  subst hsz
  have hD := hD0.self (sz := S0.heap.size)
  have hX : SX ad adK adV tA tS (va_A (wL g b cA t s y d q k r c o m f) S0.heap.size) S0 S0.heap := hX
  generalize hAe : va_A (wL g b cA t s y d q k r c o m f) S0.heap.size = A at hD hX ⊢
  have hA : ∀ q : Nat, S0.heap.size ≤ q → A q := fun q h => by rw [← hAe]; exact Or.inr h
  have hS : va_S A S0.heap S0.heap [] := va_S.rf
  have hl := lv_entry ([.ref (g 28), .int x1, .ref b]) (n := 4) (Nat.le_of_ble_eq_true rfl)
  rw [lg_entry_eq]
  generalize (lg_sl ([.ref (g 28), .int x1, .ref b]) ++ List.replicate (4 - (lg_sl ([.ref (g 28), .int x1, .ref b])).length) Slot.unset).toArray = ls at hl ⊢
  have hl : lv_has ls 4 [(0, .ref (g 28)), (1, .int x1), (2, .ref b)] := hl
  refine lv_aload_n hx hb dL_run_0 rfl (lv_at hl 2 rfl) ?_
  refine lv_iconst (v := 0) hx hb dL_run_1 (by decide +kernel) ?_
  refine lv_aload_n hx hb dL_run_2 rfl (lv_at hl 0 rfl) ?_
  refine lv_iload_n hx hb dL_run_3 rfl (lv_at hl 1 rfl) ?_
  obtain ⟨H, hH⟩ : ∃ z, z = S0.heap := ⟨_, rfl⟩
  rw [← hH] at hP
  have hS : va_S A S0.heap H [] := by rw [hH]; exact hS
  rw [← hH]
  refine cn_i (As := [.int x1]) (rest := [.int 0, .ref b]) (r := u.1) (w0 := (wL g b cA t s y d q k r c o m f)) (N := 30) ⟨hx, hb, hml, hown, hts⟩ (c_X11_run l D cA ad adK adV tA tS g H.size x1 t s y d q k r c o m u hE) (cwV 1 hts gL_run_X11_run rfl rfl rfl (by decide +kernel) ⟨Nat.le_of_ble_eq_true rfl, Nat.le_of_ble_eq_true rfl⟩) rfl hl.1 rfl (Nat.le_of_ble_eq_true rfl) dL_run_4 ⟨Nat.zero_le _, Nat.zero_le _⟩ hK hP hD hS hA (va_recv hK hP (ci := 9) (q0 := 28) rfl rfl) [0, 1, 2, 3, 4, 5, 6, 7, 8, 9, 10, 11, 12, 13, 14, 15, 16, 17, 18, 19, 20, 21, 22, 23, 24, 25, 26, 27, 28] [29] (wL g b cA u.2.1 u.2.2.1 u.2.2.2.1 u.2.2.2.2.1 u.2.2.2.2.2.1 u.2.2.2.2.2.2.1 u.2.2.2.2.2.2.2.1 u.2.2.2.2.2.2.2.2.1 u.2.2.2.2.2.2.2.2.2.1 u.2.2.2.2.2.2.2.2.2.2 f) rfl (by decide +kernel) rfl (wr := [(b, .inl (cA 3, 1, .inr (.inl f)))]) rfl rfl (by decide +kernel) rfl (by decide +kernel) [g 0, g 1, g 2, g 3, g 4, g 5, g 6, g 7, g 8, g 9, g 10, g 11, g 12, g 13, g 14, g 15, g 16, g 17, g 18, g 19, g 20, g 21, g 22, g 23, g 24, g 25, g 26, g 27, g 28, b] rfl rfl (fun a U g mk h => SX.blind a U g mk h) (fun U hU hW => SX.call hX hS (va_free (wc := (wG g cA t s y d q k r c o m)) hD hS hA [0, 1, 2, 3, 4, 5, 6, 7, 8, 9, 10, 11, 12, 13, 14, 15, 16, 17, 18, 19, 20, 21, 22, 23, 24, 25, 26, 27, 28] rfl) U hU hW) (fun H locs hP hD hS => ?_)
  refine lv_i2l hx hb dL_run_7 rfl ?_
  refine va_last hx hb hK hP hD hS 29 3 rfl rfl (show vp_in 0 1 from vp_in_nI (n := 0) (N := 1) (by decide) (by decide)) dL_run_8 (fun H locs hP hD hS => ?_)
  have hP : va_P D vwCl (wL g b cA u.2.1 u.2.2.1 u.2.2.2.1 u.2.2.2.2.1 u.2.2.2.2.2.1 u.2.2.2.2.2.2.1 u.2.2.2.2.2.2.2.1 u.2.2.2.2.2.2.2.2.1 u.2.2.2.2.2.2.2.2.2.1 u.2.2.2.2.2.2.2.2.2.2 (vp_updL f 0 u.1.toInt64)) H := hP
  refine lv_goto (tgt := 15) hx hb dL_run_9 (by decide) ?_
  refine lv_iconst (v := 0) hx hb dL_run_15 (by decide +kernel) ?_
  exact rt_i hx hb hr hP hS rfl hlocks dL_run_16
set_option maxHeartbeats 4000000 in
set_option maxRecDepth 100000 in
theorem x_L_run (l : Launch) (hst : l.stackTraces = false) (D : va_G) (cA : Nat → ClassId) (ad adK adV : Nat → Nat) (tA tS : Nat) (sa : Nat → Nat) (g : Nat → Nat) (b : Nat) (sz : Nat) (x1 : Int32) (t : tT) (s : tR) (y : tY) (d : tD) (q : tP) (k : tK) (r : tR) (c : tC) (o : tO) (m : tM) (f : Nat → Int64) (hE : t_X11_run x1 t s y d q k r c o m = some 2) : Met l yL_run wsL_run ({ frames := 10, cells := 1, slots := 6, locals := 219 }) (va_Pc [.ref (g 28), .int x1, .ref b] (PRE D cA (wL g b cA t s y d q k r c o m f) sz (fun U => SX ad adK adV tA tS (va_A (wL g b cA t s y d q k r c o m f) sz) U U.heap ∧ EX sa (va_A (wL g b cA t s y d q k r c o m f) sz) U U.heap))) (cQi D (wL g b cA t s y d q k r c o m f) (va_A (wL g b cA t s y d q k r c o m f) sz) 1) 1 6 (va_A (wL g b cA t s y d q k r c o m f) sz) := by
  refine mo_WH (cc := cL_run) (maxL := 4) (ret := (some .int)) (hh := [(0, 9, 12, 13)]) (by decide) rfl ?_
  intro PP EE S0 MM args below meth CC S1 B hml hv
  obtain ⟨rfl, hsz, hP, hK, hD0, hX, hEX⟩ := hv
  have hx := B.exec
  have hb := B.bytes
  have hr := B.returns
  have hts := atoms_spec (ws := wsL_run) B.pre
  have hown : S0.vm.findClass RL = some MM.cls := findClass_of_methodNamed B.named
  have hlocks := B.notSynchronized
  subst hsz
  have hD := hD0.self (sz := S0.heap.size)
  have hX : SX ad adK adV tA tS (va_A (wL g b cA t s y d q k r c o m f) S0.heap.size) S0 S0.heap := hX
  have hEX : EX sa (va_A (wL g b cA t s y d q k r c o m f) S0.heap.size) S0 S0.heap := hEX
  generalize hAe : va_A (wL g b cA t s y d q k r c o m f) S0.heap.size = A at hD hX hEX ⊢
  have hA : ∀ q : Nat, S0.heap.size ≤ q → A q := fun q h => by rw [← hAe]; exact Or.inr h
  have hS : va_S A S0.heap S0.heap [] := va_S.rf
  have hl := lv_entry ([.ref (g 28), .int x1, .ref b]) (n := 4) (Nat.le_of_ble_eq_true rfl)
  rw [lg_entry_eq]
  generalize (lg_sl ([.ref (g 28), .int x1, .ref b]) ++ List.replicate (4 - (lg_sl ([.ref (g 28), .int x1, .ref b])).length) Slot.unset).toArray = ls at hl ⊢
  have hl : lv_has ls 4 [(0, .ref (g 28)), (1, .int x1), (2, .ref b)] := hl
  refine lv_aload_n hx hb dL_run_0 rfl (lv_at hl 2 rfl) ?_
  refine lv_iconst (v := 0) hx hb dL_run_1 (by decide +kernel) ?_
  refine lv_aload_n hx hb dL_run_2 rfl (lv_at hl 0 rfl) ?_
  refine lv_iload_n hx hb dL_run_3 rfl (lv_at hl 1 rfl) ?_
  obtain ⟨H, hH⟩ : ∃ z, z = S0.heap := ⟨_, rfl⟩
  rw [← hH] at hP
  have hS : va_S A S0.heap H [] := by rw [hH]; exact hS
  rw [← hH]
  have hF := va_free (wc := (wG g cA t s y d q k r c o m)) hD hS hA [0, 1, 2, 3, 4, 5, 6, 7, 8, 9, 10, 11, 12, 13, 14, 15, 16, 17, 18, 19, 20, 21, 22, 23, 24, 25, 26, 27, 28] rfl
  refine vx_calli (vx_runV (As := [.int x1]) (rest := [.int 0, .ref b]) ⟨hx, hb, hml, hown, hts⟩ (x_X11_run l hst D cA ad adK adV tA tS sa g H.size x1 t s y d q k r c o m 2 hE) (cwV 1 hts gL_run_X11_run rfl rfl rfl (by decide +kernel) ⟨Nat.le_of_ble_eq_true rfl, Nat.le_of_ble_eq_true rfl⟩) ⟨pre_blind _ (fun a U g mk h => ⟨SX.blind a U g mk h.1, EX.blind a U g mk h.2⟩), va_recv hK hP (ci := 9) (q0 := 28) rfl rfl, fun U hU hW => pre_at (.ref (g 28) :: [.int x1]) hK hP hD [0, 1, 2, 3, 4, 5, 6, 7, 8, 9, 10, 11, 12, 13, 14, 15, 16, 17, 18, 19, 20, 21, 22, 23, 24, 25, 26, 27, 28] rfl (by decide +kernel) (fun U hU hW => ⟨SX.call hX hS hF U hU hW, EX.call hEX hS hF U hU hW⟩) U hU hW⟩ rfl rfl hl.1 rfl (lv_room (Nat.le_of_ble_eq_true rfl)) dL_run_4 ⟨Nat.le_of_ble_eq_true rfl, Nat.le_of_ble_eq_true rfl⟩) hS (fun q _ h => hF q h) hF (fun q _ h => hF q h) (fun E ce q9 u9 t9 H1 locs1 ht hvm hp hB hz1 hk1 hS1 hce hcv hcl => ?_) (fun r0 u9 t9 H1 locs1 ht hvm hw _ _ _ _ => hw.elim)
  obtain ⟨hE2, hP1⟩ := hB
  rw [ht] at hP1
  have hP2 : va_P D vwCl (wL g b cA t s y d q k r c o m f) H1 := j_N hP hD [0, 1, 2, 3, 4, 5, 6, 7, 8, 9, 10, 11, 12, 13, 14, 15, 16, 17, 18, 19, 20, 21, 22, 23, 24, 25, 26, 27, 28] [29] rfl hk1 hP1 rfl (wr := [(b, .inl (cA 3, 1, .inr (.inl f)))]) rfl rfl (by decide +kernel) (N := 30) rfl (by decide +kernel)
  have htb : CC.exceptionTable.toList = tableOf [(0, 9, 12, 13)] := vx_table (x := yL_run) B (hts _ List.mem_cons_self)
  have hE3 : E = "java/lang/IllegalArgumentException" := hE2
  subst hE3
  refine vx_catch (own := RL) (name := "java/lang/IllegalArgumentException") hown [] ⟨0, 9, 12, 13⟩ [] htb (fun z hz => nomatch hz) (by decide) (by decide) (hts (.classLink RL 13 "java/lang/IllegalArgumentException") (List.mem_of_getElem? (i := 1) rfl)) (va_Nw.use rfl (hEX.2.2.2.1 (.castable "java/lang/IllegalArgumentException" "java/lang/IllegalArgumentException") (List.mem_of_getElem? (i := 4) rfl))) hce hcv hcl ?_
  refine lv_astore_n (lv' := [(3, .ref q9), (0, .ref (g 28)), (1, .int x1), (2, .ref b)]) hx hb dL_run_12 rfl hl (by decide) rfl (fun ls hl => ?_)
  refine lv_iconst (v := 1) hx hb dL_run_13 (by decide +kernel) ?_
  exact rt_i hx hb hr hP2 hS1 rfl hlocks dL_run_14
set_option maxHeartbeats 4000000 in
set_option maxRecDepth 100000 in
theorem c_L_output (l : Launch) (D : va_G) (cA : Nat → ClassId) (ad adK adV : Nat → Nat) (tA tS : Nat) (g : Nat → Nat) (b : Nat) (sz : Nat) (x1 : Int32) (t : tT) (s : tR) (y : tY) (d : tD) (q : tP) (k : tK) (r : tR) (c : tC) (o : tO) (m : tM) (f : Nat → Int64) (u : Int32) (hE : f_X11_output x1 o = some u) : Met l yL_output wsL_output ({ frames := 1, cells := 0, slots := 0, locals := 21 }) (va_Pc [.ref (g 28), .int x1, .ref b] (PRE D cA (wL g b cA t s y d q k r c o m f) sz (fun U => SX ad adK adV tA tS (va_A (wL g b cA t s y d q k r c o m f) sz) U U.heap))) (cQi D (wL g b cA t s y d q k r c o m (vp_updL f 0 u.toInt64)) (va_A (wL g b cA t s y d q k r c o m f) sz) 0) 0 0 (va_A (wL g b cA t s y d q k r c o m f) sz) := by
  refine mo_WH (cc := cL_output) (maxL := 4) (ret := (some .int)) (hh := [(0, 9, 12, 19)]) (by decide) rfl ?_
  intro PP EE S0 MM args below meth CC S1 B hml hv
  obtain ⟨rfl, hsz, hP, hK, hD0, hX⟩ := hv
  have hx := B.exec
  have hb := B.bytes
  have hr := B.returns
  have hts := atoms_spec (ws := wsL_output) B.pre
  have hown : S0.vm.findClass RL = some MM.cls := findClass_of_methodNamed B.named
  have hlocks := B.notSynchronized
  subst hsz
  have hD := hD0.self (sz := S0.heap.size)
  have hX : SX ad adK adV tA tS (va_A (wL g b cA t s y d q k r c o m f) S0.heap.size) S0 S0.heap := hX
  generalize hAe : va_A (wL g b cA t s y d q k r c o m f) S0.heap.size = A at hD hX ⊢
  have hA : ∀ q : Nat, S0.heap.size ≤ q → A q := fun q h => by rw [← hAe]; exact Or.inr h
  have hS : va_S A S0.heap S0.heap [] := va_S.rf
  have hl := lv_entry ([.ref (g 28), .int x1, .ref b]) (n := 4) (Nat.le_of_ble_eq_true rfl)
  rw [lg_entry_eq]
  generalize (lg_sl ([.ref (g 28), .int x1, .ref b]) ++ List.replicate (4 - (lg_sl ([.ref (g 28), .int x1, .ref b])).length) Slot.unset).toArray = ls at hl ⊢
  have hl : lv_has ls 4 [(0, .ref (g 28)), (1, .int x1), (2, .ref b)] := hl
  refine lv_aload_n hx hb dL_output_0 rfl (lv_at hl 2 rfl) ?_
  refine lv_iconst (v := 0) hx hb dL_output_1 (by decide +kernel) ?_
  refine lv_aload_n hx hb dL_output_2 rfl (lv_at hl 0 rfl) ?_
  refine lv_iload_n hx hb dL_output_3 rfl (lv_at hl 1 rfl) ?_
  obtain ⟨H, hH⟩ : ∃ z, z = S0.heap := ⟨_, rfl⟩
  rw [← hH] at hP
  have hS : va_S A S0.heap H [] := by rw [hH]; exact hS
  rw [← hH]
  refine cn_i (As := [.int x1]) (rest := [.int 0, .ref b]) (r := u) (w0 := (wL g b cA t s y d q k r c o m f)) (N := 30) ⟨hx, hb, hml, hown, hts⟩ (c_X11_output l D cA ad adK adV tA tS g H.size x1 t s y d q k r c o m u hE) (cwV 1 hts gL_output_X11_output rfl rfl rfl (by decide +kernel) ⟨Nat.le_of_ble_eq_true rfl, Nat.le_of_ble_eq_true rfl⟩) rfl hl.1 rfl (Nat.le_of_ble_eq_true rfl) dL_output_4 ⟨Nat.zero_le _, Nat.zero_le _⟩ hK hP hD hS hA (va_recv hK hP (ci := 9) (q0 := 28) rfl rfl) [0, 1, 2, 3, 4, 5, 6, 7, 8, 9, 10, 11, 12, 13, 14, 15, 16, 17, 18, 19, 20, 21, 22, 23, 24, 25, 26, 27, 28] [29] (wL g b cA t s y d q k r c o m f) rfl (by decide +kernel) rfl (wr := [(b, .inl (cA 3, 1, .inr (.inl f)))]) rfl rfl (by decide +kernel) rfl (by decide +kernel) [g 0, g 1, g 2, g 3, g 4, g 5, g 6, g 7, g 8, g 9, g 10, g 11, g 12, g 13, g 14, g 15, g 16, g 17, g 18, g 19, g 20, g 21, g 22, g 23, g 24, g 25, g 26, g 27, g 28, b] rfl rfl (fun a U g mk h => SX.blind a U g mk h) (fun U hU hW => SX.call hX hS (va_free (wc := (wG g cA t s y d q k r c o m)) hD hS hA [0, 1, 2, 3, 4, 5, 6, 7, 8, 9, 10, 11, 12, 13, 14, 15, 16, 17, 18, 19, 20, 21, 22, 23, 24, 25, 26, 27, 28] rfl) U hU hW) (fun H locs hP hD hS => ?_)
  refine lv_i2l hx hb dL_output_7 rfl ?_
  refine va_last hx hb hK hP hD hS 29 3 rfl rfl (show vp_in 0 1 from vp_in_nI (n := 0) (N := 1) (by decide) (by decide)) dL_output_8 (fun H locs hP hD hS => ?_)
  have hP : va_P D vwCl (wL g b cA t s y d q k r c o m (vp_updL f 0 u.toInt64)) H := hP
  refine lv_goto (tgt := 15) hx hb dL_output_9 (by decide) ?_
  refine lv_iconst (v := 0) hx hb dL_output_15 (by decide +kernel) ?_
  exact rt_i hx hb hr hP hS rfl hlocks dL_output_16
set_option maxHeartbeats 4000000 in
set_option maxRecDepth 100000 in
theorem x_L_output (l : Launch) (hst : l.stackTraces = false) (D : va_G) (cA : Nat → ClassId) (ad adK adV : Nat → Nat) (tA tS : Nat) (sa : Nat → Nat) (g : Nat → Nat) (b : Nat) (sz : Nat) (x1 : Int32) (t : tT) (s : tR) (y : tY) (d : tD) (q : tP) (k : tK) (r : tR) (c : tC) (o : tO) (m : tM) (f : Nat → Int64) (hE : t_X11_output x1 o = some 1) : Met l yL_output wsL_output ({ frames := 7, cells := 1, slots := 6, locals := 103 }) (va_Pc [.ref (g 28), .int x1, .ref b] (PRE D cA (wL g b cA t s y d q k r c o m f) sz (fun U => SX ad adK adV tA tS (va_A (wL g b cA t s y d q k r c o m f) sz) U U.heap ∧ EX sa (va_A (wL g b cA t s y d q k r c o m f) sz) U U.heap))) (cQi D (wL g b cA t s y d q k r c o m f) (va_A (wL g b cA t s y d q k r c o m f) sz) 1) 1 6 (va_A (wL g b cA t s y d q k r c o m f) sz) := by
  refine mo_WH (cc := cL_output) (maxL := 4) (ret := (some .int)) (hh := [(0, 9, 12, 19)]) (by decide) rfl ?_
  intro PP EE S0 MM args below meth CC S1 B hml hv
  obtain ⟨rfl, hsz, hP, hK, hD0, hX, hEX⟩ := hv
  have hx := B.exec
  have hb := B.bytes
  have hr := B.returns
  have hts := atoms_spec (ws := wsL_output) B.pre
  have hown : S0.vm.findClass RL = some MM.cls := findClass_of_methodNamed B.named
  have hlocks := B.notSynchronized
  subst hsz
  have hD := hD0.self (sz := S0.heap.size)
  have hX : SX ad adK adV tA tS (va_A (wL g b cA t s y d q k r c o m f) S0.heap.size) S0 S0.heap := hX
  have hEX : EX sa (va_A (wL g b cA t s y d q k r c o m f) S0.heap.size) S0 S0.heap := hEX
  generalize hAe : va_A (wL g b cA t s y d q k r c o m f) S0.heap.size = A at hD hX hEX ⊢
  have hA : ∀ q : Nat, S0.heap.size ≤ q → A q := fun q h => by rw [← hAe]; exact Or.inr h
  have hS : va_S A S0.heap S0.heap [] := va_S.rf
  have hl := lv_entry ([.ref (g 28), .int x1, .ref b]) (n := 4) (Nat.le_of_ble_eq_true rfl)
  rw [lg_entry_eq]
  generalize (lg_sl ([.ref (g 28), .int x1, .ref b]) ++ List.replicate (4 - (lg_sl ([.ref (g 28), .int x1, .ref b])).length) Slot.unset).toArray = ls at hl ⊢
  have hl : lv_has ls 4 [(0, .ref (g 28)), (1, .int x1), (2, .ref b)] := hl
  refine lv_aload_n hx hb dL_output_0 rfl (lv_at hl 2 rfl) ?_
  refine lv_iconst (v := 0) hx hb dL_output_1 (by decide +kernel) ?_
  refine lv_aload_n hx hb dL_output_2 rfl (lv_at hl 0 rfl) ?_
  refine lv_iload_n hx hb dL_output_3 rfl (lv_at hl 1 rfl) ?_
  obtain ⟨H, hH⟩ : ∃ z, z = S0.heap := ⟨_, rfl⟩
  rw [← hH] at hP
  have hS : va_S A S0.heap H [] := by rw [hH]; exact hS
  rw [← hH]
  have hF := va_free (wc := (wG g cA t s y d q k r c o m)) hD hS hA [0, 1, 2, 3, 4, 5, 6, 7, 8, 9, 10, 11, 12, 13, 14, 15, 16, 17, 18, 19, 20, 21, 22, 23, 24, 25, 26, 27, 28] rfl
  refine vx_calli (vx_runV (As := [.int x1]) (rest := [.int 0, .ref b]) ⟨hx, hb, hml, hown, hts⟩ (x_X11_output l hst D cA ad adK adV tA tS sa g H.size x1 t s y d q k r c o m 1 hE) (cwV 1 hts gL_output_X11_output rfl rfl rfl (by decide +kernel) ⟨Nat.le_of_ble_eq_true rfl, Nat.le_of_ble_eq_true rfl⟩) ⟨pre_blind _ (fun a U g mk h => ⟨SX.blind a U g mk h.1, EX.blind a U g mk h.2⟩), va_recv hK hP (ci := 9) (q0 := 28) rfl rfl, fun U hU hW => pre_at (.ref (g 28) :: [.int x1]) hK hP hD [0, 1, 2, 3, 4, 5, 6, 7, 8, 9, 10, 11, 12, 13, 14, 15, 16, 17, 18, 19, 20, 21, 22, 23, 24, 25, 26, 27, 28] rfl (by decide +kernel) (fun U hU hW => ⟨SX.call hX hS hF U hU hW, EX.call hEX hS hF U hU hW⟩) U hU hW⟩ rfl rfl hl.1 rfl (lv_room (Nat.le_of_ble_eq_true rfl)) dL_output_4 ⟨Nat.le_of_ble_eq_true rfl, Nat.le_of_ble_eq_true rfl⟩) hS (fun q _ h => hF q h) hF (fun q _ h => hF q h) (fun E ce q9 u9 t9 H1 locs1 ht hvm hp hB hz1 hk1 hS1 hce hcv hcl => ?_) (fun r0 u9 t9 H1 locs1 ht hvm hw _ _ _ _ => hw.elim)
  obtain ⟨hE2, hP1⟩ := hB
  rw [ht] at hP1
  have hP2 : va_P D vwCl (wL g b cA t s y d q k r c o m f) H1 := j_N hP hD [0, 1, 2, 3, 4, 5, 6, 7, 8, 9, 10, 11, 12, 13, 14, 15, 16, 17, 18, 19, 20, 21, 22, 23, 24, 25, 26, 27, 28] [29] rfl hk1 hP1 rfl (wr := [(b, .inl (cA 3, 1, .inr (.inl f)))]) rfl rfl (by decide +kernel) (N := 30) rfl (by decide +kernel)
  have htb : CC.exceptionTable.toList = tableOf [(0, 9, 12, 19)] := vx_table (x := yL_run) B (hts _ List.mem_cons_self)
  have hE3 : E = "java/lang/IndexOutOfBoundsException" := hE2
  subst hE3
  refine vx_catch (own := RL) (name := "java/lang/IndexOutOfBoundsException") hown [] ⟨0, 9, 12, 19⟩ [] htb (fun z hz => nomatch hz) (by decide) (by decide) (hts (.classLink RL 19 "java/lang/IndexOutOfBoundsException") (List.mem_of_getElem? (i := 1) rfl)) (va_Nw.use rfl (hEX.2.2.2.1 (.castable "java/lang/IndexOutOfBoundsException" "java/lang/IndexOutOfBoundsException") (List.mem_of_getElem? (i := 3) rfl))) hce hcv hcl ?_
  refine lv_astore_n (lv' := [(3, .ref q9), (0, .ref (g 28)), (1, .int x1), (2, .ref b)]) hx hb dL_output_12 rfl hl (by decide) rfl (fun ls hl => ?_)
  refine lv_iconst (v := 1) hx hb dL_output_13 (by decide +kernel) ?_
  exact rt_i hx hb hr hP2 hS1 rfl hlocks dL_output_14
set_option maxHeartbeats 4000000 in
set_option maxRecDepth 100000 in
theorem c_L_stack (l : Launch) (D : va_G) (cA : Nat → ClassId) (ad adK adV : Nat → Nat) (tA tS : Nat) (g : Nat → Nat) (b : Nat) (sz : Nat) (x1 : Int32) (t : tT) (s : tR) (y : tY) (d : tD) (q : tP) (k : tK) (r : tR) (c : tC) (o : tO) (m : tM) (f : Nat → Int64) (u : Int32) (hE : f_X11_stack x1 s = some u) : Met l yL_stack wsL_stack ({ frames := 1, cells := 0, slots := 0, locals := 21 }) (va_Pc [.ref (g 28), .int x1, .ref b] (PRE D cA (wL g b cA t s y d q k r c o m f) sz (fun U => SX ad adK adV tA tS (va_A (wL g b cA t s y d q k r c o m f) sz) U U.heap))) (cQi D (wL g b cA t s y d q k r c o m (vp_updL f 0 u.toInt64)) (va_A (wL g b cA t s y d q k r c o m f) sz) 0) 0 0 (va_A (wL g b cA t s y d q k r c o m f) sz) := by
  refine mo_WH (cc := cL_stack) (maxL := 4) (ret := (some .int)) (hh := [(0, 9, 12, 19)]) (by decide) rfl ?_
  intro PP EE S0 MM args below meth CC S1 B hml hv
  obtain ⟨rfl, hsz, hP, hK, hD0, hX⟩ := hv
  have hx := B.exec
  have hb := B.bytes
  have hr := B.returns
  have hts := atoms_spec (ws := wsL_stack) B.pre
  have hown : S0.vm.findClass RL = some MM.cls := findClass_of_methodNamed B.named
  have hlocks := B.notSynchronized
  subst hsz
  have hD := hD0.self (sz := S0.heap.size)
  have hX : SX ad adK adV tA tS (va_A (wL g b cA t s y d q k r c o m f) S0.heap.size) S0 S0.heap := hX
  generalize hAe : va_A (wL g b cA t s y d q k r c o m f) S0.heap.size = A at hD hX ⊢
  have hA : ∀ q : Nat, S0.heap.size ≤ q → A q := fun q h => by rw [← hAe]; exact Or.inr h
  have hS : va_S A S0.heap S0.heap [] := va_S.rf
  have hl := lv_entry ([.ref (g 28), .int x1, .ref b]) (n := 4) (Nat.le_of_ble_eq_true rfl)
  rw [lg_entry_eq]
  generalize (lg_sl ([.ref (g 28), .int x1, .ref b]) ++ List.replicate (4 - (lg_sl ([.ref (g 28), .int x1, .ref b])).length) Slot.unset).toArray = ls at hl ⊢
  have hl : lv_has ls 4 [(0, .ref (g 28)), (1, .int x1), (2, .ref b)] := hl
  refine lv_aload_n hx hb dL_stack_0 rfl (lv_at hl 2 rfl) ?_
  refine lv_iconst (v := 0) hx hb dL_stack_1 (by decide +kernel) ?_
  refine lv_aload_n hx hb dL_stack_2 rfl (lv_at hl 0 rfl) ?_
  refine lv_iload_n hx hb dL_stack_3 rfl (lv_at hl 1 rfl) ?_
  obtain ⟨H, hH⟩ : ∃ z, z = S0.heap := ⟨_, rfl⟩
  rw [← hH] at hP
  have hS : va_S A S0.heap H [] := by rw [hH]; exact hS
  rw [← hH]
  refine cn_i (As := [.int x1]) (rest := [.int 0, .ref b]) (r := u) (w0 := (wL g b cA t s y d q k r c o m f)) (N := 30) ⟨hx, hb, hml, hown, hts⟩ (c_X11_stack l D cA ad adK adV tA tS g H.size x1 t s y d q k r c o m u hE) (cwV 1 hts gL_stack_X11_stack rfl rfl rfl (by decide +kernel) ⟨Nat.le_of_ble_eq_true rfl, Nat.le_of_ble_eq_true rfl⟩) rfl hl.1 rfl (Nat.le_of_ble_eq_true rfl) dL_stack_4 ⟨Nat.zero_le _, Nat.zero_le _⟩ hK hP hD hS hA (va_recv hK hP (ci := 9) (q0 := 28) rfl rfl) [0, 1, 2, 3, 4, 5, 6, 7, 8, 9, 10, 11, 12, 13, 14, 15, 16, 17, 18, 19, 20, 21, 22, 23, 24, 25, 26, 27, 28] [29] (wL g b cA t s y d q k r c o m f) rfl (by decide +kernel) rfl (wr := [(b, .inl (cA 3, 1, .inr (.inl f)))]) rfl rfl (by decide +kernel) rfl (by decide +kernel) [g 0, g 1, g 2, g 3, g 4, g 5, g 6, g 7, g 8, g 9, g 10, g 11, g 12, g 13, g 14, g 15, g 16, g 17, g 18, g 19, g 20, g 21, g 22, g 23, g 24, g 25, g 26, g 27, g 28, b] rfl rfl (fun a U g mk h => SX.blind a U g mk h) (fun U hU hW => SX.call hX hS (va_free (wc := (wG g cA t s y d q k r c o m)) hD hS hA [0, 1, 2, 3, 4, 5, 6, 7, 8, 9, 10, 11, 12, 13, 14, 15, 16, 17, 18, 19, 20, 21, 22, 23, 24, 25, 26, 27, 28] rfl) U hU hW) (fun H locs hP hD hS => ?_)
  refine lv_i2l hx hb dL_stack_7 rfl ?_
  refine va_last hx hb hK hP hD hS 29 3 rfl rfl (show vp_in 0 1 from vp_in_nI (n := 0) (N := 1) (by decide) (by decide)) dL_stack_8 (fun H locs hP hD hS => ?_)
  have hP : va_P D vwCl (wL g b cA t s y d q k r c o m (vp_updL f 0 u.toInt64)) H := hP
  refine lv_goto (tgt := 15) hx hb dL_stack_9 (by decide) ?_
  refine lv_iconst (v := 0) hx hb dL_stack_15 (by decide +kernel) ?_
  exact rt_i hx hb hr hP hS rfl hlocks dL_stack_16
set_option maxHeartbeats 4000000 in
set_option maxRecDepth 100000 in
theorem x_L_stack (l : Launch) (hst : l.stackTraces = false) (D : va_G) (cA : Nat → ClassId) (ad adK adV : Nat → Nat) (tA tS : Nat) (sa : Nat → Nat) (g : Nat → Nat) (b : Nat) (sz : Nat) (x1 : Int32) (t : tT) (s : tR) (y : tY) (d : tD) (q : tP) (k : tK) (r : tR) (c : tC) (o : tO) (m : tM) (f : Nat → Int64) (hE : t_X11_stack x1 s = some 1) : Met l yL_stack wsL_stack ({ frames := 7, cells := 1, slots := 6, locals := 103 }) (va_Pc [.ref (g 28), .int x1, .ref b] (PRE D cA (wL g b cA t s y d q k r c o m f) sz (fun U => SX ad adK adV tA tS (va_A (wL g b cA t s y d q k r c o m f) sz) U U.heap ∧ EX sa (va_A (wL g b cA t s y d q k r c o m f) sz) U U.heap))) (cQi D (wL g b cA t s y d q k r c o m f) (va_A (wL g b cA t s y d q k r c o m f) sz) 1) 1 6 (va_A (wL g b cA t s y d q k r c o m f) sz) := by
  refine mo_WH (cc := cL_stack) (maxL := 4) (ret := (some .int)) (hh := [(0, 9, 12, 19)]) (by decide) rfl ?_
  intro PP EE S0 MM args below meth CC S1 B hml hv
  obtain ⟨rfl, hsz, hP, hK, hD0, hX, hEX⟩ := hv
  have hx := B.exec
  have hb := B.bytes
  have hr := B.returns
  have hts := atoms_spec (ws := wsL_stack) B.pre
  have hown : S0.vm.findClass RL = some MM.cls := findClass_of_methodNamed B.named
  have hlocks := B.notSynchronized
  subst hsz
  have hD := hD0.self (sz := S0.heap.size)
  have hX : SX ad adK adV tA tS (va_A (wL g b cA t s y d q k r c o m f) S0.heap.size) S0 S0.heap := hX
  have hEX : EX sa (va_A (wL g b cA t s y d q k r c o m f) S0.heap.size) S0 S0.heap := hEX
  generalize hAe : va_A (wL g b cA t s y d q k r c o m f) S0.heap.size = A at hD hX hEX ⊢
  have hA : ∀ q : Nat, S0.heap.size ≤ q → A q := fun q h => by rw [← hAe]; exact Or.inr h
  have hS : va_S A S0.heap S0.heap [] := va_S.rf
  have hl := lv_entry ([.ref (g 28), .int x1, .ref b]) (n := 4) (Nat.le_of_ble_eq_true rfl)
  rw [lg_entry_eq]
  generalize (lg_sl ([.ref (g 28), .int x1, .ref b]) ++ List.replicate (4 - (lg_sl ([.ref (g 28), .int x1, .ref b])).length) Slot.unset).toArray = ls at hl ⊢
  have hl : lv_has ls 4 [(0, .ref (g 28)), (1, .int x1), (2, .ref b)] := hl
  refine lv_aload_n hx hb dL_stack_0 rfl (lv_at hl 2 rfl) ?_
  refine lv_iconst (v := 0) hx hb dL_stack_1 (by decide +kernel) ?_
  refine lv_aload_n hx hb dL_stack_2 rfl (lv_at hl 0 rfl) ?_
  refine lv_iload_n hx hb dL_stack_3 rfl (lv_at hl 1 rfl) ?_
  obtain ⟨H, hH⟩ : ∃ z, z = S0.heap := ⟨_, rfl⟩
  rw [← hH] at hP
  have hS : va_S A S0.heap H [] := by rw [hH]; exact hS
  rw [← hH]
  have hF := va_free (wc := (wG g cA t s y d q k r c o m)) hD hS hA [0, 1, 2, 3, 4, 5, 6, 7, 8, 9, 10, 11, 12, 13, 14, 15, 16, 17, 18, 19, 20, 21, 22, 23, 24, 25, 26, 27, 28] rfl
  refine vx_calli (vx_runV (As := [.int x1]) (rest := [.int 0, .ref b]) ⟨hx, hb, hml, hown, hts⟩ (x_X11_stack l hst D cA ad adK adV tA tS sa g H.size x1 t s y d q k r c o m 1 hE) (cwV 1 hts gL_stack_X11_stack rfl rfl rfl (by decide +kernel) ⟨Nat.le_of_ble_eq_true rfl, Nat.le_of_ble_eq_true rfl⟩) ⟨pre_blind _ (fun a U g mk h => ⟨SX.blind a U g mk h.1, EX.blind a U g mk h.2⟩), va_recv hK hP (ci := 9) (q0 := 28) rfl rfl, fun U hU hW => pre_at (.ref (g 28) :: [.int x1]) hK hP hD [0, 1, 2, 3, 4, 5, 6, 7, 8, 9, 10, 11, 12, 13, 14, 15, 16, 17, 18, 19, 20, 21, 22, 23, 24, 25, 26, 27, 28] rfl (by decide +kernel) (fun U hU hW => ⟨SX.call hX hS hF U hU hW, EX.call hEX hS hF U hU hW⟩) U hU hW⟩ rfl rfl hl.1 rfl (lv_room (Nat.le_of_ble_eq_true rfl)) dL_stack_4 ⟨Nat.le_of_ble_eq_true rfl, Nat.le_of_ble_eq_true rfl⟩) hS (fun q _ h => hF q h) hF (fun q _ h => hF q h) (fun E ce q9 u9 t9 H1 locs1 ht hvm hp hB hz1 hk1 hS1 hce hcv hcl => ?_) (fun r0 u9 t9 H1 locs1 ht hvm hw _ _ _ _ => hw.elim)
  obtain ⟨hE2, hP1⟩ := hB
  rw [ht] at hP1
  have hP2 : va_P D vwCl (wL g b cA t s y d q k r c o m f) H1 := j_N hP hD [0, 1, 2, 3, 4, 5, 6, 7, 8, 9, 10, 11, 12, 13, 14, 15, 16, 17, 18, 19, 20, 21, 22, 23, 24, 25, 26, 27, 28] [29] rfl hk1 hP1 rfl (wr := [(b, .inl (cA 3, 1, .inr (.inl f)))]) rfl rfl (by decide +kernel) (N := 30) rfl (by decide +kernel)
  have htb : CC.exceptionTable.toList = tableOf [(0, 9, 12, 19)] := vx_table (x := yL_run) B (hts _ List.mem_cons_self)
  have hE3 : E = "java/lang/IndexOutOfBoundsException" := hE2
  subst hE3
  refine vx_catch (own := RL) (name := "java/lang/IndexOutOfBoundsException") hown [] ⟨0, 9, 12, 19⟩ [] htb (fun z hz => nomatch hz) (by decide) (by decide) (hts (.classLink RL 19 "java/lang/IndexOutOfBoundsException") (List.mem_of_getElem? (i := 1) rfl)) (va_Nw.use rfl (hEX.2.2.2.1 (.castable "java/lang/IndexOutOfBoundsException" "java/lang/IndexOutOfBoundsException") (List.mem_of_getElem? (i := 3) rfl))) hce hcv hcl ?_
  refine lv_astore_n (lv' := [(3, .ref q9), (0, .ref (g 28)), (1, .int x1), (2, .ref b)]) hx hb dL_stack_12 rfl hl (by decide) rfl (fun ls hl => ?_)
  refine lv_iconst (v := 1) hx hb dL_stack_13 (by decide +kernel) ?_
  exact rt_i hx hb hr hP2 hS1 rfl hlocks dL_stack_14
set_option maxHeartbeats 4000000 in
set_option maxRecDepth 100000 in
theorem c_L_cell (l : Launch) (D : va_G) (cA : Nat → ClassId) (ad adK adV : Nat → Nat) (tA tS : Nat) (g : Nat → Nat) (b : Nat) (sz : Nat) (x1 : Int32) (t : tT) (s : tR) (y : tY) (d : tD) (q : tP) (k : tK) (r : tR) (c : tC) (o : tO) (m : tM) (f : Nat → Int64) (u : Int32) (hE : f_X11_cell x1 y = some u) : Met l yL_cell wsL_cell ({ frames := 3, cells := 0, slots := 0, locals := 63 }) (va_Pc [.ref (g 28), .int x1, .ref b] (PRE D cA (wL g b cA t s y d q k r c o m f) sz (fun U => SX ad adK adV tA tS (va_A (wL g b cA t s y d q k r c o m f) sz) U U.heap))) (cQi D (wL g b cA t s y d q k r c o m (vp_updL f 0 u.toInt64)) (va_A (wL g b cA t s y d q k r c o m f) sz) 0) 0 0 (va_A (wL g b cA t s y d q k r c o m f) sz) := by
  refine mo_WH (cc := cL_cell) (maxL := 4) (ret := (some .int)) (hh := [(0, 9, 12, 19)]) (by decide) rfl ?_
  intro PP EE S0 MM args below meth CC S1 B hml hv
  obtain ⟨rfl, hsz, hP, hK, hD0, hX⟩ := hv
  have hx := B.exec
  have hb := B.bytes
  have hr := B.returns
  have hts := atoms_spec (ws := wsL_cell) B.pre
  have hown : S0.vm.findClass RL = some MM.cls := findClass_of_methodNamed B.named
  have hlocks := B.notSynchronized
  subst hsz
  have hD := hD0.self (sz := S0.heap.size)
  have hX : SX ad adK adV tA tS (va_A (wL g b cA t s y d q k r c o m f) S0.heap.size) S0 S0.heap := hX
  generalize hAe : va_A (wL g b cA t s y d q k r c o m f) S0.heap.size = A at hD hX ⊢
  have hA : ∀ q : Nat, S0.heap.size ≤ q → A q := fun q h => by rw [← hAe]; exact Or.inr h
  have hS : va_S A S0.heap S0.heap [] := va_S.rf
  have hl := lv_entry ([.ref (g 28), .int x1, .ref b]) (n := 4) (Nat.le_of_ble_eq_true rfl)
  rw [lg_entry_eq]
  generalize (lg_sl ([.ref (g 28), .int x1, .ref b]) ++ List.replicate (4 - (lg_sl ([.ref (g 28), .int x1, .ref b])).length) Slot.unset).toArray = ls at hl ⊢
  have hl : lv_has ls 4 [(0, .ref (g 28)), (1, .int x1), (2, .ref b)] := hl
  refine lv_aload_n hx hb dL_cell_0 rfl (lv_at hl 2 rfl) ?_
  refine lv_iconst (v := 0) hx hb dL_cell_1 (by decide +kernel) ?_
  refine lv_aload_n hx hb dL_cell_2 rfl (lv_at hl 0 rfl) ?_
  refine lv_iload_n hx hb dL_cell_3 rfl (lv_at hl 1 rfl) ?_
  obtain ⟨H, hH⟩ : ∃ z, z = S0.heap := ⟨_, rfl⟩
  rw [← hH] at hP
  have hS : va_S A S0.heap H [] := by rw [hH]; exact hS
  rw [← hH]
  refine cn_i (As := [.int x1]) (rest := [.int 0, .ref b]) (r := u) (w0 := (wL g b cA t s y d q k r c o m f)) (N := 30) ⟨hx, hb, hml, hown, hts⟩ (c_X11_cell l D cA ad adK adV tA tS g H.size x1 t s y d q k r c o m u hE) (cwV 1 hts gL_cell_X11_cell rfl rfl rfl (by decide +kernel) ⟨Nat.le_of_ble_eq_true rfl, Nat.le_of_ble_eq_true rfl⟩) rfl hl.1 rfl (Nat.le_of_ble_eq_true rfl) dL_cell_4 ⟨Nat.zero_le _, Nat.zero_le _⟩ hK hP hD hS hA (va_recv hK hP (ci := 9) (q0 := 28) rfl rfl) [0, 1, 2, 3, 4, 5, 6, 7, 8, 9, 10, 11, 12, 13, 14, 15, 16, 17, 18, 19, 20, 21, 22, 23, 24, 25, 26, 27, 28] [29] (wL g b cA t s y d q k r c o m f) rfl (by decide +kernel) rfl (wr := [(b, .inl (cA 3, 1, .inr (.inl f)))]) rfl rfl (by decide +kernel) rfl (by decide +kernel) [g 0, g 1, g 2, g 3, g 4, g 5, g 6, g 7, g 8, g 9, g 10, g 11, g 12, g 13, g 14, g 15, g 16, g 17, g 18, g 19, g 20, g 21, g 22, g 23, g 24, g 25, g 26, g 27, g 28, b] rfl rfl (fun a U g mk h => SX.blind a U g mk h) (fun U hU hW => SX.call hX hS (va_free (wc := (wG g cA t s y d q k r c o m)) hD hS hA [0, 1, 2, 3, 4, 5, 6, 7, 8, 9, 10, 11, 12, 13, 14, 15, 16, 17, 18, 19, 20, 21, 22, 23, 24, 25, 26, 27, 28] rfl) U hU hW) (fun H locs hP hD hS => ?_)
  refine lv_i2l hx hb dL_cell_7 rfl ?_
  refine va_last hx hb hK hP hD hS 29 3 rfl rfl (show vp_in 0 1 from vp_in_nI (n := 0) (N := 1) (by decide) (by decide)) dL_cell_8 (fun H locs hP hD hS => ?_)
  have hP : va_P D vwCl (wL g b cA t s y d q k r c o m (vp_updL f 0 u.toInt64)) H := hP
  refine lv_goto (tgt := 15) hx hb dL_cell_9 (by decide) ?_
  refine lv_iconst (v := 0) hx hb dL_cell_15 (by decide +kernel) ?_
  exact rt_i hx hb hr hP hS rfl hlocks dL_cell_16
set_option maxHeartbeats 4000000 in
set_option maxRecDepth 100000 in
theorem x_L_cell (l : Launch) (hst : l.stackTraces = false) (D : va_G) (cA : Nat → ClassId) (ad adK adV : Nat → Nat) (tA tS : Nat) (sa : Nat → Nat) (g : Nat → Nat) (b : Nat) (sz : Nat) (x1 : Int32) (t : tT) (s : tR) (y : tY) (d : tD) (q : tP) (k : tK) (r : tR) (c : tC) (o : tO) (m : tM) (f : Nat → Int64) (hE : t_X11_cell x1 y = some 1) : Met l yL_cell wsL_cell ({ frames := 7, cells := 1, slots := 6, locals := 103 }) (va_Pc [.ref (g 28), .int x1, .ref b] (PRE D cA (wL g b cA t s y d q k r c o m f) sz (fun U => SX ad adK adV tA tS (va_A (wL g b cA t s y d q k r c o m f) sz) U U.heap ∧ EX sa (va_A (wL g b cA t s y d q k r c o m f) sz) U U.heap))) (cQi D (wL g b cA t s y d q k r c o m f) (va_A (wL g b cA t s y d q k r c o m f) sz) 1) 1 6 (va_A (wL g b cA t s y d q k r c o m f) sz) := by
  refine mo_WH (cc := cL_cell) (maxL := 4) (ret := (some .int)) (hh := [(0, 9, 12, 19)]) (by decide) rfl ?_
  intro PP EE S0 MM args below meth CC S1 B hml hv
  obtain ⟨rfl, hsz, hP, hK, hD0, hX, hEX⟩ := hv
  have hx := B.exec
  have hb := B.bytes
  have hr := B.returns
  have hts := atoms_spec (ws := wsL_cell) B.pre
  have hown : S0.vm.findClass RL = some MM.cls := findClass_of_methodNamed B.named
  have hlocks := B.notSynchronized
  subst hsz
  have hD := hD0.self (sz := S0.heap.size)
  have hX : SX ad adK adV tA tS (va_A (wL g b cA t s y d q k r c o m f) S0.heap.size) S0 S0.heap := hX
  have hEX : EX sa (va_A (wL g b cA t s y d q k r c o m f) S0.heap.size) S0 S0.heap := hEX
  generalize hAe : va_A (wL g b cA t s y d q k r c o m f) S0.heap.size = A at hD hX hEX ⊢
  have hA : ∀ q : Nat, S0.heap.size ≤ q → A q := fun q h => by rw [← hAe]; exact Or.inr h
  have hS : va_S A S0.heap S0.heap [] := va_S.rf
  have hl := lv_entry ([.ref (g 28), .int x1, .ref b]) (n := 4) (Nat.le_of_ble_eq_true rfl)
  rw [lg_entry_eq]
  generalize (lg_sl ([.ref (g 28), .int x1, .ref b]) ++ List.replicate (4 - (lg_sl ([.ref (g 28), .int x1, .ref b])).length) Slot.unset).toArray = ls at hl ⊢
  have hl : lv_has ls 4 [(0, .ref (g 28)), (1, .int x1), (2, .ref b)] := hl
  refine lv_aload_n hx hb dL_cell_0 rfl (lv_at hl 2 rfl) ?_
  refine lv_iconst (v := 0) hx hb dL_cell_1 (by decide +kernel) ?_
  refine lv_aload_n hx hb dL_cell_2 rfl (lv_at hl 0 rfl) ?_
  refine lv_iload_n hx hb dL_cell_3 rfl (lv_at hl 1 rfl) ?_
  obtain ⟨H, hH⟩ : ∃ z, z = S0.heap := ⟨_, rfl⟩
  rw [← hH] at hP
  have hS : va_S A S0.heap H [] := by rw [hH]; exact hS
  rw [← hH]
  have hF := va_free (wc := (wG g cA t s y d q k r c o m)) hD hS hA [0, 1, 2, 3, 4, 5, 6, 7, 8, 9, 10, 11, 12, 13, 14, 15, 16, 17, 18, 19, 20, 21, 22, 23, 24, 25, 26, 27, 28] rfl
  refine vx_calli (vx_runV (As := [.int x1]) (rest := [.int 0, .ref b]) ⟨hx, hb, hml, hown, hts⟩ (x_X11_cell l hst D cA ad adK adV tA tS sa g H.size x1 t s y d q k r c o m 1 hE) (cwV 1 hts gL_cell_X11_cell rfl rfl rfl (by decide +kernel) ⟨Nat.le_of_ble_eq_true rfl, Nat.le_of_ble_eq_true rfl⟩) ⟨pre_blind _ (fun a U g mk h => ⟨SX.blind a U g mk h.1, EX.blind a U g mk h.2⟩), va_recv hK hP (ci := 9) (q0 := 28) rfl rfl, fun U hU hW => pre_at (.ref (g 28) :: [.int x1]) hK hP hD [0, 1, 2, 3, 4, 5, 6, 7, 8, 9, 10, 11, 12, 13, 14, 15, 16, 17, 18, 19, 20, 21, 22, 23, 24, 25, 26, 27, 28] rfl (by decide +kernel) (fun U hU hW => ⟨SX.call hX hS hF U hU hW, EX.call hEX hS hF U hU hW⟩) U hU hW⟩ rfl rfl hl.1 rfl (lv_room (Nat.le_of_ble_eq_true rfl)) dL_cell_4 ⟨Nat.le_of_ble_eq_true rfl, Nat.le_of_ble_eq_true rfl⟩) hS (fun q _ h => hF q h) hF (fun q _ h => hF q h) (fun E ce q9 u9 t9 H1 locs1 ht hvm hp hB hz1 hk1 hS1 hce hcv hcl => ?_) (fun r0 u9 t9 H1 locs1 ht hvm hw _ _ _ _ => hw.elim)
  obtain ⟨hE2, hP1⟩ := hB
  rw [ht] at hP1
  have hP2 : va_P D vwCl (wL g b cA t s y d q k r c o m f) H1 := j_N hP hD [0, 1, 2, 3, 4, 5, 6, 7, 8, 9, 10, 11, 12, 13, 14, 15, 16, 17, 18, 19, 20, 21, 22, 23, 24, 25, 26, 27, 28] [29] rfl hk1 hP1 rfl (wr := [(b, .inl (cA 3, 1, .inr (.inl f)))]) rfl rfl (by decide +kernel) (N := 30) rfl (by decide +kernel)
  have htb : CC.exceptionTable.toList = tableOf [(0, 9, 12, 19)] := vx_table (x := yL_run) B (hts _ List.mem_cons_self)
  have hE3 : E = "java/lang/IndexOutOfBoundsException" := hE2
  subst hE3
  refine vx_catch (own := RL) (name := "java/lang/IndexOutOfBoundsException") hown [] ⟨0, 9, 12, 19⟩ [] htb (fun z hz => nomatch hz) (by decide) (by decide) (hts (.classLink RL 19 "java/lang/IndexOutOfBoundsException") (List.mem_of_getElem? (i := 1) rfl)) (va_Nw.use rfl (hEX.2.2.2.1 (.castable "java/lang/IndexOutOfBoundsException" "java/lang/IndexOutOfBoundsException") (List.mem_of_getElem? (i := 3) rfl))) hce hcv hcl ?_
  refine lv_astore_n (lv' := [(3, .ref q9), (0, .ref (g 28)), (1, .int x1), (2, .ref b)]) hx hb dL_cell_12 rfl hl (by decide) rfl (fun ls hl => ?_)
  refine lv_iconst (v := 1) hx hb dL_cell_13 (by decide +kernel) ?_
  exact rt_i hx hb hr hP2 hS1 rfl hlocks dL_cell_14
set_option maxHeartbeats 4000000 in
set_option maxRecDepth 100000 in
theorem c_L_word (l : Launch) (D : va_G) (cA : Nat → ClassId) (ad adK adV : Nat → Nat) (tA tS : Nat) (g : Nat → Nat) (b : Nat) (sz : Nat) (x1 x2 : Int32) (t : tT) (s : tR) (y : tY) (d : tD) (q : tP) (k : tK) (r : tR) (c : tC) (o : tO) (m : tM) (f : Nat → Int64) (u : Int32) (hE : f_X11_word x1 x2 d = some u) : Met l yL_word wsL_word2 ({ frames := 1, cells := 0, slots := 0, locals := 23 }) (va_Pc [.ref (g 28), .int x1, .int x2, .ref b] (PRE D cA (wL g b cA t s y d q k r c o m f) sz (fun U => SX ad adK adV tA tS (va_A (wL g b cA t s y d q k r c o m f) sz) U U.heap))) (cQi D (wL g b cA t s y d q k r c o m (vp_updL f 0 u.toInt64)) (va_A (wL g b cA t s y d q k r c o m f) sz) 0) 0 0 (va_A (wL g b cA t s y d q k r c o m f) sz) := by
  refine mo_WH (cc := cL_word) (maxL := 5) (ret := (some .int)) (hh := [(0, 10, 13, 19), (0, 10, 17, 13)]) (by decide) rfl ?_
  intro PP EE S0 MM args below meth CC S1 B hml hv
  obtain ⟨rfl, hsz, hP, hK, hD0, hX⟩ := hv
  have hx := B.exec
  have hb := B.bytes
  have hr := B.returns
  have hts := atoms_spec (ws := wsL_word2) B.pre
  have hown : S0.vm.findClass RL = some MM.cls := findClass_of_methodNamed B.named
  have hlocks := B.notSynchronized
  subst hsz
  have hD := hD0.self (sz := S0.heap.size)
  have hX : SX ad adK adV tA tS (va_A (wL g b cA t s y d q k r c o m f) S0.heap.size) S0 S0.heap := hX
  generalize hAe : va_A (wL g b cA t s y d q k r c o m f) S0.heap.size = A at hD hX ⊢
  have hA : ∀ q : Nat, S0.heap.size ≤ q → A q := fun q h => by rw [← hAe]; exact Or.inr h
  have hS : va_S A S0.heap S0.heap [] := va_S.rf
  have hl := lv_entry ([.ref (g 28), .int x1, .int x2, .ref b]) (n := 5) (Nat.le_of_ble_eq_true rfl)
  rw [lg_entry_eq]
  generalize (lg_sl ([.ref (g 28), .int x1, .int x2, .ref b]) ++ List.replicate (5 - (lg_sl ([.ref (g 28), .int x1, .int x2, .ref b])).length) Slot.unset).toArray = ls at hl ⊢
  have hl : lv_has ls 5 [(0, .ref (g 28)), (1, .int x1), (2, .int x2), (3, .ref b)] := hl
  refine lv_aload_n hx hb dL_word_0 rfl (lv_at hl 3 rfl) ?_
  refine lv_iconst (v := 0) hx hb dL_word_1 (by decide +kernel) ?_
  refine lv_aload_n hx hb dL_word_2 rfl (lv_at hl 0 rfl) ?_
  refine lv_iload_n hx hb dL_word_3 rfl (lv_at hl 1 rfl) ?_
  refine lv_iload_n hx hb dL_word_4 rfl (lv_at hl 2 rfl) ?_
  obtain ⟨H, hH⟩ : ∃ z, z = S0.heap := ⟨_, rfl⟩
  rw [← hH] at hP
  have hS : va_S A S0.heap H [] := by rw [hH]; exact hS
  rw [← hH]
  refine cn_i (As := [.int x1, .int x2]) (rest := [.int 0, .ref b]) (r := u) (w0 := (wL g b cA t s y d q k r c o m f)) (N := 30) ⟨hx, hb, hml, hown, hts⟩ (c_X11_word l D cA ad adK adV tA tS g H.size x1 x2 t s y d q k r c o m u hE) (cwV 2 hts g2L_word_X11_word rfl rfl rfl (by decide +kernel) ⟨Nat.le_of_ble_eq_true rfl, Nat.le_of_ble_eq_true rfl⟩) rfl hl.1 rfl (Nat.le_of_ble_eq_true rfl) dL_word_5 ⟨Nat.zero_le _, Nat.zero_le _⟩ hK hP hD hS hA (va_recv hK hP (ci := 9) (q0 := 28) rfl rfl) [0, 1, 2, 3, 4, 5, 6, 7, 8, 9, 10, 11, 12, 13, 14, 15, 16, 17, 18, 19, 20, 21, 22, 23, 24, 25, 26, 27, 28] [29] (wL g b cA t s y d q k r c o m f) rfl (by decide +kernel) rfl (wr := [(b, .inl (cA 3, 1, .inr (.inl f)))]) rfl rfl (by decide +kernel) rfl (by decide +kernel) [g 0, g 1, g 2, g 3, g 4, g 5, g 6, g 7, g 8, g 9, g 10, g 11, g 12, g 13, g 14, g 15, g 16, g 17, g 18, g 19, g 20, g 21, g 22, g 23, g 24, g 25, g 26, g 27, g 28, b] rfl rfl (fun a U g mk h => SX.blind a U g mk h) (fun U hU hW => SX.call hX hS (va_free (wc := (wG g cA t s y d q k r c o m)) hD hS hA [0, 1, 2, 3, 4, 5, 6, 7, 8, 9, 10, 11, 12, 13, 14, 15, 16, 17, 18, 19, 20, 21, 22, 23, 24, 25, 26, 27, 28] rfl) U hU hW) (fun H locs hP hD hS => ?_)
  refine lv_i2l hx hb dL_word_8 rfl ?_
  refine va_last hx hb hK hP hD hS 29 3 rfl rfl (show vp_in 0 1 from vp_in_nI (n := 0) (N := 1) (by decide) (by decide)) dL_word_9 (fun H locs hP hD hS => ?_)
  have hP : va_P D vwCl (wL g b cA t s y d q k r c o m (vp_updL f 0 u.toInt64)) H := hP
  refine lv_goto (tgt := 21) hx hb dL_word_10 (by decide) ?_
  refine lv_iconst (v := 0) hx hb dL_word_21 (by decide +kernel) ?_
  exact rt_i hx hb hr hP hS rfl hlocks dL_word_22
set_option maxHeartbeats 4000000 in
set_option maxRecDepth 100000 in
theorem x_L_word1 (l : Launch) (hst : l.stackTraces = false) (D : va_G) (cA : Nat → ClassId) (ad adK adV : Nat → Nat) (tA tS : Nat) (sa : Nat → Nat) (g : Nat → Nat) (b : Nat) (sz : Nat) (x1 x2 : Int32) (t : tT) (s : tR) (y : tY) (d : tD) (q : tP) (k : tK) (r : tR) (c : tC) (o : tO) (m : tM) (f : Nat → Int64) (hE : t_X11_word x1 x2 d = some 1) : Met l yL_word wsL_word2 ({ frames := 7, cells := 1, slots := 6, locals := 105 }) (va_Pc [.ref (g 28), .int x1, .int x2, .ref b] (PRE D cA (wL g b cA t s y d q k r c o m f) sz (fun U => SX ad adK adV tA tS (va_A (wL g b cA t s y d q k r c o m f) sz) U U.heap ∧ EX sa (va_A (wL g b cA t s y d q k r c o m f) sz) U U.heap))) (cQi D (wL g b cA t s y d q k r c o m f) (va_A (wL g b cA t s y d q k r c o m f) sz) 1) 1 6 (va_A (wL g b cA t s y d q k r c o m f) sz) := by
  refine mo_WH (cc := cL_word) (maxL := 5) (ret := (some .int)) (hh := [(0, 10, 13, 19), (0, 10, 17, 13)]) (by decide) rfl ?_
  intro PP EE S0 MM args below meth CC S1 B hml hv
  obtain ⟨rfl, hsz, hP, hK, hD0, hX, hEX⟩ := hv
  have hx := B.exec
  have hb := B.bytes
  have hr := B.returns
  have hts := atoms_spec (ws := wsL_word2) B.pre
  have hown : S0.vm.findClass RL = some MM.cls := findClass_of_methodNamed B.named
  have hlocks := B.notSynchronized
  subst hsz
  have hD := hD0.self (sz := S0.heap.size)
  have hX : SX ad adK adV tA tS (va_A (wL g b cA t s y d q k r c o m f) S0.heap.size) S0 S0.heap := hX
  have hEX : EX sa (va_A (wL g b cA t s y d q k r c o m f) S0.heap.size) S0 S0.heap := hEX
  generalize hAe : va_A (wL g b cA t s y d q k r c o m f) S0.heap.size = A at hD hX hEX ⊢
  have hA : ∀ q : Nat, S0.heap.size ≤ q → A q := fun q h => by rw [← hAe]; exact Or.inr h
  have hS : va_S A S0.heap S0.heap [] := va_S.rf
  have hl := lv_entry ([.ref (g 28), .int x1, .int x2, .ref b]) (n := 5) (Nat.le_of_ble_eq_true rfl)
  rw [lg_entry_eq]
  generalize (lg_sl ([.ref (g 28), .int x1, .int x2, .ref b]) ++ List.replicate (5 - (lg_sl ([.ref (g 28), .int x1, .int x2, .ref b])).length) Slot.unset).toArray = ls at hl ⊢
  have hl : lv_has ls 5 [(0, .ref (g 28)), (1, .int x1), (2, .int x2), (3, .ref b)] := hl
  refine lv_aload_n hx hb dL_word_0 rfl (lv_at hl 3 rfl) ?_
  refine lv_iconst (v := 0) hx hb dL_word_1 (by decide +kernel) ?_
  refine lv_aload_n hx hb dL_word_2 rfl (lv_at hl 0 rfl) ?_
  refine lv_iload_n hx hb dL_word_3 rfl (lv_at hl 1 rfl) ?_
  refine lv_iload_n hx hb dL_word_4 rfl (lv_at hl 2 rfl) ?_
  obtain ⟨H, hH⟩ : ∃ z, z = S0.heap := ⟨_, rfl⟩
  rw [← hH] at hP
  have hS : va_S A S0.heap H [] := by rw [hH]; exact hS
  rw [← hH]
  have hF := va_free (wc := (wG g cA t s y d q k r c o m)) hD hS hA [0, 1, 2, 3, 4, 5, 6, 7, 8, 9, 10, 11, 12, 13, 14, 15, 16, 17, 18, 19, 20, 21, 22, 23, 24, 25, 26, 27, 28] rfl
  refine vx_calli (vx_runV (As := [.int x1, .int x2]) (rest := [.int 0, .ref b]) ⟨hx, hb, hml, hown, hts⟩ (x_X11_word l hst D cA ad adK adV tA tS sa g H.size x1 x2 t s y d q k r c o m 1 hE) (cwV 2 hts g2L_word_X11_word rfl rfl rfl (by decide +kernel) ⟨Nat.le_of_ble_eq_true rfl, Nat.le_of_ble_eq_true rfl⟩) ⟨pre_blind _ (fun a U g mk h => ⟨SX.blind a U g mk h.1, EX.blind a U g mk h.2⟩), va_recv hK hP (ci := 9) (q0 := 28) rfl rfl, fun U hU hW => pre_at (.ref (g 28) :: [.int x1, .int x2]) hK hP hD [0, 1, 2, 3, 4, 5, 6, 7, 8, 9, 10, 11, 12, 13, 14, 15, 16, 17, 18, 19, 20, 21, 22, 23, 24, 25, 26, 27, 28] rfl (by decide +kernel) (fun U hU hW => ⟨SX.call hX hS hF U hU hW, EX.call hEX hS hF U hU hW⟩) U hU hW⟩ rfl rfl hl.1 rfl (lv_room (Nat.le_of_ble_eq_true rfl)) dL_word_5 ⟨Nat.le_of_ble_eq_true rfl, Nat.le_of_ble_eq_true rfl⟩) hS (fun q _ h => hF q h) hF (fun q _ h => hF q h) (fun E ce q9 u9 t9 H1 locs1 ht hvm hp hB hz1 hk1 hS1 hce hcv hcl => ?_) (fun r0 u9 t9 H1 locs1 ht hvm hw _ _ _ _ => hw.elim)
  obtain ⟨hE2, hP1⟩ := hB
  rw [ht] at hP1
  have hP2 : va_P D vwCl (wL g b cA t s y d q k r c o m f) H1 := j_N hP hD [0, 1, 2, 3, 4, 5, 6, 7, 8, 9, 10, 11, 12, 13, 14, 15, 16, 17, 18, 19, 20, 21, 22, 23, 24, 25, 26, 27, 28] [29] rfl hk1 hP1 rfl (wr := [(b, .inl (cA 3, 1, .inr (.inl f)))]) rfl rfl (by decide +kernel) (N := 30) rfl (by decide +kernel)
  have htb : CC.exceptionTable.toList = tableOf [(0, 10, 13, 19), (0, 10, 17, 13)] := vx_table (x := yL_run) B (hts _ List.mem_cons_self)
  have hE3 : E = "java/lang/IndexOutOfBoundsException" := hE2
  subst hE3
  refine vx_catch (own := RL) (name := "java/lang/IndexOutOfBoundsException") hown [] ⟨0, 10, 13, 19⟩ [⟨0, 10, 17, 13⟩] htb (fun z hz => nomatch hz) (by decide) (by decide) (hts (.classLink RL 19 "java/lang/IndexOutOfBoundsException") (List.mem_of_getElem? (i := 2) rfl)) (va_Nw.use rfl (hEX.2.2.2.1 (.castable "java/lang/IndexOutOfBoundsException" "java/lang/IndexOutOfBoundsException") (List.mem_of_getElem? (i := 3) rfl))) hce hcv hcl ?_
  refine lv_astore (lv' := [(4, .ref q9), (0, .ref (g 28)), (1, .int x1), (2, .int x2), (3, .ref b)]) hx hb dL_word_13 hl (by decide) rfl (fun ls hl => ?_)
  refine lv_iconst (v := 1) hx hb dL_word_15 (by decide +kernel) ?_
  exact rt_i hx hb hr hP2 hS1 rfl hlocks dL_word_16
set_option maxHeartbeats 4000000 in
set_option maxRecDepth 100000 in
theorem x_L_word2 (l : Launch) (hst : l.stackTraces = false) (D : va_G) (cA : Nat → ClassId) (ad adK adV : Nat → Nat) (tA tS : Nat) (sa : Nat → Nat) (g : Nat → Nat) (b : Nat) (sz : Nat) (x1 x2 : Int32) (t : tT) (s : tR) (y : tY) (d : tD) (q : tP) (k : tK) (r : tR) (c : tC) (o : tO) (m : tM) (f : Nat → Int64) (hE : t_X11_word x1 x2 d = some 2) : Met l yL_word wsL_word2 ({ frames := 7, cells := 1, slots := 6, locals := 105 }) (va_Pc [.ref (g 28), .int x1, .int x2, .ref b] (PRE D cA (wL g b cA t s y d q k r c o m f) sz (fun U => SX ad adK adV tA tS (va_A (wL g b cA t s y d q k r c o m f) sz) U U.heap ∧ EX sa (va_A (wL g b cA t s y d q k r c o m f) sz) U U.heap))) (cQi D (wL g b cA t s y d q k r c o m f) (va_A (wL g b cA t s y d q k r c o m f) sz) 2) 1 6 (va_A (wL g b cA t s y d q k r c o m f) sz) := by
  refine mo_WH (cc := cL_word) (maxL := 5) (ret := (some .int)) (hh := [(0, 10, 13, 19), (0, 10, 17, 13)]) (by decide) rfl ?_
  intro PP EE S0 MM args below meth CC S1 B hml hv
  obtain ⟨rfl, hsz, hP, hK, hD0, hX, hEX⟩ := hv
  have hx := B.exec
  have hb := B.bytes
  have hr := B.returns
  have hts := atoms_spec (ws := wsL_word2) B.pre
  have hown : S0.vm.findClass RL = some MM.cls := findClass_of_methodNamed B.named
  have hlocks := B.notSynchronized
  subst hsz
  have hD := hD0.self (sz := S0.heap.size)
  have hX : SX ad adK adV tA tS (va_A (wL g b cA t s y d q k r c o m f) S0.heap.size) S0 S0.heap := hX
  have hEX : EX sa (va_A (wL g b cA t s y d q k r c o m f) S0.heap.size) S0 S0.heap := hEX
  generalize hAe : va_A (wL g b cA t s y d q k r c o m f) S0.heap.size = A at hD hX hEX ⊢
  have hA : ∀ q : Nat, S0.heap.size ≤ q → A q := fun q h => by rw [← hAe]; exact Or.inr h
  have hS : va_S A S0.heap S0.heap [] := va_S.rf
  have hl := lv_entry ([.ref (g 28), .int x1, .int x2, .ref b]) (n := 5) (Nat.le_of_ble_eq_true rfl)
  rw [lg_entry_eq]
  generalize (lg_sl ([.ref (g 28), .int x1, .int x2, .ref b]) ++ List.replicate (5 - (lg_sl ([.ref (g 28), .int x1, .int x2, .ref b])).length) Slot.unset).toArray = ls at hl ⊢
  have hl : lv_has ls 5 [(0, .ref (g 28)), (1, .int x1), (2, .int x2), (3, .ref b)] := hl
  refine lv_aload_n hx hb dL_word_0 rfl (lv_at hl 3 rfl) ?_
  refine lv_iconst (v := 0) hx hb dL_word_1 (by decide +kernel) ?_
  refine lv_aload_n hx hb dL_word_2 rfl (lv_at hl 0 rfl) ?_
  refine lv_iload_n hx hb dL_word_3 rfl (lv_at hl 1 rfl) ?_
  refine lv_iload_n hx hb dL_word_4 rfl (lv_at hl 2 rfl) ?_
  obtain ⟨H, hH⟩ : ∃ z, z = S0.heap := ⟨_, rfl⟩
  rw [← hH] at hP
  have hS : va_S A S0.heap H [] := by rw [hH]; exact hS
  rw [← hH]
  have hF := va_free (wc := (wG g cA t s y d q k r c o m)) hD hS hA [0, 1, 2, 3, 4, 5, 6, 7, 8, 9, 10, 11, 12, 13, 14, 15, 16, 17, 18, 19, 20, 21, 22, 23, 24, 25, 26, 27, 28] rfl
  refine vx_calli (vx_runV (As := [.int x1, .int x2]) (rest := [.int 0, .ref b]) ⟨hx, hb, hml, hown, hts⟩ (x_X11_word l hst D cA ad adK adV tA tS sa g H.size x1 x2 t s y d q k r c o m 2 hE) (cwV 2 hts g2L_word_X11_word rfl rfl rfl (by decide +kernel) ⟨Nat.le_of_ble_eq_true rfl, Nat.le_of_ble_eq_true rfl⟩) ⟨pre_blind _ (fun a U g mk h => ⟨SX.blind a U g mk h.1, EX.blind a U g mk h.2⟩), va_recv hK hP (ci := 9) (q0 := 28) rfl rfl, fun U hU hW => pre_at (.ref (g 28) :: [.int x1, .int x2]) hK hP hD [0, 1, 2, 3, 4, 5, 6, 7, 8, 9, 10, 11, 12, 13, 14, 15, 16, 17, 18, 19, 20, 21, 22, 23, 24, 25, 26, 27, 28] rfl (by decide +kernel) (fun U hU hW => ⟨SX.call hX hS hF U hU hW, EX.call hEX hS hF U hU hW⟩) U hU hW⟩ rfl rfl hl.1 rfl (lv_room (Nat.le_of_ble_eq_true rfl)) dL_word_5 ⟨Nat.le_of_ble_eq_true rfl, Nat.le_of_ble_eq_true rfl⟩) hS (fun q _ h => hF q h) hF (fun q _ h => hF q h) (fun E ce q9 u9 t9 H1 locs1 ht hvm hp hB hz1 hk1 hS1 hce hcv hcl => ?_) (fun r0 u9 t9 H1 locs1 ht hvm hw _ _ _ _ => hw.elim)
  obtain ⟨hE2, hP1⟩ := hB
  rw [ht] at hP1
  have hP2 : va_P D vwCl (wL g b cA t s y d q k r c o m f) H1 := j_N hP hD [0, 1, 2, 3, 4, 5, 6, 7, 8, 9, 10, 11, 12, 13, 14, 15, 16, 17, 18, 19, 20, 21, 22, 23, 24, 25, 26, 27, 28] [29] rfl hk1 hP1 rfl (wr := [(b, .inl (cA 3, 1, .inr (.inl f)))]) rfl rfl (by decide +kernel) (N := 30) rfl (by decide +kernel)
  have htb : CC.exceptionTable.toList = tableOf [(0, 10, 13, 19), (0, 10, 17, 13)] := vx_table (x := yL_run) B (hts _ List.mem_cons_self)
  have hE3 : E = "java/lang/IllegalArgumentException" := hE2
  subst hE3
  refine vx_catch (own := RL) (name := "java/lang/IllegalArgumentException") hown [⟨0, 10, 13, 19⟩] ⟨0, 10, 17, 13⟩ [] htb (fun z hz => by cases List.mem_singleton.mp hz; exact Or.inr ⟨by decide, "java/lang/IndexOutOfBoundsException", (hts (.classLink RL 19 "java/lang/IndexOutOfBoundsException") (List.mem_of_getElem? (i := 2) rfl)), hEX.2.2.2.2⟩) (by decide) (by decide) (hts (.classLink RL 13 "java/lang/IllegalArgumentException") (List.mem_of_getElem? (i := 1) rfl)) (va_Nw.use rfl (hEX.2.2.2.1 (.castable "java/lang/IllegalArgumentException" "java/lang/IllegalArgumentException") (List.mem_of_getElem? (i := 4) rfl))) hce hcv hcl ?_
  refine lv_astore (lv' := [(4, .ref q9), (0, .ref (g 28)), (1, .int x1), (2, .int x2), (3, .ref b)]) hx hb dL_word_17 hl (by decide) rfl (fun ls hl => ?_)
  refine lv_iconst (v := 2) hx hb dL_word_19 (by decide +kernel) ?_
  exact rt_i hx hb hr hP2 hS1 rfl hlocks dL_word_20
