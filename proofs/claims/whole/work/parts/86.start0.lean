/-! the law's start -/
theorem of_eval {args : Array Value} {s : State} {t : Term} {a : Nat} {o n d : String} {v : Value} {A : Nat → Prop} (ht : t.eval args s none [] s = some (.ref a)) (hv : (Term.field t o n d).eval args s none [] s = some v) (hA : ∀ a : Nat, a < s.heap.size → ¬ A a) : va_OF o n d v a A s s.heap := by
  cases hfo : s.fieldFound? o n d with
  | none =>
    rw [va_fe ht] at hv
    simp [State.fieldOf?, State.fieldNamed?, hfo] at hv
  | some x =>
    obtain ⟨cf, k, fi, f⟩ := x
    obtain ⟨g1, cell, g2, g3, -, -, g6⟩ := Term.field_spec hfo ht hv
    exact ⟨cf, k, fi, f, cell, hfo, g1, g2, g3, g6, hA _ (Array.getElem?_eq_some_iff.mp g2).1⟩
theorem ex_ref {args : Array Value} {s : State} {t : Term} {C : String} {A : Nat → Prop} (h : (Cond.exactly t C).before args s = true) (hA : ∀ a : Nat, a < s.heap.size → ¬ A a) : ∃ a : Nat, t.eval args s none [] s = some (.ref a) ∧ va_O C a A s s.heap := by
  obtain ⟨a, c, cell, k, q1, q2, q3, q4, q5, q6, -⟩ := Cond.exactly_spec h
  exact ⟨a, q1, cell, q3, q5, by rw [q6]; exact q2, hA a (Array.getElem?_eq_some_iff.mp q3).1⟩
theorem ord_nI : ∀ i, i < 82 → wV_ordinal.getD i 0 = nI i := by decide +kernel
theorem slen_lt : ∀ i, i < 82 → sLen i < 2 ^ 31 := by decide +kernel
section START
variable {b : Nat} {s : State}
theorem sx_start (hts : ∀ w ∈ lw_tbl, w.before #[Value.ref b] s = true) (hgv : (Jvm.Cond.and given_1 narrow_1).before #[Value.ref b] s = true) : ∃ (ad adK adV : Nat → Nat) (tA tS : Nat), SX ad adK adV tA tS (fun q : Nat => s.heap.size ≤ q) s s.heap := by
  have hf : ∀ w ∈ FLc, w.before #[Value.ref b] s = true := flat_of_before _ hgv
  have hA : ∀ a : Nat, a < s.heap.size → ¬ (fun q : Nat => s.heap.size ≤ q) a := fun a h => Nat.not_le.mpr h
  have h0 : ∀ i : Nat, ∃ t : Nat, i < 82 → (Term.static "WordForge$Word" (wNm.getD i "") "LWordForge$Word;").eval #[Value.ref b] s none [] s = some (.ref t) ∧ va_O "WordForge$Word" t (fun q : Nat => s.heap.size ≤ q) s s.heap := fun i => by
    by_cases hi : i < 82
    · obtain ⟨a, h1, h2⟩ := ex_ref (hf _ (fm_ex hi)) hA
      exact ⟨a, fun _ => ⟨h1, h2⟩⟩
    · exact ⟨0, fun h => absurd h hi⟩
  obtain ⟨ad, had⟩ := Classical.axiomOfChoice h0
  have g0 : ∀ i : Nat, ∃ t : Nat, i < 82 → (Term.string "WordForge$Word" (wKs.getD i 0)).eval #[Value.ref b] s none [] s = some (.ref t) ∧ va_O "java/lang/String" t (fun q : Nat => s.heap.size ≤ q) s s.heap := fun i => by
    by_cases hi : i < 82
    · obtain ⟨a, h1, h2⟩ := ex_ref (hf _ (fm_se hi)) hA
      exact ⟨a, fun _ => ⟨h1, h2⟩⟩
    · exact ⟨0, fun h => absurd h hi⟩
  obtain ⟨adK, hadK⟩ := Classical.axiomOfChoice g0
  have v0 : ∀ i : Nat, ∃ t : Nat, i < 82 → (Term.field (.string "WordForge$Word" (wKs.getD i 0)) "java/lang/String" "value" "[B").eval #[Value.ref b] s none [] s = some (.ref t) ∧ va_T .byte t (sLen i) (fun j => .int (sByt i j)) (fun q : Nat => s.heap.size ≤ q) s s.heap := fun i => by
    by_cases hi : i < 82
    · obtain ⟨a, h1, h2⟩ := va_Tof (f := fun j => .int (sByt i j)) (slen_lt i hi) (hf _ (fm_va hi)) (va_eqt (hf _ (fm_vl hi))) (fun j hj => va_eqt (hf _ (fm_el hi hj))) hA
      exact ⟨a, fun _ => ⟨h1, h2⟩⟩
    · exact ⟨0, fun h => absurd h hi⟩
  obtain ⟨adV, hadV⟩ := Classical.axiomOfChoice v0
  obtain ⟨tA, a1, a2⟩ := va_Tof (N := 82) (f := fun j => .ref (ad j)) (by decide) (hf _ f1_alla) (va_eqt (hf _ f1_alll)) (fun j hj => va_eqv (hf _ (fm_all hj)) (had j hj).1) hA
  obtain ⟨tS, s1, s2⟩ := va_Tof (N := 82) (f := fun j => .int (swm j)) (by decide) (hf _ f1_swa) (va_eqt (hf _ f1_swl)) (fun j hj => va_eqt (hf _ (fm_sw hj))) hA
  have hof : ∀ i, i < 82 → ∀ q ∈ wF, va_OF q.1 q.2.1 q.2.2.1 (.int (q.2.2.2.getD i 0)) (ad i) (fun q : Nat => s.heap.size ≤ q) s s.heap := fun i hi => by
    refine List.forall_mem_cons.mpr ⟨of_eval (had i hi).1 (va_eqt (hf _ (fm_ordinal hi))) hA, List.forall_mem_cons.mpr ⟨of_eval (had i hi).1 (va_eqt (hf _ (fm_appends hi))) hA, List.forall_mem_cons.mpr ⟨of_eval (had i hi).1 (va_eqt (hf _ (fm_forCompilingOnly hi))) hA, List.forall_mem_cons.mpr ⟨of_eval (had i hi).1 (va_eqt (hf _ (fm_group hi))) hA, List.forall_mem_cons.mpr ⟨of_eval (had i hi).1 (va_eqt (hf _ (fm_immediate hi))) hA, List.forall_mem_cons.mpr ⟨of_eval (had i hi).1 (va_eqt (hf _ (fm_takes hi))) hA, List.forall_mem_cons.mpr ⟨of_eval (had i hi).1 (va_eqt (hf _ (fm_wantsInStore hi))) hA, fun _ h => absurd h List.not_mem_nil⟩⟩⟩⟩⟩⟩⟩
  refine ⟨ad, adK, adV, tA, tS, fun w hw => va_Nw.of (nest_tables (nx_all w hw)) (hts w (tb_nx w hw)), va_Zref (hts _ t1_all) (hts _ t1_iw) a1 hA, a2, va_Zref (hts _ t1_sw) (hts _ t1_i1) s1 hA, s2, va_Zof (hts _ t1_cs) (hts _ t1_is) (va_eqt (hf _ f1_cs)) hA, fun i hi => ⟨va_Zref (hts _ (tb_ls hi)) (hts _ t1_iw) (had i hi).1 hA, (had i hi).2, hof i hi, of_eval (had i hi).1 (va_eqv (hf _ (fm_sp hi)) (hadK i hi).1) hA, (hadK i hi).2, of_eval (hadK i hi).1 (va_eqt (hf _ (fm_co hi))) hA, of_eval (hadK i hi).1 (hadV i hi).1 hA, (hadV i hi).2⟩, fun i j hi hj e => ?_, va_Zqof (hts _ t1_pre) (hts _ t1_ip) (hf _ f1_pre) hA⟩
  obtain ⟨cf, k, fi, f, cell, x1, x2, x3, x4, x5, x6⟩ := hof i hi _ (List.mem_of_getElem? (i := 0) rfl)
  obtain ⟨cf', k', fi', f', cell', y1, y2, y3, y4, y5, y6⟩ := hof j hj _ (List.mem_of_getElem? (i := 0) rfl)
  cases Option.some.inj (x1.symm.trans y1)
  rw [e] at x3
  cases Option.some.inj (x3.symm.trans y3)
  have h7 := Option.some.inj (x5.symm.trans y5)
  injection h7 with h8
  have h9 : nI i = nI j := (ord_nI i hi).symm.trans (h8.trans (ord_nI j hj))
  exact (nI_eq (by omega) (by omega)).mp h9
theorem ex_start (hts : ∀ w ∈ lw_tbl, w.before #[Value.ref b] s = true) (hgv : (Jvm.Cond.and given_1 narrow_1).before #[Value.ref b] s = true) : ∃ sa : Nat → Nat, EX sa (fun q : Nat => s.heap.size ≤ q) s s.heap := by
  have hf : ∀ w ∈ FLc, w.before #[Value.ref b] s = true := flat_of_before _ hgv
  have hA : ∀ a : Nat, a < s.heap.size → ¬ (fun q : Nat => s.heap.size ≤ q) a := fun a h => Nat.not_le.mpr h
  obtain ⟨a28, x28, -⟩ := ex_ref (hf _ f1_m28) hA
  obtain ⟨a49, x49, -⟩ := ex_ref (hf _ f1_m49) hA
  obtain ⟨a63, x63, -⟩ := ex_ref (hf _ f1_m63) hA
  obtain ⟨a79, x79, -⟩ := ex_ref (hf _ f1_m79) hA
  obtain ⟨a91, x91, -⟩ := ex_ref (hf _ f1_m91) hA
  obtain ⟨a109, x109, -⟩ := ex_ref (hf _ f1_m109) hA
  refine ⟨fun k => if k = 28 then a28 else if k = 49 then a49 else if k = 63 then a63 else if k = 79 then a79 else if k = 91 then a91 else if k = 109 then a109 else  0, ?_, vx_Zqof (hts _ t1_us) (hts _ t1_it) (hf _ f1_us) hA, vx_Zqof (hts _ t1_ss) (hts _ t1_it) (hf _ f1_ss) hA, fun w hw => va_Nw.of (ex_tab (ex_all w hw)) (hts w (tb_ex w hw)), va_Nc.of (hf _ f1_nc)⟩
  exact List.forall_mem_cons.mpr ⟨vk_R.of (hts _ t1_m28) x28, List.forall_mem_cons.mpr ⟨vk_R.of (hts _ t1_m49) x49, List.forall_mem_cons.mpr ⟨vk_R.of (hts _ t1_m63) x63, List.forall_mem_cons.mpr ⟨vk_R.of (hts _ t1_m79) x79, List.forall_mem_cons.mpr ⟨vk_R.of (hts _ t1_m91) x91, List.forall_mem_cons.mpr ⟨vk_R.of (hts _ t1_m109) x109, fun _ h => absurd h List.not_mem_nil⟩⟩⟩⟩⟩⟩
theorem arr_known {args : Array Value} {ty : FieldType} (h : (Cond.arrayClass ty).before args s = true) : ∃ c : ClassId, s.vm.findClass ("[" ++ ty.toString) = some c ∧ ArrOfT s c ty := by
  obtain ⟨cB, kB, comp, hcB, hkB, hkind⟩ := Cond.arrayClass_spec h
  exact ⟨cB, hcB, fun n z => ⟨fun k h => (by cases h), kB, hkB, comp, hkind⟩⟩
theorem k_start (hts : ∀ w ∈ lw_tbl, w.before #[Value.ref b] s = true) : ∃ (DD : va_G) (cA : Nat → ClassId), va_K DD vwCl (bTY cA) s := by
  obtain ⟨c0, i0, h0⟩ := u_known (C := RX1) (T := TX1) (N := 5) (n := 5) hts wi_wsX10 (hts (.instantiable RX1 5) (List.mem_of_getElem? (i := 221) (by decide +kernel)))
  obtain ⟨c1, i1, h1⟩ := u_known (C := RX2) (T := TX2) (N := 8) (n := 8) hts wi_wsX20 (hts (.instantiable RX2 8) (List.mem_of_getElem? (i := 178) (by decide +kernel)))
  obtain ⟨c2, i2, h2⟩ := u_known (C := RX3) (T := TX3) (N := 14) (n := 14) hts wi_wsX30 (hts (.instantiable RX3 14) (List.mem_of_getElem? (i := 112) (by decide +kernel)))
  obtain ⟨c3, i3, h3⟩ := u_known (C := RX4) (T := TX4) (N := 6) (n := 6) hts wi_wsX40 (hts (.instantiable RX4 6) (List.mem_of_getElem? (i := 262) (by decide +kernel)))
  obtain ⟨c4, i4, h4⟩ := u_known (C := RX5) (T := TX5) (N := 2) (n := 2) hts wi_wsX50 (hts (.instantiable RX5 2) (List.mem_of_getElem? (i := 162) (by decide +kernel)))
  obtain ⟨c5, i5, h5⟩ := u_known (C := RX6) (T := TX6) (N := 3) (n := 3) hts wi_wsX60 (hts (.instantiable RX6 3) (List.mem_of_getElem? (i := 268) (by decide +kernel)))
  obtain ⟨c6, i6, h6⟩ := u_known (C := RX7) (T := TX7) (N := 2) (n := 2) hts wi_wsX70 (hts (.instantiable RX7 2) (List.mem_of_getElem? (i := 246) (by decide +kernel)))
  obtain ⟨c7, i7, h7⟩ := u_known (C := RX8) (T := TX8) (N := 3) (n := 3) hts wi_wsX80 (hts (.instantiable RX8 3) (List.mem_of_getElem? (i := 142) (by decide +kernel)))
  obtain ⟨c8, i8, h8⟩ := u_known (C := RX9) (T := TX9) (N := 5) (n := 5) hts wi_wsX90 (hts (.instantiable RX9 5) (List.mem_of_getElem? (i := 118) (by decide +kernel)))
  obtain ⟨c9, i9, h9⟩ := u_known (C := RX11) (T := TX11) (N := 1) (n := 1) hts wi_wsX110 (hts (.instantiable RX11 1) (List.mem_of_getElem? (i := 104) (by decide +kernel)))
  obtain ⟨c10, i10, h10⟩ := u_known (C := RX12) (T := TX12) (N := 40) (n := 40) hts wi_wsX120 (hts (.instantiable RX12 40) (List.mem_of_getElem? (i := 993) (by decide +kernel)))
  obtain ⟨a0, b0, d0⟩ := arr_known (hts (.arrayClass .int) (List.mem_of_getElem? (i := 160) (by decide +kernel)))
  obtain ⟨a1, b1, d1⟩ := arr_known (hts (.arrayClass .boolean) (List.mem_of_getElem? (i := 219) (by decide +kernel)))
  obtain ⟨a2, b2, d2⟩ := arr_known (hts (.arrayClass .char) (List.mem_of_getElem? (i := 140) (by decide +kernel)))
  obtain ⟨a3, b3, d3⟩ := arr_known (hts (.arrayClass .long) (List.mem_of_getElem? (i := 1192) (by decide +kernel)))
  refine ⟨(fun k => match k with | 0 => c0 | 1 => c1 | 2 => c2 | 3 => c3 | 4 => c4 | 5 => c5 | 6 => c6 | 7 => c7 | 8 => c8 | 9 => c9 | _ => c10, fun k => match k with | 0 => i0 | 1 => i1 | 2 => i2 | 3 => i3 | 4 => i4 | 5 => i5 | 6 => i6 | 7 => i7 | 8 => i8 | 9 => i9 | _ => i10), fun k => match k with | 0 => a0 | 1 => a1 | 2 => a2 | _ => a3, fun k q hq => ?_, fun k q hq => ?_⟩
  · match k, hq with
    | 0, hq => cases hq; exact h0
    | 1, hq => cases hq; exact h1
    | 2, hq => cases hq; exact h2
    | 3, hq => cases hq; exact h3
    | 4, hq => cases hq; exact h4
    | 5, hq => cases hq; exact h5
    | 6, hq => cases hq; exact h6
    | 7, hq => cases hq; exact h7
    | 8, hq => cases hq; exact h8
    | 9, hq => cases hq; exact h9
    | 10, hq => cases hq; exact h10
    | k + 11, hq => cases hq
  · match k, hq with
    | 0, hq => cases hq; exact ⟨d0, b0⟩
    | 1, hq => cases hq; exact ⟨d1, b1⟩
    | 2, hq => cases hq; exact ⟨d2, b2⟩
    | 3, hq => cases hq; exact ⟨d3, b3⟩
    | k + 4, hq => cases hq
end START
theorem okc0 : okc 0 := by unfold okc; decide
theorem bw_start : BW (0, 0, 0, 0, (fun _ => 0)) (0, (fun _ => 0)) (0, (fun _ => 0)) (0, (fun _ => 0), (fun _ => 0), (fun _ => 0), (fun _ => 0), (fun _ => 0), (fun _ => 0), (fun _ => 0)) (0, (fun _ => 0), (fun _ => 0)) 0 (0, (fun _ => 0)) (0, (fun _ => 0), (fun _ => 0), (fun _ => 0), (fun _ => 0)) (0, (fun _ => 0)) (0, 0, 0, (-1), 0, 0) (0, 0, 0, 0, (fun _ => 0)) (0, (fun _ => 0)) (0, (fun _ => 0)) (0, (fun _ => 0), (fun _ => 0), (fun _ => 0)) (0, (fun _ => 0)) (0, 0, 0, (fun _ => 0), (fun _ => 0), (fun _ => 0), (fun _ => 0), (fun _ => 0), (fun _ => 0), (fun _ => 0)) 0 (0, (fun _ => 0), (fun _ => 0)) (0, (fun _ => 0)) (0, 0, 0, 0, 0, 0, 0) := by
  refine ⟨⟨0, 0, 0, 0, fun _ => 0, rfl, rfl, by omega, by omega, fun _ => okc0⟩, rS.mk (n := 0) (by omega) fun i hi => rfl, rY.mk (a := 0) (by omega), ?_, rQ.same (g := 0) (by omega) fun i hi => by omega, ⟨rfl, .inl rfl⟩, rS.mk (n := 0) (by omega) fun i hi => rfl, rC.same (l := 0) (by omega) fun i hi => by omega, rO.mk (a := 0) (by omega), rfl, rfl, rfl, rfl⟩
  exact ⟨0, 0, fun _ => 0, fun _ => 0, fun _ => 0, fun _ => 0, fun _ => 0, fun _ => 0, fun _ => 0, by omega, rfl, rfl, fun h => absurd h (by decide), fun i hi => by omega⟩
theorem oc_start : OC (0, (fun _ => 0)) := fun _ => okc0
