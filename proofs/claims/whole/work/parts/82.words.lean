/-! what the tables say at the start -/
theorem st_kn {s : State} {b : Nat} (hts : ∀ w ∈ lw_tbl, w.before #[Value.ref b] s = true) {C : String} {T : u_T} {N : Nat} {big : List Cond} (hG : GoodIn lw_tbl big) (hin : ∀ w ∈ u_ws C T N, w ∈ big) (hi : (Cond.instantiable C N).before #[Value.ref b] s = true) : ∃ (cC : ClassId) (iS : Nat → Nat), u_Kn s C T N cC iS :=
  u_known hts (fun w hw => (hG w (hin w hw)).1) hi
theorem st_cl {s : State} {b : Nat} (hts : ∀ w ∈ lw_tbl, w.before #[Value.ref b] s = true) : ∀ q ∈ vwCl, ∃ (cC : ClassId) (iS : Nat → Nat), u_Kn s q.1 q.2.1 q.2.2 cC iS := by
  exact List.forall_mem_cons.mpr ⟨st_kn hts (N := 3) gi_X10_init (by decide +kernel) (hts (.instantiable RX0 3) (by decide +kernel)), List.forall_mem_cons.mpr ⟨st_kn hts (N := 11) gi_X10_init (by decide +kernel) (hts (.instantiable RX1 11) (by decide +kernel)), List.forall_mem_cons.mpr ⟨st_kn hts (N := 13) gi_X10_init (by decide +kernel) (hts (.instantiable RX2 13) (by decide +kernel)), List.forall_mem_cons.mpr ⟨st_kn hts (N := 7) gi_X10_init (by decide +kernel) (hts (.instantiable RX3 7) (by decide +kernel)), List.forall_mem_cons.mpr ⟨st_kn hts (N := 3) gi_X10_init (by decide +kernel) (hts (.instantiable RX4 3) (by decide +kernel)), List.forall_mem_cons.mpr ⟨st_kn hts (N := 3) gi_X10_init (by decide +kernel) (hts (.instantiable RX5 3) (by decide +kernel)), List.forall_mem_cons.mpr ⟨st_kn hts (N := 7) gi_X10_init (by decide +kernel) (hts (.instantiable RX6 7) (by decide +kernel)), List.forall_mem_cons.mpr ⟨st_kn hts (N := 5) gi_X10_init (by decide +kernel) (hts (.instantiable RX7 5) (by decide +kernel)), List.forall_mem_cons.mpr ⟨st_kn hts (N := 4) gi_X10_init (by decide +kernel) (hts (.instantiable RX8 4) (by decide +kernel)), List.forall_mem_cons.mpr ⟨st_kn hts (N := 4) gi_X10_init (by decide +kernel) (hts (.instantiable RX9 4) (by decide +kernel)), List.forall_mem_cons.mpr ⟨st_kn hts (N := 8) gi_X10_init (by decide +kernel) (hts (.instantiable RX10 8) (by decide +kernel)), List.forall_mem_cons.mpr ⟨st_kn hts (N := 53) gi_X11_init (by decide +kernel) (hts (.instantiable RX11 53) (by decide +kernel)), fun _ h => absurd h List.not_mem_nil⟩⟩⟩⟩⟩⟩⟩⟩⟩⟩⟩⟩
theorem st_ar {s : State} {args : Array Value} {ty : FieldType} (h : (Cond.arrayClass ty).before args s = true) : ∃ cA : ClassId, ArrOfT s cA ty ∧ s.vm.findClass ("[" ++ ty.toString) = some cA := by
  obtain ⟨c, k, comp, h1, h2, h3⟩ := Cond.arrayClass_spec h
  exact ⟨c, fun n z => ⟨fun q h => (by cases h), k, h2, comp, h3⟩, h1⟩
theorem st_ao {s : State} {C : String} (h : va_AO C s) : ∃ cA : ClassId, ArrOfT s cA (.object C) ∧ va_RA s cA (.object C) := by
  obtain ⟨comp, c, k, h1, h2, h3, h4, h5⟩ := Cond.arrayOver_spec h
  exact ⟨c, fun n z => ⟨fun q h => (by cases h), k, h3, comp, h4⟩, k, comp, h3, h4, h1, h5⟩
theorem st_dd {s : State} (h : ∀ q ∈ vwCl, ∃ (cC : ClassId) (iS : Nat → Nat), u_Kn s q.1 q.2.1 q.2.2 cC iS) (c : Nat) : ∃ d : ClassId × (Nat → Nat), ∀ q, vwCl[c]? = some q → u_Kn s q.1 q.2.1 q.2.2 d.1 d.2 := by
  cases hc : vwCl[c]? with
  | none => exact ⟨((0 : Nat), fun _ => 0), fun q h => by cases h⟩
  | some q0 =>
    obtain ⟨cC, iS, h1⟩ := h q0 (List.mem_of_getElem? hc)
    exact ⟨(cC, iS), fun q h => by cases h; exact h1⟩
theorem st_gK {s : State} {b : Nat} (hts : ∀ w ∈ lw_tbl, w.before #[Value.ref b] s = true) : ∃ E : eE, gK E s := by
  have h := st_dd (st_cl hts)
  obtain ⟨cI, i1, i2⟩ := st_ar (hts (.arrayClass .int) (by decide +kernel))
  obtain ⟨cZ, z1, z2⟩ := st_ar (hts (.arrayClass .boolean) (by decide +kernel))
  obtain ⟨cJ, j1, j2⟩ := st_ar (hts (.arrayClass .long) (by decide +kernel))
  obtain ⟨cC, c1, c2⟩ := st_ao (va_AO.of (hts (.arrayOver (.object "DosePump$Channel")) (by decide +kernel)))
  obtain ⟨cR, r1, r2⟩ := st_ao (va_AO.of (hts (.arrayOver (.object "DosePump$Drug")) (by decide +kernel)))
  refine ⟨(fun c => (Classical.choose (h c)).1, fun c => (Classical.choose (h c)).2, cI, cZ, cC, cR, cJ), fun c q hq => Classical.choose_spec (h c) q hq, fun k q hk => ?_⟩
  have hm := List.mem_of_getElem? hk
  simp only [List.mem_cons, List.not_mem_nil, or_false] at hm
  rcases hm with rfl | rfl | rfl | rfl | rfl
  · exact ⟨i1, i2⟩
  · exact ⟨z1, z2⟩
  · exact ⟨c1, c2⟩
  · exact ⟨r1, r2⟩
  · exact ⟨j1, j2⟩
theorem st_kN : ∀ w ∈ kN, w ∈ lw_tbl ∧ w.onTables = true := by decide +kernel
theorem st_kB {s : State} {b : Nat} (hts : ∀ w ∈ lw_tbl, w.before #[Value.ref b] s = true) : kB s :=
  ⟨fun w hw => va_Nw.of (st_kN w hw).2 (hts w (st_kN w hw).1), va_AO.of (hts (.arrayOver (.object "DosePump$Drug")) (by decide +kernel)), va_AO.of (hts (.arrayOver (.object "DosePump$Channel")) (by decide +kernel))⟩
theorem st_lNc {s : State} {b : Nat} (hgv : (Jvm.Cond.and given_1 narrow_1).before #[Value.ref b] s = true) : lNc s := by
  have hs := flat_of_before _ hgv
  exact ⟨va_Nc.of (hs (.not (.castable "java/lang/IllegalArgumentException" "java/lang/IndexOutOfBoundsException")) (by decide +kernel)), va_Nc.of (hs (.not (.castable "java/lang/IllegalStateException" "java/lang/IndexOutOfBoundsException")) (by decide +kernel)), va_Nc.of (hs (.not (.castable "java/lang/IllegalStateException" "java/lang/IllegalArgumentException")) (by decide +kernel))⟩
theorem st_bd : ∀ X ∈ xEs, ∀ w ∈ xBd X, w ∈ lw_tbl ∧ w.onTables = true := by decide +kernel
theorem st_str : ∀ q ∈ xStr, Cond.stringRef RX10 q.1 q.2 ∈ lw_tbl := by decide +kernel
theorem st_ex : ∀ q ∈ xStr, Cond.exactly (.string RX10 q.1) "java/lang/String" ∈ flatC (Jvm.Cond.and given_1 narrow_1) := by decide +kernel
theorem st_xS {s : State} {b : Nat} (hts : ∀ w ∈ lw_tbl, w.before #[Value.ref b] s = true) (hgv : (Jvm.Cond.and given_1 narrow_1).before #[Value.ref b] s = true) : xS (nA s.heap.size) s := by
  have hs := flat_of_before _ hgv
  have hA : ∀ a : Nat, a < s.heap.size → ¬ nA s.heap.size a := fun a h => Nat.not_le.mpr h
  refine ⟨vx_Zqof (hts (.laysStatic Bundle.tN "UNASSIGNED_STACK" Bundle.steD) (by decide +kernel)) (hts (.initialized Bundle.tN) (by decide +kernel)) (hs (.isRef (.static Bundle.tN "UNASSIGNED_STACK" Bundle.steD)) (by decide +kernel)) hA, vx_Zqof (hts (.laysStatic Bundle.tN "SUPPRESSED_SENTINEL" Bundle.listD) (by decide +kernel)) (hts (.initialized Bundle.tN) (by decide +kernel)) (hs (.isRef (.static Bundle.tN "SUPPRESSED_SENTINEL" Bundle.listD)) (by decide +kernel)) hA, fun q hq => ?_, fun X hX w hw => va_Nw.of (st_bd X hX w hw).2 (hts w (st_bd X hX w hw).1)⟩
  obtain ⟨a, c, cell, k, h1, -⟩ := Cond.exactly_spec (hs _ (st_ex q hq))
  exact ⟨a, vk_R.of (hts _ (st_str q hq)) h1⟩
