/-! constructors of the class's parts -/
abbrev kcX9_init (E : eE) (b : Nat) : List va_E := [.inr (9, [.int 0, .int 0, .int 0, .int 0])]
set_option maxHeartbeats 4000000 in
set_option maxRecDepth 100000 in
theorem kX9_init (l : Launch) (E : eE) (b : Nat) : Met l yX9_init wsX9_init ({ frames := 1, cells := 0, slots := 0, locals := 12 }) (kPre E b (.inr (9, [.int 0, .int 0, .int 0, .int 0])) [.ref b]) (kQ E b (kcX9_init E b)) 0 0 (kA b) := by
  refine Met.ofW (cc := cX9_init) (maxL := 1) (ret := none) (by decide) rfl ?_
  intro p e s m args below meth c s₁ B hml hv
  obtain ⟨rfl, hk, hK, hB⟩ := hv
  have hx := B.exec
  have hb := B.bytes
  have hr := B.returns
  have hts := atoms_spec (ws := wsX9_init) B.pre
  have hown : s.vm.findClass RX9 = some m.cls := findClass_of_methodNamed B.named
  have hlocks := B.notSynchronized
  have hin : meth.name = "<init>" := (name_of_methodNamed B.named B.method).1
  have hS : va_S (kA b) s.heap s.heap [] := va_S.rf
  have hl := lv_entry ([.ref b]) (n := 1) (Nat.le_of_ble_eq_true rfl)
  rw [lg_entry_eq]
  generalize (lg_sl ([.ref b]) ++ List.replicate (1 - (lg_sl ([.ref b])).length) Slot.unset).toArray = ls at hl ⊢
  have hl : lv_has ls 1 [(0, .ref b)] := hl
  refine lv_aload_n hx hb dX9_init_0 rfl (lv_at hl 0 rfl) ?_
  refine W.objInit hx hb hown (hts (.methodLink RX9 1 objectInit) (by decide +kernel)) (hts (.instanceMethod objectInit) (by decide +kernel)) (hts (.code objectInit ⟨#[0xb1]⟩ 1 none) (by decide +kernel)) rfl (hl.1.trans hml.symm) rfl dX9_init_1 (Nat.le_of_ble_eq_true rfl) (Nat.le_of_ble_eq_true rfl) ?_
  refine W.eq (g2 := F0 m 4 ls []) rfl ?_
  exact kx_vret (ws := kcX9_init E b) hx hb hr hlocks hK hk hS dX9_init_4 (Nat.le_of_ble_eq_true rfl) (Nat.le_of_ble_eq_true rfl)

abbrev kcX2_init (E : eE) (b : Nat) (p1 : Int32) : List va_E := [.inr (2, [.int (p1), .int 0, .int 0, .int (1), .int 0, .int 0, .int 0, .int 0, .int 0, .int 0, .int 0, .int 0, .int 0])]
set_option maxHeartbeats 4000000 in
set_option maxRecDepth 100000 in
theorem kX2_init (l : Launch) (E : eE) (b : Nat) (p1 : Int32) : Met l yX2_init wsX2_init ({ frames := 1, cells := 0, slots := 0, locals := 12 }) (kPre E b (.inr (2, [.int 0, .int 0, .int 0, .int 0, .int 0, .int 0, .int 0, .int 0, .int 0, .int 0, .int 0, .int 0, .int 0])) [.ref b, .int (p1)]) (kQ E b (kcX2_init E b p1)) 0 0 (kA b) := by
  refine Met.ofW (cc := cX2_init) (maxL := 2) (ret := none) (by decide) rfl ?_
  intro p e s m args below meth c s₁ B hml hv
  obtain ⟨rfl, hk, hK, hB⟩ := hv
  have hx := B.exec
  have hb := B.bytes
  have hr := B.returns
  have hts := atoms_spec (ws := wsX2_init) B.pre
  have hown : s.vm.findClass RX2 = some m.cls := findClass_of_methodNamed B.named
  have hlocks := B.notSynchronized
  have hin : meth.name = "<init>" := (name_of_methodNamed B.named B.method).1
  have i2 : ∀ w ∈ wsX20, w ∈ wsX2_init := by decide +kernel
  have kl7 := hts (.fieldLink RX2 7 "DosePump$Drug" "strength" "I") (by decide +kernel)
  have kl13 := hts (.fieldLink RX2 13 "DosePump$Drug" "number" "I") (by decide +kernel)
  have hS : va_S (kA b) s.heap s.heap [] := va_S.rf
  have hl := lv_entry ([.ref b, .int (p1)]) (n := 2) (Nat.le_of_ble_eq_true rfl)
  rw [lg_entry_eq]
  generalize (lg_sl ([.ref b, .int (p1)]) ++ List.replicate (2 - (lg_sl ([.ref b, .int (p1)])).length) Slot.unset).toArray = ls at hl ⊢
  have hl : lv_has ls 2 [(0, .ref b), (1, .int (p1))] := hl
  refine lv_aload_n hx hb dX2_init_0 rfl (lv_at hl 0 rfl) ?_
  refine W.objInit hx hb hown (hts (.methodLink RX2 1 objectInit) (by decide +kernel)) (hts (.instanceMethod objectInit) (by decide +kernel)) (hts (.code objectInit ⟨#[0xb1]⟩ 1 none) (by decide +kernel)) rfl (hl.1.trans hml.symm) rfl dX2_init_1 (Nat.le_of_ble_eq_true rfl) (Nat.le_of_ble_eq_true rfl) ?_
  refine W.eq (g2 := F0 m 4 ls []) rfl ?_
  refine lv_aload_n hx hb dX2_init_4 rfl (lv_at hl 0 rfl) ?_
  refine lv_iconst (v := 1) hx hb dX2_init_5 (by decide) ?_
  refine kx_put (ws := [.inr (2, [.int 0, .int 0, .int 0, .int 0, .int 0, .int 0, .int 0, .int 0, .int 0, .int 0, .int 0, .int 0, .int 0])]) (ci := 2) (v := .int (1)) hx hb hts i2 tyX2_ok nmX2 hown hK hk 0 rfl rfl (Nat.le_refl _) hS rfl 3 (by decide) kl7 (Or.inl rfl) rfl rfl (Nat.le_of_ble_eq_true rfl) dX2_init_6 (fun H locs hk hS => ?_)
  have hk : kat E b [.inr (2, [.int 0, .int 0, .int 0, .int (1), .int 0, .int 0, .int 0, .int 0, .int 0, .int 0, .int 0, .int 0, .int 0])] H := hk
  refine lv_aload_n hx hb dX2_init_9 rfl (lv_at hl 0 rfl) ?_
  refine lv_iload_n hx hb dX2_init_10 rfl (lv_at hl 1 rfl) ?_
  refine kx_put (ws := [.inr (2, [.int 0, .int 0, .int 0, .int (1), .int 0, .int 0, .int 0, .int 0, .int 0, .int 0, .int 0, .int 0, .int 0])]) (ci := 2) (v := .int (p1)) hx hb hts i2 tyX2_ok nmX2 hown hK hk 0 rfl rfl (Nat.le_refl _) hS rfl 0 (by decide) kl13 (Or.inr ⟨rfl, hin, rfl⟩) rfl rfl (Nat.le_of_ble_eq_true rfl) dX2_init_11 (fun H locs hk hS => ?_)
  have hk : kat E b [.inr (2, [.int (p1), .int 0, .int 0, .int (1), .int 0, .int 0, .int 0, .int 0, .int 0, .int 0, .int 0, .int 0, .int 0])] H := hk
  exact kx_vret (ws := kcX2_init E b p1) hx hb hr hlocks hK hk hS dX2_init_14 (Nat.le_of_ble_eq_true rfl) (Nat.le_of_ble_eq_true rfl)

abbrev kcX8_init_20 (E : eE) (b : Nat) : List va_E := [.inr (8, [.int (3600), .ref (b + 1), .int 0, .int 0]), .inl (eI E, 20, .inl (fun _ => 0))]
set_option maxHeartbeats 4000000 in
set_option maxRecDepth 100000 in
theorem kX8_init_20 (l : Launch) (E : eE) (b : Nat) : Met l yX8_init wsX8_init ({ frames := 1, cells := 1, slots := 20, locals := 21 }) (kPre E b (.inr (8, [.int 0, .null, .int 0, .int 0])) [.ref b, .int (3600), .int (20)]) (kQ E b (kcX8_init_20 E b)) 1 20 (kA b) := by
  refine Met.ofW (cc := cX8_init) (maxL := 3) (ret := none) (by decide) rfl ?_
  intro p e s m args below meth c s₁ B hml hv
  obtain ⟨rfl, hk, hK, hB⟩ := hv
  have hx := B.exec
  have hb := B.bytes
  have hr := B.returns
  have hts := atoms_spec (ws := wsX8_init) B.pre
  have hown : s.vm.findClass RX8 = some m.cls := findClass_of_methodNamed B.named
  have hlocks := B.notSynchronized
  have hin : meth.name = "<init>" := (name_of_methodNamed B.named B.method).1
  have i8 : ∀ w ∈ wsX80, w ∈ wsX8_init := by decide +kernel
  have kl7 := hts (.fieldLink RX8 7 "DosePump$Recent" "span" "I") (by decide +kernel)
  have kl19 := hts (.fieldLink RX8 19 "DosePump$Recent" "times" "[I") (by decide +kernel)
  have hS : va_S (kA b) s.heap s.heap [] := va_S.rf
  have hl := lv_entry ([.ref b, .int (3600), .int (20)]) (n := 3) (Nat.le_of_ble_eq_true rfl)
  rw [lg_entry_eq]
  generalize (lg_sl ([.ref b, .int (3600), .int (20)]) ++ List.replicate (3 - (lg_sl ([.ref b, .int (3600), .int (20)])).length) Slot.unset).toArray = ls at hl ⊢
  have hl : lv_has ls 3 [(0, .ref b), (1, .int (3600)), (2, .int (20))] := hl
  refine lv_aload_n hx hb dX8_init_0 rfl (lv_at hl 0 rfl) ?_
  refine W.objInit hx hb hown (hts (.methodLink RX8 1 objectInit) (by decide +kernel)) (hts (.instanceMethod objectInit) (by decide +kernel)) (hts (.code objectInit ⟨#[0xb1]⟩ 1 none) (by decide +kernel)) rfl (hl.1.trans hml.symm) rfl dX8_init_1 (Nat.le_of_ble_eq_true rfl) (Nat.le_of_ble_eq_true rfl) ?_
  refine W.eq (g2 := F0 m 4 ls []) rfl ?_
  refine lv_aload_n hx hb dX8_init_4 rfl (lv_at hl 0 rfl) ?_
  refine lv_iload_n hx hb dX8_init_5 rfl (lv_at hl 1 rfl) ?_
  refine kx_put (ws := [.inr (8, [.int 0, .null, .int 0, .int 0])]) (ci := 8) (v := .int (3600)) hx hb hts i8 tyX8_ok nmX8 hown hK hk 0 rfl rfl (Nat.le_refl _) hS rfl 0 (by decide) kl7 (Or.inr ⟨rfl, hin, rfl⟩) rfl rfl (Nat.le_of_ble_eq_true rfl) dX8_init_6 (fun H locs hk hS => ?_)
  have hk : kat E b [.inr (8, [.int (3600), .null, .int 0, .int 0])] H := hk
  refine lv_aload_n hx hb dX8_init_9 rfl (lv_at hl 0 rfl) ?_
  refine lv_iconst (v := 1) hx hb dX8_init_10 (by decide) ?_
  refine lv_iload_n hx hb dX8_init_11 rfl (lv_at hl 2 rfl) ?_
  refine va_mmax hx hb (hml.trans hl.1.symm) hown (hts (.methodLink RX8 13 Lib.Math.max.name) (by decide +kernel)) (hts (.static Lib.Math.max.name) (by decide +kernel)) (hts (.initialized "java/lang/Math") (by decide +kernel)) (hts (.code Lib.Math.max.name Lib.Math.max.code 2 (some .int)) (by decide +kernel)) (Nat.le_of_ble_eq_true rfl) (Nat.le_of_ble_eq_true rfl) (Nat.le_of_ble_eq_true rfl) (Nat.le_of_ble_eq_true rfl) dX8_init_12 ?_
  refine kx_newa (atype := .int) (ws := [.inr (8, [.int (3600), .null, .int 0, .int 0])]) (a := (b + 1)) (N' := 20) (cA := eI E) hx hb (hts (.arrayClass .int) (by decide +kernel)) rfl rfl (hK.2 0 _ rfl).2 hk rfl hS (by decide) (by decide) (by decide) (Nat.le_of_ble_eq_true rfl) (Nat.le_of_ble_eq_true rfl) dX8_init_15 (fun H hk hS => ?_)
  have hk : kat E b [.inr (8, [.int (3600), .null, .int 0, .int 0]), .inl (eI E, 20, .inl (fun _ => 0))] H := hk
  refine kx_put (ws := [.inr (8, [.int (3600), .null, .int 0, .int 0]), .inl (eI E, 20, .inl (fun _ => 0))]) (ci := 8) (v := .ref (b + 1)) hx hb hts i8 tyX8_ok nmX8 hown hK hk 0 rfl rfl (Nat.le_refl _) hS rfl 1 (by decide) kl19 (Or.inr ⟨rfl, hin, rfl⟩) rfl rfl (Nat.le_of_ble_eq_true rfl) dX8_init_17 (fun H locs hk hS => ?_)
  have hk : kat E b [.inr (8, [.int (3600), .ref (b + 1), .int 0, .int 0]), .inl (eI E, 20, .inl (fun _ => 0))] H := hk
  exact kx_vret (ws := kcX8_init_20 E b) hx hb hr hlocks hK hk hS dX8_init_20 (Nat.le_of_ble_eq_true rfl) (Nat.le_of_ble_eq_true rfl)

abbrev kcX8_init_60 (E : eE) (b : Nat) : List va_E := [.inr (8, [.int (900), .ref (b + 1), .int 0, .int 0]), .inl (eI E, 60, .inl (fun _ => 0))]
set_option maxHeartbeats 4000000 in
set_option maxRecDepth 100000 in
theorem kX8_init_60 (l : Launch) (E : eE) (b : Nat) : Met l yX8_init wsX8_init ({ frames := 1, cells := 1, slots := 60, locals := 21 }) (kPre E b (.inr (8, [.int 0, .null, .int 0, .int 0])) [.ref b, .int (900), .int (60)]) (kQ E b (kcX8_init_60 E b)) 1 60 (kA b) := by
  refine Met.ofW (cc := cX8_init) (maxL := 3) (ret := none) (by decide) rfl ?_
  intro p e s m args below meth c s₁ B hml hv
  obtain ⟨rfl, hk, hK, hB⟩ := hv
  have hx := B.exec
  have hb := B.bytes
  have hr := B.returns
  have hts := atoms_spec (ws := wsX8_init) B.pre
  have hown : s.vm.findClass RX8 = some m.cls := findClass_of_methodNamed B.named
  have hlocks := B.notSynchronized
  have hin : meth.name = "<init>" := (name_of_methodNamed B.named B.method).1
  have i8 : ∀ w ∈ wsX80, w ∈ wsX8_init := by decide +kernel
  have kl7 := hts (.fieldLink RX8 7 "DosePump$Recent" "span" "I") (by decide +kernel)
  have kl19 := hts (.fieldLink RX8 19 "DosePump$Recent" "times" "[I") (by decide +kernel)
  have hS : va_S (kA b) s.heap s.heap [] := va_S.rf
  have hl := lv_entry ([.ref b, .int (900), .int (60)]) (n := 3) (Nat.le_of_ble_eq_true rfl)
  rw [lg_entry_eq]
  generalize (lg_sl ([.ref b, .int (900), .int (60)]) ++ List.replicate (3 - (lg_sl ([.ref b, .int (900), .int (60)])).length) Slot.unset).toArray = ls at hl ⊢
  have hl : lv_has ls 3 [(0, .ref b), (1, .int (900)), (2, .int (60))] := hl
  refine lv_aload_n hx hb dX8_init_0 rfl (lv_at hl 0 rfl) ?_
  refine W.objInit hx hb hown (hts (.methodLink RX8 1 objectInit) (by decide +kernel)) (hts (.instanceMethod objectInit) (by decide +kernel)) (hts (.code objectInit ⟨#[0xb1]⟩ 1 none) (by decide +kernel)) rfl (hl.1.trans hml.symm) rfl dX8_init_1 (Nat.le_of_ble_eq_true rfl) (Nat.le_of_ble_eq_true rfl) ?_
  refine W.eq (g2 := F0 m 4 ls []) rfl ?_
  refine lv_aload_n hx hb dX8_init_4 rfl (lv_at hl 0 rfl) ?_
  refine lv_iload_n hx hb dX8_init_5 rfl (lv_at hl 1 rfl) ?_
  refine kx_put (ws := [.inr (8, [.int 0, .null, .int 0, .int 0])]) (ci := 8) (v := .int (900)) hx hb hts i8 tyX8_ok nmX8 hown hK hk 0 rfl rfl (Nat.le_refl _) hS rfl 0 (by decide) kl7 (Or.inr ⟨rfl, hin, rfl⟩) rfl rfl (Nat.le_of_ble_eq_true rfl) dX8_init_6 (fun H locs hk hS => ?_)
  have hk : kat E b [.inr (8, [.int (900), .null, .int 0, .int 0])] H := hk
  refine lv_aload_n hx hb dX8_init_9 rfl (lv_at hl 0 rfl) ?_
  refine lv_iconst (v := 1) hx hb dX8_init_10 (by decide) ?_
  refine lv_iload_n hx hb dX8_init_11 rfl (lv_at hl 2 rfl) ?_
  refine va_mmax hx hb (hml.trans hl.1.symm) hown (hts (.methodLink RX8 13 Lib.Math.max.name) (by decide +kernel)) (hts (.static Lib.Math.max.name) (by decide +kernel)) (hts (.initialized "java/lang/Math") (by decide +kernel)) (hts (.code Lib.Math.max.name Lib.Math.max.code 2 (some .int)) (by decide +kernel)) (Nat.le_of_ble_eq_true rfl) (Nat.le_of_ble_eq_true rfl) (Nat.le_of_ble_eq_true rfl) (Nat.le_of_ble_eq_true rfl) dX8_init_12 ?_
  refine kx_newa (atype := .int) (ws := [.inr (8, [.int (900), .null, .int 0, .int 0])]) (a := (b + 1)) (N' := 60) (cA := eI E) hx hb (hts (.arrayClass .int) (by decide +kernel)) rfl rfl (hK.2 0 _ rfl).2 hk rfl hS (by decide) (by decide) (by decide) (Nat.le_of_ble_eq_true rfl) (Nat.le_of_ble_eq_true rfl) dX8_init_15 (fun H hk hS => ?_)
  have hk : kat E b [.inr (8, [.int (900), .null, .int 0, .int 0]), .inl (eI E, 60, .inl (fun _ => 0))] H := hk
  refine kx_put (ws := [.inr (8, [.int (900), .null, .int 0, .int 0]), .inl (eI E, 60, .inl (fun _ => 0))]) (ci := 8) (v := .ref (b + 1)) hx hb hts i8 tyX8_ok nmX8 hown hK hk 0 rfl rfl (Nat.le_refl _) hS rfl 1 (by decide) kl19 (Or.inr ⟨rfl, hin, rfl⟩) rfl rfl (Nat.le_of_ble_eq_true rfl) dX8_init_17 (fun H locs hk hS => ?_)
  have hk : kat E b [.inr (8, [.int (900), .ref (b + 1), .int 0, .int 0]), .inl (eI E, 60, .inl (fun _ => 0))] H := hk
  exact kx_vret (ws := kcX8_init_60 E b) hx hb hr hlocks hK hk hS dX8_init_20 (Nat.le_of_ble_eq_true rfl) (Nat.le_of_ble_eq_true rfl)

abbrev kcX4_init (E : eE) (b : Nat) : List va_E := [.inr (4, [.ref (b + 1), .int 0, .int 0]), .inl (eI E, 3600, .inl (fun _ => 0))]
set_option maxHeartbeats 4000000 in
set_option maxRecDepth 100000 in
theorem kX4_init (l : Launch) (E : eE) (b : Nat) : Met l yX4_init wsX4_init ({ frames := 1, cells := 1, slots := 3600, locals := 12 }) (kPre E b (.inr (4, [.null, .int 0, .int 0])) [.ref b]) (kQ E b (kcX4_init E b)) 1 3600 (kA b) := by
  refine Met.ofW (cc := cX4_init) (maxL := 1) (ret := none) (by decide) rfl ?_
  intro p e s m args below meth c s₁ B hml hv
  obtain ⟨rfl, hk, hK, hB⟩ := hv
  have hx := B.exec
  have hb := B.bytes
  have hr := B.returns
  have hts := atoms_spec (ws := wsX4_init) B.pre
  have hown : s.vm.findClass RX4 = some m.cls := findClass_of_methodNamed B.named
  have hlocks := B.notSynchronized
  have hin : meth.name = "<init>" := (name_of_methodNamed B.named B.method).1
  have i4 : ∀ w ∈ wsX40, w ∈ wsX4_init := by decide +kernel
  have kl9 := hts (.fieldLink RX4 9 "DosePump$HourOfStrokes" "counts" "[I") (by decide +kernel)
  have hS : va_S (kA b) s.heap s.heap [] := va_S.rf
  have hl := lv_entry ([.ref b]) (n := 1) (Nat.le_of_ble_eq_true rfl)
  rw [lg_entry_eq]
  generalize (lg_sl ([.ref b]) ++ List.replicate (1 - (lg_sl ([.ref b])).length) Slot.unset).toArray = ls at hl ⊢
  have hl : lv_has ls 1 [(0, .ref b)] := hl
  refine lv_aload_n hx hb dX4_init_0 rfl (lv_at hl 0 rfl) ?_
  refine W.objInit hx hb hown (hts (.methodLink RX4 3 objectInit) (by decide +kernel)) (hts (.instanceMethod objectInit) (by decide +kernel)) (hts (.code objectInit ⟨#[0xb1]⟩ 1 none) (by decide +kernel)) rfl (hl.1.trans hml.symm) rfl dX4_init_1 (Nat.le_of_ble_eq_true rfl) (Nat.le_of_ble_eq_true rfl) ?_
  refine W.eq (g2 := F0 m 4 ls []) rfl ?_
  refine lv_aload_n hx hb dX4_init_4 rfl (lv_at hl 0 rfl) ?_
  refine lv_sipush (v := 3600) hx hb dX4_init_5 (by decide) ?_
  refine kx_newa (atype := .int) (ws := [.inr (4, [.null, .int 0, .int 0])]) (a := (b + 1)) (N' := 3600) (cA := eI E) hx hb (hts (.arrayClass .int) (by decide +kernel)) rfl rfl (hK.2 0 _ rfl).2 hk rfl hS (by decide) (by decide) (by decide) (Nat.le_of_ble_eq_true rfl) (Nat.le_of_ble_eq_true rfl) dX4_init_8 (fun H hk hS => ?_)
  have hk : kat E b [.inr (4, [.null, .int 0, .int 0]), .inl (eI E, 3600, .inl (fun _ => 0))] H := hk
  refine kx_put (ws := [.inr (4, [.null, .int 0, .int 0]), .inl (eI E, 3600, .inl (fun _ => 0))]) (ci := 4) (v := .ref (b + 1)) hx hb hts i4 tyX4_ok nmX4 hown hK hk 0 rfl rfl (Nat.le_refl _) hS rfl 0 (by decide) kl9 (Or.inr ⟨rfl, hin, rfl⟩) rfl rfl (Nat.le_of_ble_eq_true rfl) dX4_init_10 (fun H locs hk hS => ?_)
  have hk : kat E b [.inr (4, [.ref (b + 1), .int 0, .int 0]), .inl (eI E, 3600, .inl (fun _ => 0))] H := hk
  exact kx_vret (ws := kcX4_init E b) hx hb hr hlocks hK hk hS dX4_init_13 (Nat.le_of_ble_eq_true rfl) (Nat.le_of_ble_eq_true rfl)

abbrev kcX5_init (E : eE) (b : Nat) : List va_E := [.inr (5, [.ref (b + 1), .int 0, .long (1)]), .inl (eI E, 256, .inl (fun _ => 0))]
set_option maxHeartbeats 4000000 in
set_option maxRecDepth 100000 in
theorem kX5_init (l : Launch) (E : eE) (b : Nat) : Met l yX5_init wsX5_init ({ frames := 1, cells := 1, slots := 256, locals := 12 }) (kPre E b (.inr (5, [.null, .int 0, .long 0])) [.ref b]) (kQ E b (kcX5_init E b)) 1 256 (kA b) := by
  refine Met.ofW (cc := cX5_init) (maxL := 1) (ret := none) (by decide) rfl ?_
  intro p e s m args below meth c s₁ B hml hv
  obtain ⟨rfl, hk, hK, hB⟩ := hv
  have hx := B.exec
  have hb := B.bytes
  have hr := B.returns
  have hts := atoms_spec (ws := wsX5_init) B.pre
  have hown : s.vm.findClass RX5 = some m.cls := findClass_of_methodNamed B.named
  have hlocks := B.notSynchronized
  have hin : meth.name = "<init>" := (name_of_methodNamed B.named B.method).1
  have i5 : ∀ w ∈ wsX50, w ∈ wsX5_init := by decide +kernel
  have kl9 := hts (.fieldLink RX5 9 "DosePump$Journal" "cells" "[I") (by decide +kernel)
  have kl13 := hts (.fieldLink RX5 13 "DosePump$Journal" "links" "J") (by decide +kernel)
  have hS : va_S (kA b) s.heap s.heap [] := va_S.rf
  have hl := lv_entry ([.ref b]) (n := 1) (Nat.le_of_ble_eq_true rfl)
  rw [lg_entry_eq]
  generalize (lg_sl ([.ref b]) ++ List.replicate (1 - (lg_sl ([.ref b])).length) Slot.unset).toArray = ls at hl ⊢
  have hl : lv_has ls 1 [(0, .ref b)] := hl
  refine lv_aload_n hx hb dX5_init_0 rfl (lv_at hl 0 rfl) ?_
  refine W.objInit hx hb hown (hts (.methodLink RX5 1 objectInit) (by decide +kernel)) (hts (.instanceMethod objectInit) (by decide +kernel)) (hts (.code objectInit ⟨#[0xb1]⟩ 1 none) (by decide +kernel)) rfl (hl.1.trans hml.symm) rfl dX5_init_1 (Nat.le_of_ble_eq_true rfl) (Nat.le_of_ble_eq_true rfl) ?_
  refine W.eq (g2 := F0 m 4 ls []) rfl ?_
  refine lv_aload_n hx hb dX5_init_4 rfl (lv_at hl 0 rfl) ?_
  refine lv_sipush (v := 256) hx hb dX5_init_5 (by decide) ?_
  refine kx_newa (atype := .int) (ws := [.inr (5, [.null, .int 0, .long 0])]) (a := (b + 1)) (N' := 256) (cA := eI E) hx hb (hts (.arrayClass .int) (by decide +kernel)) rfl rfl (hK.2 0 _ rfl).2 hk rfl hS (by decide) (by decide) (by decide) (Nat.le_of_ble_eq_true rfl) (Nat.le_of_ble_eq_true rfl) dX5_init_8 (fun H hk hS => ?_)
  have hk : kat E b [.inr (5, [.null, .int 0, .long 0]), .inl (eI E, 256, .inl (fun _ => 0))] H := hk
  refine kx_put (ws := [.inr (5, [.null, .int 0, .long 0]), .inl (eI E, 256, .inl (fun _ => 0))]) (ci := 5) (v := .ref (b + 1)) hx hb hts i5 tyX5_ok nmX5 hown hK hk 0 rfl rfl (Nat.le_refl _) hS rfl 0 (by decide) kl9 (Or.inr ⟨rfl, hin, rfl⟩) rfl rfl (Nat.le_of_ble_eq_true rfl) dX5_init_10 (fun H locs hk hS => ?_)
  have hk : kat E b [.inr (5, [.ref (b + 1), .int 0, .long 0]), .inl (eI E, 256, .inl (fun _ => 0))] H := hk
  refine lv_aload_n hx hb dX5_init_13 rfl (lv_at hl 0 rfl) ?_
  refine lv_lconst (v := 1) hx hb dX5_init_14 (by decide) ?_
  refine kx_put (ws := [.inr (5, [.ref (b + 1), .int 0, .long 0]), .inl (eI E, 256, .inl (fun _ => 0))]) (ci := 5) (v := .long (1)) hx hb hts i5 tyX5_ok nmX5 hown hK hk 0 rfl rfl (Nat.le_refl _) hS rfl 2 (by decide) kl13 (Or.inl rfl) rfl rfl (Nat.le_of_ble_eq_true rfl) dX5_init_15 (fun H locs hk hS => ?_)
  have hk : kat E b [.inr (5, [.ref (b + 1), .int 0, .long (1)]), .inl (eI E, 256, .inl (fun _ => 0))] H := hk
  exact kx_vret (ws := kcX5_init E b) hx hb hr hlocks hK hk hS dX5_init_18 (Nat.le_of_ble_eq_true rfl) (Nat.le_of_ble_eq_true rfl)

abbrev kcX7_init (E : eE) (b : Nat) : List va_E := [.inr (7, [.ref (b + 1), .int 0, .int (-1), .int 0, .int 0]), .inr (2, [.int (-1), .int 0, .int 0, .int (1), .int 0, .int 0, .int 0, .int 0, .int 0, .int 0, .int 0, .int 0, .int 0])]
set_option maxHeartbeats 4000000 in
set_option maxRecDepth 100000 in
theorem kX7_init (l : Launch) (E : eE) (b : Nat) : Met l yX7_init wsX7_init ({ frames := 2, cells := 1, slots := 13, locals := 33 }) (kPre E b (.inr (7, [.null, .int 0, .int 0, .int 0, .int 0])) [.ref b]) (kQ E b (kcX7_init E b)) 1 13 (kA b) := by
  refine Met.ofW (cc := cX7_init) (maxL := 1) (ret := none) (by decide) rfl ?_
  intro p e s m args below meth c s₁ B hml hv
  obtain ⟨rfl, hk, hK, hB⟩ := hv
  have hx := B.exec
  have hb := B.bytes
  have hr := B.returns
  have hts := atoms_spec (ws := wsX7_init) B.pre
  have hown : s.vm.findClass RX7 = some m.cls := findClass_of_methodNamed B.named
  have hlocks := B.notSynchronized
  have hin : meth.name = "<init>" := (name_of_methodNamed B.named B.method).1
  have i2 : ∀ w ∈ wsX20, w ∈ wsX7_init := by decide +kernel
  have i7 : ∀ w ∈ wsX70, w ∈ wsX7_init := by decide +kernel
  have kl14 := hts (.fieldLink RX7 14 "DosePump$Program" "drug" "LDosePump$Drug;") (by decide +kernel)
  have kl20 := hts (.fieldLink RX7 20 "DosePump$Program" "left" "I") (by decide +kernel)
  have hS : va_S (kA b) s.heap s.heap [] := va_S.rf
  have hl := lv_entry ([.ref b]) (n := 1) (Nat.le_of_ble_eq_true rfl)
  rw [lg_entry_eq]
  generalize (lg_sl ([.ref b]) ++ List.replicate (1 - (lg_sl ([.ref b])).length) Slot.unset).toArray = ls at hl ⊢
  have hl : lv_has ls 1 [(0, .ref b)] := hl
  refine lv_aload_n hx hb dX7_init_0 rfl (lv_at hl 0 rfl) ?_
  refine W.objInit hx hb hown (hts (.methodLink RX7 3 objectInit) (by decide +kernel)) (hts (.instanceMethod objectInit) (by decide +kernel)) (hts (.code objectInit ⟨#[0xb1]⟩ 1 none) (by decide +kernel)) rfl (hl.1.trans hml.symm) rfl dX7_init_1 (Nat.le_of_ble_eq_true rfl) (Nat.le_of_ble_eq_true rfl) ?_
  refine W.eq (g2 := F0 m 4 ls []) rfl ?_
  refine lv_aload_n hx hb dX7_init_4 rfl (lv_at hl 0 rfl) ?_
  refine kx_new (ci := 2) (fs := [.int 0, .int 0, .int 0, .int 0, .int 0, .int 0, .int 0, .int 0, .int 0, .int 0, .int 0, .int 0, .int 0]) (ws := [.inr (7, [.null, .int 0, .int 0, .int 0, .int 0])]) (a := (b + 1)) hx hb hts i2 tyX2_ok hown (hts (.classLink RX7 9 RX2) (by decide +kernel)) (hts (.instantiable RX2 13) (by decide +kernel)) (hts (.initialized RX2) (by decide +kernel)) hK hk rfl hS rfl (by decide +kernel) (Nat.le_of_ble_eq_true rfl) (Nat.le_of_ble_eq_true rfl) dX7_init_5 (fun H hk hS => ?_)
  have hk : kat E b [.inr (7, [.null, .int 0, .int 0, .int 0, .int 0]), .inr (2, [.int 0, .int 0, .int 0, .int 0, .int 0, .int 0, .int 0, .int 0, .int 0, .int 0, .int 0, .int 0, .int 0])] H := hk
  refine lv_dup hx hb dX7_init_8 rfl ?_
  refine lv_iconst (v := -1) hx hb dX7_init_9 (by decide) ?_
  refine kx_call (ws := [.inr (7, [.null, .int 0, .int 0, .int 0, .int 0])]) (q0 := .inr (2, [.int 0, .int 0, .int 0, .int 0, .int 0, .int 0, .int 0, .int 0, .int 0, .int 0, .int 0, .int 0, .int 0])) (ws2 := kcX2_init E (b + 1) (-1)) (As := [.int (-1)]) (rest := [.ref (b + 1), .ref b]) ⟨hx, hb, hml, hown, hts⟩ (kX2_init l E (b + 1) (-1)) (cwI 1 hts gX7_init_X2_init rfl rfl rfl (hts (.initialized RX2) (by decide +kernel)) (hts (.methodLink RX7 11 yX2_init) (by decide +kernel)) (hts (.instanceMethod yX2_init) (by decide +kernel)) rfl (by decide +kernel) ⟨(Nat.le_of_ble_eq_true rfl), (Nat.le_of_ble_eq_true rfl)⟩) hk rfl hK hB rfl hl.1 rfl (Nat.le_of_ble_eq_true rfl) dX7_init_10 ⟨(Nat.le_of_ble_eq_true rfl), (Nat.le_of_ble_eq_true rfl)⟩ hS (fun q h => Nat.le_trans (Nat.le_add_right _ _) h) (fun H locs hk hS => ?_)
  have hk : kat E b [.inr (7, [.null, .int 0, .int 0, .int 0, .int 0]), .inr (2, [.int (-1), .int 0, .int 0, .int (1), .int 0, .int 0, .int 0, .int 0, .int 0, .int 0, .int 0, .int 0, .int 0])] H := hk
  refine kx_put (ws := [.inr (7, [.null, .int 0, .int 0, .int 0, .int 0]), .inr (2, [.int (-1), .int 0, .int 0, .int (1), .int 0, .int 0, .int 0, .int 0, .int 0, .int 0, .int 0, .int 0, .int 0])]) (ci := 7) (v := .ref (b + 1)) hx hb hts i7 tyX7_ok nmX7 hown hK hk 0 rfl rfl (Nat.le_refl _) hS rfl 0 (by decide) kl14 (Or.inl rfl) rfl rfl (Nat.le_of_ble_eq_true rfl) dX7_init_13 (fun H locs hk hS => ?_)
  have hk : kat E b [.inr (7, [.ref (b + 1), .int 0, .int 0, .int 0, .int 0]), .inr (2, [.int (-1), .int 0, .int 0, .int (1), .int 0, .int 0, .int 0, .int 0, .int 0, .int 0, .int 0, .int 0, .int 0])] H := hk
  refine lv_aload_n hx hb dX7_init_16 rfl (lv_at hl 0 rfl) ?_
  refine lv_iconst (v := -1) hx hb dX7_init_17 (by decide) ?_
  refine kx_put (ws := [.inr (7, [.ref (b + 1), .int 0, .int 0, .int 0, .int 0]), .inr (2, [.int (-1), .int 0, .int 0, .int (1), .int 0, .int 0, .int 0, .int 0, .int 0, .int 0, .int 0, .int 0, .int 0])]) (ci := 7) (v := .int (-1)) hx hb hts i7 tyX7_ok nmX7 hown hK hk 0 rfl rfl (Nat.le_refl _) hS rfl 2 (by decide) kl20 (Or.inl rfl) rfl rfl (Nat.le_of_ble_eq_true rfl) dX7_init_18 (fun H locs hk hS => ?_)
  have hk : kat E b [.inr (7, [.ref (b + 1), .int 0, .int (-1), .int 0, .int 0]), .inr (2, [.int (-1), .int 0, .int 0, .int (1), .int 0, .int 0, .int 0, .int 0, .int 0, .int 0, .int 0, .int 0, .int 0])] H := hk
  exact kx_vret (ws := kcX7_init E b) hx hb hr hlocks hK hk hS dX7_init_21 (Nat.le_of_ble_eq_true rfl) (Nat.le_of_ble_eq_true rfl)

abbrev kcX0_init (E : eE) (b : Nat) : List va_E := [.inr (0, [.ref (b + 1), .int (-3600), .int 0]), .inr (8, [.int (3600), .ref (b + 2), .int 0, .int 0]), .inl (eI E, 20, .inl (fun _ => 0))]
set_option maxHeartbeats 4000000 in
set_option maxRecDepth 100000 in
theorem kX0_init (l : Launch) (E : eE) (b : Nat) : Met l yX0_init wsX0_init ({ frames := 2, cells := 2, slots := 24, locals := 43 }) (kPre E b (.inr (0, [.null, .int 0, .int 0])) [.ref b]) (kQ E b (kcX0_init E b)) 2 24 (kA b) := by
  refine Met.ofW (cc := cX0_init) (maxL := 1) (ret := none) (by decide) rfl ?_
  intro p e s m args below meth c s₁ B hml hv
  obtain ⟨rfl, hk, hK, hB⟩ := hv
  have hx := B.exec
  have hb := B.bytes
  have hr := B.returns
  have hts := atoms_spec (ws := wsX0_init) B.pre
  have hown : s.vm.findClass RX0 = some m.cls := findClass_of_methodNamed B.named
  have hlocks := B.notSynchronized
  have hin : meth.name = "<init>" := (name_of_methodNamed B.named B.method).1
  have i0 : ∀ w ∈ wsX00, w ∈ wsX0_init := by decide +kernel
  have i8 : ∀ w ∈ wsX80, w ∈ wsX0_init := by decide +kernel
  have kl14 := hts (.fieldLink RX0 14 "DosePump$Boluses" "begun" "LDosePump$Recent;") (by decide +kernel)
  have kl20 := hts (.fieldLink RX0 20 "DosePump$Boluses" "latest" "I") (by decide +kernel)
  have hS : va_S (kA b) s.heap s.heap [] := va_S.rf
  have hl := lv_entry ([.ref b]) (n := 1) (Nat.le_of_ble_eq_true rfl)
  rw [lg_entry_eq]
  generalize (lg_sl ([.ref b]) ++ List.replicate (1 - (lg_sl ([.ref b])).length) Slot.unset).toArray = ls at hl ⊢
  have hl : lv_has ls 1 [(0, .ref b)] := hl
  refine lv_aload_n hx hb dX0_init_0 rfl (lv_at hl 0 rfl) ?_
  refine W.objInit hx hb hown (hts (.methodLink RX0 3 objectInit) (by decide +kernel)) (hts (.instanceMethod objectInit) (by decide +kernel)) (hts (.code objectInit ⟨#[0xb1]⟩ 1 none) (by decide +kernel)) rfl (hl.1.trans hml.symm) rfl dX0_init_1 (Nat.le_of_ble_eq_true rfl) (Nat.le_of_ble_eq_true rfl) ?_
  refine W.eq (g2 := F0 m 4 ls []) rfl ?_
  refine lv_aload_n hx hb dX0_init_4 rfl (lv_at hl 0 rfl) ?_
  refine kx_new (ci := 8) (fs := [.int 0, .null, .int 0, .int 0]) (ws := [.inr (0, [.null, .int 0, .int 0])]) (a := (b + 1)) hx hb hts i8 tyX8_ok hown (hts (.classLink RX0 9 RX8) (by decide +kernel)) (hts (.instantiable RX8 4) (by decide +kernel)) (hts (.initialized RX8) (by decide +kernel)) hK hk rfl hS rfl (by decide +kernel) (Nat.le_of_ble_eq_true rfl) (Nat.le_of_ble_eq_true rfl) dX0_init_5 (fun H hk hS => ?_)
  have hk : kat E b [.inr (0, [.null, .int 0, .int 0]), .inr (8, [.int 0, .null, .int 0, .int 0])] H := hk
  refine lv_dup hx hb dX0_init_8 rfl ?_
  refine lv_sipush (v := 3600) hx hb dX0_init_9 (by decide) ?_
  refine lv_bipush (v := 20) hx hb dX0_init_12 (by decide) ?_
  refine kx_call (ws := [.inr (0, [.null, .int 0, .int 0])]) (q0 := .inr (8, [.int 0, .null, .int 0, .int 0])) (ws2 := kcX8_init_20 E (b + 1)) (As := [.int (3600), .int (20)]) (rest := [.ref (b + 1), .ref b]) ⟨hx, hb, hml, hown, hts⟩ (kX8_init_20 l E (b + 1)) (cwI 2 hts gX0_init_X8_init rfl rfl rfl (hts (.initialized RX8) (by decide +kernel)) (hts (.methodLink RX0 11 yX8_init) (by decide +kernel)) (hts (.instanceMethod yX8_init) (by decide +kernel)) rfl (by decide +kernel) ⟨(Nat.le_of_ble_eq_true rfl), (Nat.le_of_ble_eq_true rfl)⟩) hk rfl hK hB rfl hl.1 rfl (Nat.le_of_ble_eq_true rfl) dX0_init_14 ⟨(Nat.le_of_ble_eq_true rfl), (Nat.le_of_ble_eq_true rfl)⟩ hS (fun q h => Nat.le_trans (Nat.le_add_right _ _) h) (fun H locs hk hS => ?_)
  have hk : kat E b [.inr (0, [.null, .int 0, .int 0]), .inr (8, [.int (3600), .ref (b + 2), .int 0, .int 0]), .inl (eI E, 20, .inl (fun _ => 0))] H := hk
  refine kx_put (ws := [.inr (0, [.null, .int 0, .int 0]), .inr (8, [.int (3600), .ref (b + 2), .int 0, .int 0]), .inl (eI E, 20, .inl (fun _ => 0))]) (ci := 0) (v := .ref (b + 1)) hx hb hts i0 tyX0_ok nmX0 hown hK hk 0 rfl rfl (Nat.le_refl _) hS rfl 0 (by decide) kl14 (Or.inr ⟨rfl, hin, rfl⟩) rfl rfl (Nat.le_of_ble_eq_true rfl) dX0_init_17 (fun H locs hk hS => ?_)
  have hk : kat E b [.inr (0, [.ref (b + 1), .int 0, .int 0]), .inr (8, [.int (3600), .ref (b + 2), .int 0, .int 0]), .inl (eI E, 20, .inl (fun _ => 0))] H := hk
  refine lv_aload_n hx hb dX0_init_20 rfl (lv_at hl 0 rfl) ?_
  refine lv_sipush (v := -3600) hx hb dX0_init_21 (by decide) ?_
  refine kx_put (ws := [.inr (0, [.ref (b + 1), .int 0, .int 0]), .inr (8, [.int (3600), .ref (b + 2), .int 0, .int 0]), .inl (eI E, 20, .inl (fun _ => 0))]) (ci := 0) (v := .int (-3600)) hx hb hts i0 tyX0_ok nmX0 hown hK hk 0 rfl rfl (Nat.le_refl _) hS rfl 1 (by decide) kl20 (Or.inl rfl) rfl rfl (Nat.le_of_ble_eq_true rfl) dX0_init_24 (fun H locs hk hS => ?_)
  have hk : kat E b [.inr (0, [.ref (b + 1), .int (-3600), .int 0]), .inr (8, [.int (3600), .ref (b + 2), .int 0, .int 0]), .inl (eI E, 20, .inl (fun _ => 0))] H := hk
  exact kx_vret (ws := kcX0_init E b) hx hb hr hlocks hK hk hS dX0_init_27 (Nat.le_of_ble_eq_true rfl) (Nat.le_of_ble_eq_true rfl)

abbrev kcX6_init (E : eE) (b : Nat) : List va_E := [.inr (6, [.ref (b + 1), .int (200), .int 0, .int 0, .int 0, .int 0, .int 0]), .inr (8, [.int (900), .ref (b + 2), .int 0, .int 0]), .inl (eI E, 60, .inl (fun _ => 0))]
set_option maxHeartbeats 4000000 in
set_option maxRecDepth 100000 in
theorem kX6_init (l : Launch) (E : eE) (b : Nat) : Met l yX6_init wsX6_init ({ frames := 2, cells := 2, slots := 64, locals := 43 }) (kPre E b (.inr (6, [.null, .int 0, .int 0, .int 0, .int 0, .int 0, .int 0])) [.ref b]) (kQ E b (kcX6_init E b)) 2 64 (kA b) := by
  refine Met.ofW (cc := cX6_init) (maxL := 1) (ret := none) (by decide) rfl ?_
  intro p e s m args below meth c s₁ B hml hv
  obtain ⟨rfl, hk, hK, hB⟩ := hv
  have hx := B.exec
  have hb := B.bytes
  have hr := B.returns
  have hts := atoms_spec (ws := wsX6_init) B.pre
  have hown : s.vm.findClass RX6 = some m.cls := findClass_of_methodNamed B.named
  have hlocks := B.notSynchronized
  have hin : meth.name = "<init>" := (name_of_methodNamed B.named B.method).1
  have i6 : ∀ w ∈ wsX60, w ∈ wsX6_init := by decide +kernel
  have i8 : ∀ w ∈ wsX80, w ∈ wsX6_init := by decide +kernel
  have kl14 := hts (.fieldLink RX6 14 "DosePump$Line" "airStrokes" "LDosePump$Recent;") (by decide +kernel)
  have kl18 := hts (.fieldLink RX6 18 "DosePump$Line" "flow" "I") (by decide +kernel)
  have hS : va_S (kA b) s.heap s.heap [] := va_S.rf
  have hl := lv_entry ([.ref b]) (n := 1) (Nat.le_of_ble_eq_true rfl)
  rw [lg_entry_eq]
  generalize (lg_sl ([.ref b]) ++ List.replicate (1 - (lg_sl ([.ref b])).length) Slot.unset).toArray = ls at hl ⊢
  have hl : lv_has ls 1 [(0, .ref b)] := hl
  refine lv_aload_n hx hb dX6_init_0 rfl (lv_at hl 0 rfl) ?_
  refine W.objInit hx hb hown (hts (.methodLink RX6 1 objectInit) (by decide +kernel)) (hts (.instanceMethod objectInit) (by decide +kernel)) (hts (.code objectInit ⟨#[0xb1]⟩ 1 none) (by decide +kernel)) rfl (hl.1.trans hml.symm) rfl dX6_init_1 (Nat.le_of_ble_eq_true rfl) (Nat.le_of_ble_eq_true rfl) ?_
  refine W.eq (g2 := F0 m 4 ls []) rfl ?_
  refine lv_aload_n hx hb dX6_init_4 rfl (lv_at hl 0 rfl) ?_
  refine kx_new (ci := 8) (fs := [.int 0, .null, .int 0, .int 0]) (ws := [.inr (6, [.null, .int 0, .int 0, .int 0, .int 0, .int 0, .int 0])]) (a := (b + 1)) hx hb hts i8 tyX8_ok hown (hts (.classLink RX6 7 RX8) (by decide +kernel)) (hts (.instantiable RX8 4) (by decide +kernel)) (hts (.initialized RX8) (by decide +kernel)) hK hk rfl hS rfl (by decide +kernel) (Nat.le_of_ble_eq_true rfl) (Nat.le_of_ble_eq_true rfl) dX6_init_5 (fun H hk hS => ?_)
  have hk : kat E b [.inr (6, [.null, .int 0, .int 0, .int 0, .int 0, .int 0, .int 0]), .inr (8, [.int 0, .null, .int 0, .int 0])] H := hk
  refine lv_dup hx hb dX6_init_8 rfl ?_
  refine lv_sipush (v := 900) hx hb dX6_init_9 (by decide) ?_
  refine lv_bipush (v := 60) hx hb dX6_init_12 (by decide) ?_
  refine kx_call (ws := [.inr (6, [.null, .int 0, .int 0, .int 0, .int 0, .int 0, .int 0])]) (q0 := .inr (8, [.int 0, .null, .int 0, .int 0])) (ws2 := kcX8_init_60 E (b + 1)) (As := [.int (900), .int (60)]) (rest := [.ref (b + 1), .ref b]) ⟨hx, hb, hml, hown, hts⟩ (kX8_init_60 l E (b + 1)) (cwI 2 hts gX6_init_X8_init rfl rfl rfl (hts (.initialized RX8) (by decide +kernel)) (hts (.methodLink RX6 11 yX8_init) (by decide +kernel)) (hts (.instanceMethod yX8_init) (by decide +kernel)) rfl (by decide +kernel) ⟨(Nat.le_of_ble_eq_true rfl), (Nat.le_of_ble_eq_true rfl)⟩) hk rfl hK hB rfl hl.1 rfl (Nat.le_of_ble_eq_true rfl) dX6_init_14 ⟨(Nat.le_of_ble_eq_true rfl), (Nat.le_of_ble_eq_true rfl)⟩ hS (fun q h => Nat.le_trans (Nat.le_add_right _ _) h) (fun H locs hk hS => ?_)
  have hk : kat E b [.inr (6, [.null, .int 0, .int 0, .int 0, .int 0, .int 0, .int 0]), .inr (8, [.int (900), .ref (b + 2), .int 0, .int 0]), .inl (eI E, 60, .inl (fun _ => 0))] H := hk
  refine kx_put (ws := [.inr (6, [.null, .int 0, .int 0, .int 0, .int 0, .int 0, .int 0]), .inr (8, [.int (900), .ref (b + 2), .int 0, .int 0]), .inl (eI E, 60, .inl (fun _ => 0))]) (ci := 6) (v := .ref (b + 1)) hx hb hts i6 tyX6_ok nmX6 hown hK hk 0 rfl rfl (Nat.le_refl _) hS rfl 0 (by decide) kl14 (Or.inr ⟨rfl, hin, rfl⟩) rfl rfl (Nat.le_of_ble_eq_true rfl) dX6_init_17 (fun H locs hk hS => ?_)
  have hk : kat E b [.inr (6, [.ref (b + 1), .int 0, .int 0, .int 0, .int 0, .int 0, .int 0]), .inr (8, [.int (900), .ref (b + 2), .int 0, .int 0]), .inl (eI E, 60, .inl (fun _ => 0))] H := hk
  refine lv_aload_n hx hb dX6_init_20 rfl (lv_at hl 0 rfl) ?_
  refine lv_sipush (v := 200) hx hb dX6_init_21 (by decide) ?_
  refine kx_put (ws := [.inr (6, [.ref (b + 1), .int 0, .int 0, .int 0, .int 0, .int 0, .int 0]), .inr (8, [.int (900), .ref (b + 2), .int 0, .int 0]), .inl (eI E, 60, .inl (fun _ => 0))]) (ci := 6) (v := .int (200)) hx hb hts i6 tyX6_ok nmX6 hown hK hk 0 rfl rfl (Nat.le_refl _) hS rfl 1 (by decide) kl18 (Or.inl rfl) rfl rfl (Nat.le_of_ble_eq_true rfl) dX6_init_24 (fun H locs hk hS => ?_)
  have hk : kat E b [.inr (6, [.ref (b + 1), .int (200), .int 0, .int 0, .int 0, .int 0, .int 0]), .inr (8, [.int (900), .ref (b + 2), .int 0, .int 0]), .inl (eI E, 60, .inl (fun _ => 0))] H := hk
  exact kx_vret (ws := kcX6_init E b) hx hb hr hlocks hK hk hS dX6_init_27 (Nat.le_of_ble_eq_true rfl) (Nat.le_of_ble_eq_true rfl)

abbrev kcX3_init (E : eE) (b : Nat) : List va_E := [.inr (3, [.ref (b + 1), .ref (b + 2), .ref (b + 2), .int 0, .int 0, .int 0, .int 0]), .inr (9, [.int 0, .int 0, .int 0, .int 0]), .inr (2, [.int (-1), .int 0, .int 0, .int (1), .int 0, .int 0, .int 0, .int 0, .int 0, .int 0, .int 0, .int 0, .int 0])]
set_option maxHeartbeats 4000000 in
set_option maxRecDepth 100000 in
theorem kX3_init (l : Launch) (E : eE) (b : Nat) : Met l yX3_init wsX3_init ({ frames := 2, cells := 2, slots := 17, locals := 33 }) (kPre E b (.inr (3, [.null, .null, .null, .int 0, .int 0, .int 0, .int 0])) [.ref b]) (kQ E b (kcX3_init E b)) 2 17 (kA b) := by
  refine Met.ofW (cc := cX3_init) (maxL := 1) (ret := none) (by decide) rfl ?_
  intro p e s m args below meth c s₁ B hml hv
  obtain ⟨rfl, hk, hK, hB⟩ := hv
  have hx := B.exec
  have hb := B.bytes
  have hr := B.returns
  have hts := atoms_spec (ws := wsX3_init) B.pre
  have hown : s.vm.findClass RX3 = some m.cls := findClass_of_methodNamed B.named
  have hlocks := B.notSynchronized
  have hin : meth.name = "<init>" := (name_of_methodNamed B.named B.method).1
  have i2 : ∀ w ∈ wsX20, w ∈ wsX3_init := by decide +kernel
  have i3 : ∀ w ∈ wsX30, w ∈ wsX3_init := by decide +kernel
  have i9 : ∀ w ∈ wsX90, w ∈ wsX3_init := by decide +kernel
  have kl12 := hts (.fieldLink RX3 12 "DosePump$Entry" "typed" "LDosePump$Typed;") (by decide +kernel)
  have kl23 := hts (.fieldLink RX3 23 "DosePump$Entry" "noDrug" "LDosePump$Drug;") (by decide +kernel)
  have kl27 := hts (.fieldLink RX3 27 "DosePump$Entry" "drug" "LDosePump$Drug;") (by decide +kernel)
  have hS : va_S (kA b) s.heap s.heap [] := va_S.rf
  have hl := lv_entry ([.ref b]) (n := 1) (Nat.le_of_ble_eq_true rfl)
  rw [lg_entry_eq]
  generalize (lg_sl ([.ref b]) ++ List.replicate (1 - (lg_sl ([.ref b])).length) Slot.unset).toArray = ls at hl ⊢
  have hl : lv_has ls 1 [(0, .ref b)] := hl
  refine lv_aload_n hx hb dX3_init_0 rfl (lv_at hl 0 rfl) ?_
  refine W.objInit hx hb hown (hts (.methodLink RX3 3 objectInit) (by decide +kernel)) (hts (.instanceMethod objectInit) (by decide +kernel)) (hts (.code objectInit ⟨#[0xb1]⟩ 1 none) (by decide +kernel)) rfl (hl.1.trans hml.symm) rfl dX3_init_1 (Nat.le_of_ble_eq_true rfl) (Nat.le_of_ble_eq_true rfl) ?_
  refine W.eq (g2 := F0 m 4 ls []) rfl ?_
  refine lv_aload_n hx hb dX3_init_4 rfl (lv_at hl 0 rfl) ?_
  refine kx_new (ci := 9) (fs := [.int 0, .int 0, .int 0, .int 0]) (ws := [.inr (3, [.null, .null, .null, .int 0, .int 0, .int 0, .int 0])]) (a := (b + 1)) hx hb hts i9 tyX9_ok hown (hts (.classLink RX3 9 RX9) (by decide +kernel)) (hts (.instantiable RX9 4) (by decide +kernel)) (hts (.initialized RX9) (by decide +kernel)) hK hk rfl hS rfl (by decide +kernel) (Nat.le_of_ble_eq_true rfl) (Nat.le_of_ble_eq_true rfl) dX3_init_5 (fun H hk hS => ?_)
  have hk : kat E b [.inr (3, [.null, .null, .null, .int 0, .int 0, .int 0, .int 0]), .inr (9, [.int 0, .int 0, .int 0, .int 0])] H := hk
  refine lv_dup hx hb dX3_init_8 rfl ?_
  refine kx_callN (ws := [.inr (3, [.null, .null, .null, .int 0, .int 0, .int 0, .int 0])]) (q0 := .inr (9, [.int 0, .int 0, .int 0, .int 0])) (ws2 := kcX9_init E (b + 1)) (As := []) (rest := [.ref (b + 1), .ref b]) ⟨hx, hb, hml, hown, hts⟩ (kX9_init l E (b + 1)) ⟨va_cnB 0 hts gX3_init_X9_init_n11 rfl rfl rfl (hB.1 (.methodLinkNest RX3 11 yX9_init "DosePump") (by decide +kernel)) (hts (.initialized RX9) (by decide +kernel)) (by decide +kernel) ⟨(Nat.le_of_ble_eq_true rfl), (Nat.le_of_ble_eq_true rfl)⟩, rfl, hts (.instanceMethod yX9_init) (by decide +kernel)⟩ hk rfl hK hB rfl hl.1 rfl (Nat.le_of_ble_eq_true rfl) dX3_init_9 ⟨(Nat.le_of_ble_eq_true rfl), (Nat.le_of_ble_eq_true rfl)⟩ hS (fun q h => Nat.le_trans (Nat.le_add_right _ _) h) (fun H locs hk hS => ?_)
  have hk : kat E b [.inr (3, [.null, .null, .null, .int 0, .int 0, .int 0, .int 0]), .inr (9, [.int 0, .int 0, .int 0, .int 0])] H := hk
  refine kx_put (ws := [.inr (3, [.null, .null, .null, .int 0, .int 0, .int 0, .int 0]), .inr (9, [.int 0, .int 0, .int 0, .int 0])]) (ci := 3) (v := .ref (b + 1)) hx hb hts i3 tyX3_ok nmX3 hown hK hk 0 rfl rfl (Nat.le_refl _) hS rfl 0 (by decide) kl12 (Or.inr ⟨rfl, hin, rfl⟩) rfl rfl (Nat.le_of_ble_eq_true rfl) dX3_init_12 (fun H locs hk hS => ?_)
  have hk : kat E b [.inr (3, [.ref (b + 1), .null, .null, .int 0, .int 0, .int 0, .int 0]), .inr (9, [.int 0, .int 0, .int 0, .int 0])] H := hk
  refine lv_aload_n hx hb dX3_init_15 rfl (lv_at hl 0 rfl) ?_
  refine kx_new (ci := 2) (fs := [.int 0, .int 0, .int 0, .int 0, .int 0, .int 0, .int 0, .int 0, .int 0, .int 0, .int 0, .int 0, .int 0]) (ws := [.inr (3, [.ref (b + 1), .null, .null, .int 0, .int 0, .int 0, .int 0]), .inr (9, [.int 0, .int 0, .int 0, .int 0])]) (a := (b + 2)) hx hb hts i2 tyX2_ok hown (hts (.classLink RX3 18 RX2) (by decide +kernel)) (hts (.instantiable RX2 13) (by decide +kernel)) (hts (.initialized RX2) (by decide +kernel)) hK hk rfl hS rfl (by decide +kernel) (Nat.le_of_ble_eq_true rfl) (Nat.le_of_ble_eq_true rfl) dX3_init_16 (fun H hk hS => ?_)
  have hk : kat E b [.inr (3, [.ref (b + 1), .null, .null, .int 0, .int 0, .int 0, .int 0]), .inr (9, [.int 0, .int 0, .int 0, .int 0]), .inr (2, [.int 0, .int 0, .int 0, .int 0, .int 0, .int 0, .int 0, .int 0, .int 0, .int 0, .int 0, .int 0, .int 0])] H := hk
  refine lv_dup hx hb dX3_init_19 rfl ?_
  refine lv_iconst (v := -1) hx hb dX3_init_20 (by decide) ?_
  refine kx_call (ws := [.inr (3, [.ref (b + 1), .null, .null, .int 0, .int 0, .int 0, .int 0]), .inr (9, [.int 0, .int 0, .int 0, .int 0])]) (q0 := .inr (2, [.int 0, .int 0, .int 0, .int 0, .int 0, .int 0, .int 0, .int 0, .int 0, .int 0, .int 0, .int 0, .int 0])) (ws2 := kcX2_init E (b + 2) (-1)) (As := [.int (-1)]) (rest := [.ref (b + 2), .ref b]) ⟨hx, hb, hml, hown, hts⟩ (kX2_init l E (b + 2) (-1)) (cwI 1 hts gX3_init_X2_init rfl rfl rfl (hts (.initialized RX2) (by decide +kernel)) (hts (.methodLink RX3 20 yX2_init) (by decide +kernel)) (hts (.instanceMethod yX2_init) (by decide +kernel)) rfl (by decide +kernel) ⟨(Nat.le_of_ble_eq_true rfl), (Nat.le_of_ble_eq_true rfl)⟩) hk rfl hK hB rfl hl.1 rfl (Nat.le_of_ble_eq_true rfl) dX3_init_21 ⟨(Nat.le_of_ble_eq_true rfl), (Nat.le_of_ble_eq_true rfl)⟩ hS (fun q h => Nat.le_trans (Nat.le_add_right _ _) h) (fun H locs hk hS => ?_)
  have hk : kat E b [.inr (3, [.ref (b + 1), .null, .null, .int 0, .int 0, .int 0, .int 0]), .inr (9, [.int 0, .int 0, .int 0, .int 0]), .inr (2, [.int (-1), .int 0, .int 0, .int (1), .int 0, .int 0, .int 0, .int 0, .int 0, .int 0, .int 0, .int 0, .int 0])] H := hk
  refine kx_put (ws := [.inr (3, [.ref (b + 1), .null, .null, .int 0, .int 0, .int 0, .int 0]), .inr (9, [.int 0, .int 0, .int 0, .int 0]), .inr (2, [.int (-1), .int 0, .int 0, .int (1), .int 0, .int 0, .int 0, .int 0, .int 0, .int 0, .int 0, .int 0, .int 0])]) (ci := 3) (v := .ref (b + 2)) hx hb hts i3 tyX3_ok nmX3 hown hK hk 0 rfl rfl (Nat.le_refl _) hS rfl 1 (by decide) kl23 (Or.inr ⟨rfl, hin, rfl⟩) rfl rfl (Nat.le_of_ble_eq_true rfl) dX3_init_24 (fun H locs hk hS => ?_)
  have hk : kat E b [.inr (3, [.ref (b + 1), .ref (b + 2), .null, .int 0, .int 0, .int 0, .int 0]), .inr (9, [.int 0, .int 0, .int 0, .int 0]), .inr (2, [.int (-1), .int 0, .int 0, .int (1), .int 0, .int 0, .int 0, .int 0, .int 0, .int 0, .int 0, .int 0, .int 0])] H := hk
  refine lv_aload_n hx hb dX3_init_27 rfl (lv_at hl 0 rfl) ?_
  refine lv_aload_n hx hb dX3_init_28 rfl (lv_at hl 0 rfl) ?_
  refine kx_get (ws := [.inr (3, [.ref (b + 1), .ref (b + 2), .null, .int 0, .int 0, .int 0, .int 0]), .inr (9, [.int 0, .int 0, .int 0, .int 0]), .inr (2, [.int (-1), .int 0, .int 0, .int (1), .int 0, .int 0, .int 0, .int 0, .int 0, .int 0, .int 0, .int 0, .int 0])]) (ci := 3) (v := .ref (b + 2)) hx hb hts i3 hown hK hk 0 rfl rfl rfl 1 (by decide) kl23 rfl dX3_init_29 ?_
  refine kx_put (ws := [.inr (3, [.ref (b + 1), .ref (b + 2), .null, .int 0, .int 0, .int 0, .int 0]), .inr (9, [.int 0, .int 0, .int 0, .int 0]), .inr (2, [.int (-1), .int 0, .int 0, .int (1), .int 0, .int 0, .int 0, .int 0, .int 0, .int 0, .int 0, .int 0, .int 0])]) (ci := 3) (v := .ref (b + 2)) hx hb hts i3 tyX3_ok nmX3 hown hK hk 0 rfl rfl (Nat.le_refl _) hS rfl 2 (by decide) kl27 (Or.inl rfl) rfl rfl (Nat.le_of_ble_eq_true rfl) dX3_init_32 (fun H locs hk hS => ?_)
  have hk : kat E b [.inr (3, [.ref (b + 1), .ref (b + 2), .ref (b + 2), .int 0, .int 0, .int 0, .int 0]), .inr (9, [.int 0, .int 0, .int 0, .int 0]), .inr (2, [.int (-1), .int 0, .int 0, .int (1), .int 0, .int 0, .int 0, .int 0, .int 0, .int 0, .int 0, .int 0, .int 0])] H := hk
  exact kx_vret (ws := kcX3_init E b) hx hb hr hlocks hK hk hS dX3_init_35 (Nat.le_of_ble_eq_true rfl) (Nat.le_of_ble_eq_true rfl)

abbrev kcX1_init (E : eE) (b : Nat) (p1 : Int32) : List va_E := [.inr (1, [.int (p1), .ref (b + 1), .ref (b + 4), .ref (b + 6), .ref (b + 9), .ref (b + 12), .int (0), .int 0, .int 0, .int 0, .int 0]), .inr (3, [.ref (b + 2), .ref (b + 3), .ref (b + 3), .int 0, .int 0, .int 0, .int 0]), .inr (9, [.int 0, .int 0, .int 0, .int 0]), .inr (2, [.int (-1), .int 0, .int 0, .int (1), .int 0, .int 0, .int 0, .int 0, .int 0, .int 0, .int 0, .int 0, .int 0]), .inr (7, [.ref (b + 5), .int 0, .int (-1), .int 0, .int 0]), .inr (2, [.int (-1), .int 0, .int 0, .int (1), .int 0, .int 0, .int 0, .int 0, .int 0, .int 0, .int 0, .int 0, .int 0]), .inr (0, [.ref (b + 7), .int (-3600), .int 0]), .inr (8, [.int (3600), .ref (b + 8), .int 0, .int 0]), .inl (eI E, 20, .inl (fun _ => 0)), .inr (6, [.ref (b + 10), .int (200), .int 0, .int 0, .int 0, .int 0, .int 0]), .inr (8, [.int (900), .ref (b + 11), .int 0, .int 0]), .inl (eI E, 60, .inl (fun _ => 0)), .inr (4, [.ref (b + 13), .int 0, .int 0]), .inl (eI E, 3600, .inl (fun _ => 0))]
set_option maxHeartbeats 4000000 in
set_option maxRecDepth 100000 in
theorem kX1_init (l : Launch) (E : eE) (b : Nat) (p1 : Int32) : Met l yX1_init wsX1_init ({ frames := 3, cells := 13, slots := 3743, locals := 63 }) (kPre E b (.inr (1, [.int 0, .null, .null, .null, .null, .null, .int 0, .int 0, .int 0, .int 0, .int 0])) [.ref b, .int (p1)]) (kQ E b (kcX1_init E b p1)) 13 3743 (kA b) := by
  refine Met.ofW (cc := cX1_init) (maxL := 2) (ret := none) (by decide) rfl ?_
  intro p e s m args below meth c s₁ B hml hv
  obtain ⟨rfl, hk, hK, hB⟩ := hv
  have hx := B.exec
  have hb := B.bytes
  have hr := B.returns
  have hts := atoms_spec (ws := wsX1_init) B.pre
  have hown : s.vm.findClass RX1 = some m.cls := findClass_of_methodNamed B.named
  have hlocks := B.notSynchronized
  have hin : meth.name = "<init>" := (name_of_methodNamed B.named B.method).1
  have i0 : ∀ w ∈ wsX00, w ∈ wsX1_init := by decide +kernel
  have i1 : ∀ w ∈ wsX10, w ∈ wsX1_init := by decide +kernel
  have i3 : ∀ w ∈ wsX30, w ∈ wsX1_init := by decide +kernel
  have i4 : ∀ w ∈ wsX40, w ∈ wsX1_init := by decide +kernel
  have i6 : ∀ w ∈ wsX60, w ∈ wsX1_init := by decide +kernel
  have i7 : ∀ w ∈ wsX70, w ∈ wsX1_init := by decide +kernel
  have kl12 := hts (.fieldLink RX1 12 "DosePump$Channel" "entry" "LDosePump$Entry;") (by decide +kernel)
  have kl21 := hts (.fieldLink RX1 21 "DosePump$Channel" "program" "LDosePump$Program;") (by decide +kernel)
  have kl28 := hts (.fieldLink RX1 28 "DosePump$Channel" "boluses" "LDosePump$Boluses;") (by decide +kernel)
  have kl35 := hts (.fieldLink RX1 35 "DosePump$Channel" "line" "LDosePump$Line;") (by decide +kernel)
  have kl42 := hts (.fieldLink RX1 42 "DosePump$Channel" "hour" "LDosePump$HourOfStrokes;") (by decide +kernel)
  have kl46 := hts (.fieldLink RX1 46 "DosePump$Channel" "phase" "I") (by decide +kernel)
  have kl50 := hts (.fieldLink RX1 50 "DosePump$Channel" "number" "I") (by decide +kernel)
  have hS : va_S (kA b) s.heap s.heap [] := va_S.rf
  have hl := lv_entry ([.ref b, .int (p1)]) (n := 2) (Nat.le_of_ble_eq_true rfl)
  rw [lg_entry_eq]
  generalize (lg_sl ([.ref b, .int (p1)]) ++ List.replicate (2 - (lg_sl ([.ref b, .int (p1)])).length) Slot.unset).toArray = ls at hl ⊢
  have hl : lv_has ls 2 [(0, .ref b), (1, .int (p1))] := hl
  refine lv_aload_n hx hb dX1_init_0 rfl (lv_at hl 0 rfl) ?_
  refine W.objInit hx hb hown (hts (.methodLink RX1 3 objectInit) (by decide +kernel)) (hts (.instanceMethod objectInit) (by decide +kernel)) (hts (.code objectInit ⟨#[0xb1]⟩ 1 none) (by decide +kernel)) rfl (hl.1.trans hml.symm) rfl dX1_init_1 (Nat.le_of_ble_eq_true rfl) (Nat.le_of_ble_eq_true rfl) ?_
  refine W.eq (g2 := F0 m 4 ls []) rfl ?_
  refine lv_aload_n hx hb dX1_init_4 rfl (lv_at hl 0 rfl) ?_
  refine kx_new (ci := 3) (fs := [.null, .null, .null, .int 0, .int 0, .int 0, .int 0]) (ws := [.inr (1, [.int 0, .null, .null, .null, .null, .null, .int 0, .int 0, .int 0, .int 0, .int 0])]) (a := (b + 1)) hx hb hts i3 tyX3_ok hown (hts (.classLink RX1 9 RX3) (by decide +kernel)) (hts (.instantiable RX3 7) (by decide +kernel)) (hts (.initialized RX3) (by decide +kernel)) hK hk rfl hS rfl (by decide +kernel) (Nat.le_of_ble_eq_true rfl) (Nat.le_of_ble_eq_true rfl) dX1_init_5 (fun H hk hS => ?_)
  have hk : kat E b [.inr (1, [.int 0, .null, .null, .null, .null, .null, .int 0, .int 0, .int 0, .int 0, .int 0]), .inr (3, [.null, .null, .null, .int 0, .int 0, .int 0, .int 0])] H := hk
  refine lv_dup hx hb dX1_init_8 rfl ?_
  refine kx_callN (ws := [.inr (1, [.int 0, .null, .null, .null, .null, .null, .int 0, .int 0, .int 0, .int 0, .int 0])]) (q0 := .inr (3, [.null, .null, .null, .int 0, .int 0, .int 0, .int 0])) (ws2 := kcX3_init E (b + 1)) (As := []) (rest := [.ref (b + 1), .ref b]) ⟨hx, hb, hml, hown, hts⟩ (kX3_init l E (b + 1)) ⟨va_cnB 0 hts gX1_init_X3_init_n11 rfl rfl rfl (hB.1 (.methodLinkNest RX1 11 yX3_init "DosePump") (by decide +kernel)) (hts (.initialized RX3) (by decide +kernel)) (by decide +kernel) ⟨(Nat.le_of_ble_eq_true rfl), (Nat.le_of_ble_eq_true rfl)⟩, rfl, hts (.instanceMethod yX3_init) (by decide +kernel)⟩ hk rfl hK hB rfl hl.1 rfl (Nat.le_of_ble_eq_true rfl) dX1_init_9 ⟨(Nat.le_of_ble_eq_true rfl), (Nat.le_of_ble_eq_true rfl)⟩ hS (fun q h => Nat.le_trans (Nat.le_add_right _ _) h) (fun H locs hk hS => ?_)
  have hk : kat E b [.inr (1, [.int 0, .null, .null, .null, .null, .null, .int 0, .int 0, .int 0, .int 0, .int 0]), .inr (3, [.ref (b + 2), .ref (b + 3), .ref (b + 3), .int 0, .int 0, .int 0, .int 0]), .inr (9, [.int 0, .int 0, .int 0, .int 0]), .inr (2, [.int (-1), .int 0, .int 0, .int (1), .int 0, .int 0, .int 0, .int 0, .int 0, .int 0, .int 0, .int 0, .int 0])] H := hk
  refine kx_put (ws := [.inr (1, [.int 0, .null, .null, .null, .null, .null, .int 0, .int 0, .int 0, .int 0, .int 0]), .inr (3, [.ref (b + 2), .ref (b + 3), .ref (b + 3), .int 0, .int 0, .int 0, .int 0]), .inr (9, [.int 0, .int 0, .int 0, .int 0]), .inr (2, [.int (-1), .int 0, .int 0, .int (1), .int 0, .int 0, .int 0, .int 0, .int 0, .int 0, .int 0, .int 0, .int 0])]) (ci := 1) (v := .ref (b + 1)) hx hb hts i1 tyX1_ok nmX1 hown hK hk 0 rfl rfl (Nat.le_refl _) hS rfl 1 (by decide) kl12 (Or.inr ⟨rfl, hin, rfl⟩) rfl rfl (Nat.le_of_ble_eq_true rfl) dX1_init_12 (fun H locs hk hS => ?_)
  have hk : kat E b [.inr (1, [.int 0, .ref (b + 1), .null, .null, .null, .null, .int 0, .int 0, .int 0, .int 0, .int 0]), .inr (3, [.ref (b + 2), .ref (b + 3), .ref (b + 3), .int 0, .int 0, .int 0, .int 0]), .inr (9, [.int 0, .int 0, .int 0, .int 0]), .inr (2, [.int (-1), .int 0, .int 0, .int (1), .int 0, .int 0, .int 0, .int 0, .int 0, .int 0, .int 0, .int 0, .int 0])] H := hk
  refine lv_aload_n hx hb dX1_init_15 rfl (lv_at hl 0 rfl) ?_
  refine kx_new (ci := 7) (fs := [.null, .int 0, .int 0, .int 0, .int 0]) (ws := [.inr (1, [.int 0, .ref (b + 1), .null, .null, .null, .null, .int 0, .int 0, .int 0, .int 0, .int 0]), .inr (3, [.ref (b + 2), .ref (b + 3), .ref (b + 3), .int 0, .int 0, .int 0, .int 0]), .inr (9, [.int 0, .int 0, .int 0, .int 0]), .inr (2, [.int (-1), .int 0, .int 0, .int (1), .int 0, .int 0, .int 0, .int 0, .int 0, .int 0, .int 0, .int 0, .int 0])]) (a := (b + 4)) hx hb hts i7 tyX7_ok hown (hts (.classLink RX1 18 RX7) (by decide +kernel)) (hts (.instantiable RX7 5) (by decide +kernel)) (hts (.initialized RX7) (by decide +kernel)) hK hk rfl hS rfl (by decide +kernel) (Nat.le_of_ble_eq_true rfl) (Nat.le_of_ble_eq_true rfl) dX1_init_16 (fun H hk hS => ?_)
  have hk : kat E b [.inr (1, [.int 0, .ref (b + 1), .null, .null, .null, .null, .int 0, .int 0, .int 0, .int 0, .int 0]), .inr (3, [.ref (b + 2), .ref (b + 3), .ref (b + 3), .int 0, .int 0, .int 0, .int 0]), .inr (9, [.int 0, .int 0, .int 0, .int 0]), .inr (2, [.int (-1), .int 0, .int 0, .int (1), .int 0, .int 0, .int 0, .int 0, .int 0, .int 0, .int 0, .int 0, .int 0]), .inr (7, [.null, .int 0, .int 0, .int 0, .int 0])] H := hk
  refine lv_dup hx hb dX1_init_19 rfl ?_
  refine kx_callN (ws := [.inr (1, [.int 0, .ref (b + 1), .null, .null, .null, .null, .int 0, .int 0, .int 0, .int 0, .int 0]), .inr (3, [.ref (b + 2), .ref (b + 3), .ref (b + 3), .int 0, .int 0, .int 0, .int 0]), .inr (9, [.int 0, .int 0, .int 0, .int 0]), .inr (2, [.int (-1), .int 0, .int 0, .int (1), .int 0, .int 0, .int 0, .int 0, .int 0, .int 0, .int 0, .int 0, .int 0])]) (q0 := .inr (7, [.null, .int 0, .int 0, .int 0, .int 0])) (ws2 := kcX7_init E (b + 4)) (As := []) (rest := [.ref (b + 4), .ref b]) ⟨hx, hb, hml, hown, hts⟩ (kX7_init l E (b + 4)) ⟨va_cnB 0 hts gX1_init_X7_init_n20 rfl rfl rfl (hB.1 (.methodLinkNest RX1 20 yX7_init "DosePump") (by decide +kernel)) (hts (.initialized RX7) (by decide +kernel)) (by decide +kernel) ⟨(Nat.le_of_ble_eq_true rfl), (Nat.le_of_ble_eq_true rfl)⟩, rfl, hts (.instanceMethod yX7_init) (by decide +kernel)⟩ hk rfl hK hB rfl hl.1 rfl (Nat.le_of_ble_eq_true rfl) dX1_init_20 ⟨(Nat.le_of_ble_eq_true rfl), (Nat.le_of_ble_eq_true rfl)⟩ hS (fun q h => Nat.le_trans (Nat.le_add_right _ _) h) (fun H locs hk hS => ?_)
  have hk : kat E b [.inr (1, [.int 0, .ref (b + 1), .null, .null, .null, .null, .int 0, .int 0, .int 0, .int 0, .int 0]), .inr (3, [.ref (b + 2), .ref (b + 3), .ref (b + 3), .int 0, .int 0, .int 0, .int 0]), .inr (9, [.int 0, .int 0, .int 0, .int 0]), .inr (2, [.int (-1), .int 0, .int 0, .int (1), .int 0, .int 0, .int 0, .int 0, .int 0, .int 0, .int 0, .int 0, .int 0]), .inr (7, [.ref (b + 5), .int 0, .int (-1), .int 0, .int 0]), .inr (2, [.int (-1), .int 0, .int 0, .int (1), .int 0, .int 0, .int 0, .int 0, .int 0, .int 0, .int 0, .int 0, .int 0])] H := hk
  refine kx_put (ws := [.inr (1, [.int 0, .ref (b + 1), .null, .null, .null, .null, .int 0, .int 0, .int 0, .int 0, .int 0]), .inr (3, [.ref (b + 2), .ref (b + 3), .ref (b + 3), .int 0, .int 0, .int 0, .int 0]), .inr (9, [.int 0, .int 0, .int 0, .int 0]), .inr (2, [.int (-1), .int 0, .int 0, .int (1), .int 0, .int 0, .int 0, .int 0, .int 0, .int 0, .int 0, .int 0, .int 0]), .inr (7, [.ref (b + 5), .int 0, .int (-1), .int 0, .int 0]), .inr (2, [.int (-1), .int 0, .int 0, .int (1), .int 0, .int 0, .int 0, .int 0, .int 0, .int 0, .int 0, .int 0, .int 0])]) (ci := 1) (v := .ref (b + 4)) hx hb hts i1 tyX1_ok nmX1 hown hK hk 0 rfl rfl (Nat.le_refl _) hS rfl 2 (by decide) kl21 (Or.inr ⟨rfl, hin, rfl⟩) rfl rfl (Nat.le_of_ble_eq_true rfl) dX1_init_23 (fun H locs hk hS => ?_)
  have hk : kat E b [.inr (1, [.int 0, .ref (b + 1), .ref (b + 4), .null, .null, .null, .int 0, .int 0, .int 0, .int 0, .int 0]), .inr (3, [.ref (b + 2), .ref (b + 3), .ref (b + 3), .int 0, .int 0, .int 0, .int 0]), .inr (9, [.int 0, .int 0, .int 0, .int 0]), .inr (2, [.int (-1), .int 0, .int 0, .int (1), .int 0, .int 0, .int 0, .int 0, .int 0, .int 0, .int 0, .int 0, .int 0]), .inr (7, [.ref (b + 5), .int 0, .int (-1), .int 0, .int 0]), .inr (2, [.int (-1), .int 0, .int 0, .int (1), .int 0, .int 0, .int 0, .int 0, .int 0, .int 0, .int 0, .int 0, .int 0])] H := hk
  refine lv_aload_n hx hb dX1_init_26 rfl (lv_at hl 0 rfl) ?_
  refine kx_new (ci := 0) (fs := [.null, .int 0, .int 0]) (ws := [.inr (1, [.int 0, .ref (b + 1), .ref (b + 4), .null, .null, .null, .int 0, .int 0, .int 0, .int 0, .int 0]), .inr (3, [.ref (b + 2), .ref (b + 3), .ref (b + 3), .int 0, .int 0, .int 0, .int 0]), .inr (9, [.int 0, .int 0, .int 0, .int 0]), .inr (2, [.int (-1), .int 0, .int 0, .int (1), .int 0, .int 0, .int 0, .int 0, .int 0, .int 0, .int 0, .int 0, .int 0]), .inr (7, [.ref (b + 5), .int 0, .int (-1), .int 0, .int 0]), .inr (2, [.int (-1), .int 0, .int 0, .int (1), .int 0, .int 0, .int 0, .int 0, .int 0, .int 0, .int 0, .int 0, .int 0])]) (a := (b + 6)) hx hb hts i0 tyX0_ok hown (hts (.classLink RX1 25 RX0) (by decide +kernel)) (hts (.instantiable RX0 3) (by decide +kernel)) (hts (.initialized RX0) (by decide +kernel)) hK hk rfl hS rfl (by decide +kernel) (Nat.le_of_ble_eq_true rfl) (Nat.le_of_ble_eq_true rfl) dX1_init_27 (fun H hk hS => ?_)
  have hk : kat E b [.inr (1, [.int 0, .ref (b + 1), .ref (b + 4), .null, .null, .null, .int 0, .int 0, .int 0, .int 0, .int 0]), .inr (3, [.ref (b + 2), .ref (b + 3), .ref (b + 3), .int 0, .int 0, .int 0, .int 0]), .inr (9, [.int 0, .int 0, .int 0, .int 0]), .inr (2, [.int (-1), .int 0, .int 0, .int (1), .int 0, .int 0, .int 0, .int 0, .int 0, .int 0, .int 0, .int 0, .int 0]), .inr (7, [.ref (b + 5), .int 0, .int (-1), .int 0, .int 0]), .inr (2, [.int (-1), .int 0, .int 0, .int (1), .int 0, .int 0, .int 0, .int 0, .int 0, .int 0, .int 0, .int 0, .int 0]), .inr (0, [.null, .int 0, .int 0])] H := hk
  refine lv_dup hx hb dX1_init_30 rfl ?_
  refine kx_callN (ws := [.inr (1, [.int 0, .ref (b + 1), .ref (b + 4), .null, .null, .null, .int 0, .int 0, .int 0, .int 0, .int 0]), .inr (3, [.ref (b + 2), .ref (b + 3), .ref (b + 3), .int 0, .int 0, .int 0, .int 0]), .inr (9, [.int 0, .int 0, .int 0, .int 0]), .inr (2, [.int (-1), .int 0, .int 0, .int (1), .int 0, .int 0, .int 0, .int 0, .int 0, .int 0, .int 0, .int 0, .int 0]), .inr (7, [.ref (b + 5), .int 0, .int (-1), .int 0, .int 0]), .inr (2, [.int (-1), .int 0, .int 0, .int (1), .int 0, .int 0, .int 0, .int 0, .int 0, .int 0, .int 0, .int 0, .int 0])]) (q0 := .inr (0, [.null, .int 0, .int 0])) (ws2 := kcX0_init E (b + 6)) (As := []) (rest := [.ref (b + 6), .ref b]) ⟨hx, hb, hml, hown, hts⟩ (kX0_init l E (b + 6)) ⟨va_cnB 0 hts gX1_init_X0_init_n27 rfl rfl rfl (hB.1 (.methodLinkNest RX1 27 yX0_init "DosePump") (by decide +kernel)) (hts (.initialized RX0) (by decide +kernel)) (by decide +kernel) ⟨(Nat.le_of_ble_eq_true rfl), (Nat.le_of_ble_eq_true rfl)⟩, rfl, hts (.instanceMethod yX0_init) (by decide +kernel)⟩ hk rfl hK hB rfl hl.1 rfl (Nat.le_of_ble_eq_true rfl) dX1_init_31 ⟨(Nat.le_of_ble_eq_true rfl), (Nat.le_of_ble_eq_true rfl)⟩ hS (fun q h => Nat.le_trans (Nat.le_add_right _ _) h) (fun H locs hk hS => ?_)
  have hk : kat E b [.inr (1, [.int 0, .ref (b + 1), .ref (b + 4), .null, .null, .null, .int 0, .int 0, .int 0, .int 0, .int 0]), .inr (3, [.ref (b + 2), .ref (b + 3), .ref (b + 3), .int 0, .int 0, .int 0, .int 0]), .inr (9, [.int 0, .int 0, .int 0, .int 0]), .inr (2, [.int (-1), .int 0, .int 0, .int (1), .int 0, .int 0, .int 0, .int 0, .int 0, .int 0, .int 0, .int 0, .int 0]), .inr (7, [.ref (b + 5), .int 0, .int (-1), .int 0, .int 0]), .inr (2, [.int (-1), .int 0, .int 0, .int (1), .int 0, .int 0, .int 0, .int 0, .int 0, .int 0, .int 0, .int 0, .int 0]), .inr (0, [.ref (b + 7), .int (-3600), .int 0]), .inr (8, [.int (3600), .ref (b + 8), .int 0, .int 0]), .inl (eI E, 20, .inl (fun _ => 0))] H := hk
  refine kx_put (ws := [.inr (1, [.int 0, .ref (b + 1), .ref (b + 4), .null, .null, .null, .int 0, .int 0, .int 0, .int 0, .int 0]), .inr (3, [.ref (b + 2), .ref (b + 3), .ref (b + 3), .int 0, .int 0, .int 0, .int 0]), .inr (9, [.int 0, .int 0, .int 0, .int 0]), .inr (2, [.int (-1), .int 0, .int 0, .int (1), .int 0, .int 0, .int 0, .int 0, .int 0, .int 0, .int 0, .int 0, .int 0]), .inr (7, [.ref (b + 5), .int 0, .int (-1), .int 0, .int 0]), .inr (2, [.int (-1), .int 0, .int 0, .int (1), .int 0, .int 0, .int 0, .int 0, .int 0, .int 0, .int 0, .int 0, .int 0]), .inr (0, [.ref (b + 7), .int (-3600), .int 0]), .inr (8, [.int (3600), .ref (b + 8), .int 0, .int 0]), .inl (eI E, 20, .inl (fun _ => 0))]) (ci := 1) (v := .ref (b + 6)) hx hb hts i1 tyX1_ok nmX1 hown hK hk 0 rfl rfl (Nat.le_refl _) hS rfl 3 (by decide) kl28 (Or.inr ⟨rfl, hin, rfl⟩) rfl rfl (Nat.le_of_ble_eq_true rfl) dX1_init_34 (fun H locs hk hS => ?_)
  have hk : kat E b [.inr (1, [.int 0, .ref (b + 1), .ref (b + 4), .ref (b + 6), .null, .null, .int 0, .int 0, .int 0, .int 0, .int 0]), .inr (3, [.ref (b + 2), .ref (b + 3), .ref (b + 3), .int 0, .int 0, .int 0, .int 0]), .inr (9, [.int 0, .int 0, .int 0, .int 0]), .inr (2, [.int (-1), .int 0, .int 0, .int (1), .int 0, .int 0, .int 0, .int 0, .int 0, .int 0, .int 0, .int 0, .int 0]), .inr (7, [.ref (b + 5), .int 0, .int (-1), .int 0, .int 0]), .inr (2, [.int (-1), .int 0, .int 0, .int (1), .int 0, .int 0, .int 0, .int 0, .int 0, .int 0, .int 0, .int 0, .int 0]), .inr (0, [.ref (b + 7), .int (-3600), .int 0]), .inr (8, [.int (3600), .ref (b + 8), .int 0, .int 0]), .inl (eI E, 20, .inl (fun _ => 0))] H := hk
  refine lv_aload_n hx hb dX1_init_37 rfl (lv_at hl 0 rfl) ?_
  refine kx_new (ci := 6) (fs := [.null, .int 0, .int 0, .int 0, .int 0, .int 0, .int 0]) (ws := [.inr (1, [.int 0, .ref (b + 1), .ref (b + 4), .ref (b + 6), .null, .null, .int 0, .int 0, .int 0, .int 0, .int 0]), .inr (3, [.ref (b + 2), .ref (b + 3), .ref (b + 3), .int 0, .int 0, .int 0, .int 0]), .inr (9, [.int 0, .int 0, .int 0, .int 0]), .inr (2, [.int (-1), .int 0, .int 0, .int (1), .int 0, .int 0, .int 0, .int 0, .int 0, .int 0, .int 0, .int 0, .int 0]), .inr (7, [.ref (b + 5), .int 0, .int (-1), .int 0, .int 0]), .inr (2, [.int (-1), .int 0, .int 0, .int (1), .int 0, .int 0, .int 0, .int 0, .int 0, .int 0, .int 0, .int 0, .int 0]), .inr (0, [.ref (b + 7), .int (-3600), .int 0]), .inr (8, [.int (3600), .ref (b + 8), .int 0, .int 0]), .inl (eI E, 20, .inl (fun _ => 0))]) (a := (b + 9)) hx hb hts i6 tyX6_ok hown (hts (.classLink RX1 32 RX6) (by decide +kernel)) (hts (.instantiable RX6 7) (by decide +kernel)) (hts (.initialized RX6) (by decide +kernel)) hK hk rfl hS rfl (by decide +kernel) (Nat.le_of_ble_eq_true rfl) (Nat.le_of_ble_eq_true rfl) dX1_init_38 (fun H hk hS => ?_)
  have hk : kat E b [.inr (1, [.int 0, .ref (b + 1), .ref (b + 4), .ref (b + 6), .null, .null, .int 0, .int 0, .int 0, .int 0, .int 0]), .inr (3, [.ref (b + 2), .ref (b + 3), .ref (b + 3), .int 0, .int 0, .int 0, .int 0]), .inr (9, [.int 0, .int 0, .int 0, .int 0]), .inr (2, [.int (-1), .int 0, .int 0, .int (1), .int 0, .int 0, .int 0, .int 0, .int 0, .int 0, .int 0, .int 0, .int 0]), .inr (7, [.ref (b + 5), .int 0, .int (-1), .int 0, .int 0]), .inr (2, [.int (-1), .int 0, .int 0, .int (1), .int 0, .int 0, .int 0, .int 0, .int 0, .int 0, .int 0, .int 0, .int 0]), .inr (0, [.ref (b + 7), .int (-3600), .int 0]), .inr (8, [.int (3600), .ref (b + 8), .int 0, .int 0]), .inl (eI E, 20, .inl (fun _ => 0)), .inr (6, [.null, .int 0, .int 0, .int 0, .int 0, .int 0, .int 0])] H := hk
  refine lv_dup hx hb dX1_init_41 rfl ?_
  refine kx_callN (ws := [.inr (1, [.int 0, .ref (b + 1), .ref (b + 4), .ref (b + 6), .null, .null, .int 0, .int 0, .int 0, .int 0, .int 0]), .inr (3, [.ref (b + 2), .ref (b + 3), .ref (b + 3), .int 0, .int 0, .int 0, .int 0]), .inr (9, [.int 0, .int 0, .int 0, .int 0]), .inr (2, [.int (-1), .int 0, .int 0, .int (1), .int 0, .int 0, .int 0, .int 0, .int 0, .int 0, .int 0, .int 0, .int 0]), .inr (7, [.ref (b + 5), .int 0, .int (-1), .int 0, .int 0]), .inr (2, [.int (-1), .int 0, .int 0, .int (1), .int 0, .int 0, .int 0, .int 0, .int 0, .int 0, .int 0, .int 0, .int 0]), .inr (0, [.ref (b + 7), .int (-3600), .int 0]), .inr (8, [.int (3600), .ref (b + 8), .int 0, .int 0]), .inl (eI E, 20, .inl (fun _ => 0))]) (q0 := .inr (6, [.null, .int 0, .int 0, .int 0, .int 0, .int 0, .int 0])) (ws2 := kcX6_init E (b + 9)) (As := []) (rest := [.ref (b + 9), .ref b]) ⟨hx, hb, hml, hown, hts⟩ (kX6_init l E (b + 9)) ⟨va_cnB 0 hts gX1_init_X6_init_n34 rfl rfl rfl (hB.1 (.methodLinkNest RX1 34 yX6_init "DosePump") (by decide +kernel)) (hts (.initialized RX6) (by decide +kernel)) (by decide +kernel) ⟨(Nat.le_of_ble_eq_true rfl), (Nat.le_of_ble_eq_true rfl)⟩, rfl, hts (.instanceMethod yX6_init) (by decide +kernel)⟩ hk rfl hK hB rfl hl.1 rfl (Nat.le_of_ble_eq_true rfl) dX1_init_42 ⟨(Nat.le_of_ble_eq_true rfl), (Nat.le_of_ble_eq_true rfl)⟩ hS (fun q h => Nat.le_trans (Nat.le_add_right _ _) h) (fun H locs hk hS => ?_)
  have hk : kat E b [.inr (1, [.int 0, .ref (b + 1), .ref (b + 4), .ref (b + 6), .null, .null, .int 0, .int 0, .int 0, .int 0, .int 0]), .inr (3, [.ref (b + 2), .ref (b + 3), .ref (b + 3), .int 0, .int 0, .int 0, .int 0]), .inr (9, [.int 0, .int 0, .int 0, .int 0]), .inr (2, [.int (-1), .int 0, .int 0, .int (1), .int 0, .int 0, .int 0, .int 0, .int 0, .int 0, .int 0, .int 0, .int 0]), .inr (7, [.ref (b + 5), .int 0, .int (-1), .int 0, .int 0]), .inr (2, [.int (-1), .int 0, .int 0, .int (1), .int 0, .int 0, .int 0, .int 0, .int 0, .int 0, .int 0, .int 0, .int 0]), .inr (0, [.ref (b + 7), .int (-3600), .int 0]), .inr (8, [.int (3600), .ref (b + 8), .int 0, .int 0]), .inl (eI E, 20, .inl (fun _ => 0)), .inr (6, [.ref (b + 10), .int (200), .int 0, .int 0, .int 0, .int 0, .int 0]), .inr (8, [.int (900), .ref (b + 11), .int 0, .int 0]), .inl (eI E, 60, .inl (fun _ => 0))] H := hk
  refine kx_put (ws := [.inr (1, [.int 0, .ref (b + 1), .ref (b + 4), .ref (b + 6), .null, .null, .int 0, .int 0, .int 0, .int 0, .int 0]), .inr (3, [.ref (b + 2), .ref (b + 3), .ref (b + 3), .int 0, .int 0, .int 0, .int 0]), .inr (9, [.int 0, .int 0, .int 0, .int 0]), .inr (2, [.int (-1), .int 0, .int 0, .int (1), .int 0, .int 0, .int 0, .int 0, .int 0, .int 0, .int 0, .int 0, .int 0]), .inr (7, [.ref (b + 5), .int 0, .int (-1), .int 0, .int 0]), .inr (2, [.int (-1), .int 0, .int 0, .int (1), .int 0, .int 0, .int 0, .int 0, .int 0, .int 0, .int 0, .int 0, .int 0]), .inr (0, [.ref (b + 7), .int (-3600), .int 0]), .inr (8, [.int (3600), .ref (b + 8), .int 0, .int 0]), .inl (eI E, 20, .inl (fun _ => 0)), .inr (6, [.ref (b + 10), .int (200), .int 0, .int 0, .int 0, .int 0, .int 0]), .inr (8, [.int (900), .ref (b + 11), .int 0, .int 0]), .inl (eI E, 60, .inl (fun _ => 0))]) (ci := 1) (v := .ref (b + 9)) hx hb hts i1 tyX1_ok nmX1 hown hK hk 0 rfl rfl (Nat.le_refl _) hS rfl 4 (by decide) kl35 (Or.inr ⟨rfl, hin, rfl⟩) rfl rfl (Nat.le_of_ble_eq_true rfl) dX1_init_45 (fun H locs hk hS => ?_)
  have hk : kat E b [.inr (1, [.int 0, .ref (b + 1), .ref (b + 4), .ref (b + 6), .ref (b + 9), .null, .int 0, .int 0, .int 0, .int 0, .int 0]), .inr (3, [.ref (b + 2), .ref (b + 3), .ref (b + 3), .int 0, .int 0, .int 0, .int 0]), .inr (9, [.int 0, .int 0, .int 0, .int 0]), .inr (2, [.int (-1), .int 0, .int 0, .int (1), .int 0, .int 0, .int 0, .int 0, .int 0, .int 0, .int 0, .int 0, .int 0]), .inr (7, [.ref (b + 5), .int 0, .int (-1), .int 0, .int 0]), .inr (2, [.int (-1), .int 0, .int 0, .int (1), .int 0, .int 0, .int 0, .int 0, .int 0, .int 0, .int 0, .int 0, .int 0]), .inr (0, [.ref (b + 7), .int (-3600), .int 0]), .inr (8, [.int (3600), .ref (b + 8), .int 0, .int 0]), .inl (eI E, 20, .inl (fun _ => 0)), .inr (6, [.ref (b + 10), .int (200), .int 0, .int 0, .int 0, .int 0, .int 0]), .inr (8, [.int (900), .ref (b + 11), .int 0, .int 0]), .inl (eI E, 60, .inl (fun _ => 0))] H := hk
  refine lv_aload_n hx hb dX1_init_48 rfl (lv_at hl 0 rfl) ?_
  refine kx_new (ci := 4) (fs := [.null, .int 0, .int 0]) (ws := [.inr (1, [.int 0, .ref (b + 1), .ref (b + 4), .ref (b + 6), .ref (b + 9), .null, .int 0, .int 0, .int 0, .int 0, .int 0]), .inr (3, [.ref (b + 2), .ref (b + 3), .ref (b + 3), .int 0, .int 0, .int 0, .int 0]), .inr (9, [.int 0, .int 0, .int 0, .int 0]), .inr (2, [.int (-1), .int 0, .int 0, .int (1), .int 0, .int 0, .int 0, .int 0, .int 0, .int 0, .int 0, .int 0, .int 0]), .inr (7, [.ref (b + 5), .int 0, .int (-1), .int 0, .int 0]), .inr (2, [.int (-1), .int 0, .int 0, .int (1), .int 0, .int 0, .int 0, .int 0, .int 0, .int 0, .int 0, .int 0, .int 0]), .inr (0, [.ref (b + 7), .int (-3600), .int 0]), .inr (8, [.int (3600), .ref (b + 8), .int 0, .int 0]), .inl (eI E, 20, .inl (fun _ => 0)), .inr (6, [.ref (b + 10), .int (200), .int 0, .int 0, .int 0, .int 0, .int 0]), .inr (8, [.int (900), .ref (b + 11), .int 0, .int 0]), .inl (eI E, 60, .inl (fun _ => 0))]) (a := (b + 12)) hx hb hts i4 tyX4_ok hown (hts (.classLink RX1 39 RX4) (by decide +kernel)) (hts (.instantiable RX4 3) (by decide +kernel)) (hts (.initialized RX4) (by decide +kernel)) hK hk rfl hS rfl (by decide +kernel) (Nat.le_of_ble_eq_true rfl) (Nat.le_of_ble_eq_true rfl) dX1_init_49 (fun H hk hS => ?_)
  have hk : kat E b [.inr (1, [.int 0, .ref (b + 1), .ref (b + 4), .ref (b + 6), .ref (b + 9), .null, .int 0, .int 0, .int 0, .int 0, .int 0]), .inr (3, [.ref (b + 2), .ref (b + 3), .ref (b + 3), .int 0, .int 0, .int 0, .int 0]), .inr (9, [.int 0, .int 0, .int 0, .int 0]), .inr (2, [.int (-1), .int 0, .int 0, .int (1), .int 0, .int 0, .int 0, .int 0, .int 0, .int 0, .int 0, .int 0, .int 0]), .inr (7, [.ref (b + 5), .int 0, .int (-1), .int 0, .int 0]), .inr (2, [.int (-1), .int 0, .int 0, .int (1), .int 0, .int 0, .int 0, .int 0, .int 0, .int 0, .int 0, .int 0, .int 0]), .inr (0, [.ref (b + 7), .int (-3600), .int 0]), .inr (8, [.int (3600), .ref (b + 8), .int 0, .int 0]), .inl (eI E, 20, .inl (fun _ => 0)), .inr (6, [.ref (b + 10), .int (200), .int 0, .int 0, .int 0, .int 0, .int 0]), .inr (8, [.int (900), .ref (b + 11), .int 0, .int 0]), .inl (eI E, 60, .inl (fun _ => 0)), .inr (4, [.null, .int 0, .int 0])] H := hk
  refine lv_dup hx hb dX1_init_52 rfl ?_
  refine kx_callN (ws := [.inr (1, [.int 0, .ref (b + 1), .ref (b + 4), .ref (b + 6), .ref (b + 9), .null, .int 0, .int 0, .int 0, .int 0, .int 0]), .inr (3, [.ref (b + 2), .ref (b + 3), .ref (b + 3), .int 0, .int 0, .int 0, .int 0]), .inr (9, [.int 0, .int 0, .int 0, .int 0]), .inr (2, [.int (-1), .int 0, .int 0, .int (1), .int 0, .int 0, .int 0, .int 0, .int 0, .int 0, .int 0, .int 0, .int 0]), .inr (7, [.ref (b + 5), .int 0, .int (-1), .int 0, .int 0]), .inr (2, [.int (-1), .int 0, .int 0, .int (1), .int 0, .int 0, .int 0, .int 0, .int 0, .int 0, .int 0, .int 0, .int 0]), .inr (0, [.ref (b + 7), .int (-3600), .int 0]), .inr (8, [.int (3600), .ref (b + 8), .int 0, .int 0]), .inl (eI E, 20, .inl (fun _ => 0)), .inr (6, [.ref (b + 10), .int (200), .int 0, .int 0, .int 0, .int 0, .int 0]), .inr (8, [.int (900), .ref (b + 11), .int 0, .int 0]), .inl (eI E, 60, .inl (fun _ => 0))]) (q0 := .inr (4, [.null, .int 0, .int 0])) (ws2 := kcX4_init E (b + 12)) (As := []) (rest := [.ref (b + 12), .ref b]) ⟨hx, hb, hml, hown, hts⟩ (kX4_init l E (b + 12)) ⟨va_cnB 0 hts gX1_init_X4_init_n41 rfl rfl rfl (hB.1 (.methodLinkNest RX1 41 yX4_init "DosePump") (by decide +kernel)) (hts (.initialized RX4) (by decide +kernel)) (by decide +kernel) ⟨(Nat.le_of_ble_eq_true rfl), (Nat.le_of_ble_eq_true rfl)⟩, rfl, hts (.instanceMethod yX4_init) (by decide +kernel)⟩ hk rfl hK hB rfl hl.1 rfl (Nat.le_of_ble_eq_true rfl) dX1_init_53 ⟨(Nat.le_of_ble_eq_true rfl), (Nat.le_of_ble_eq_true rfl)⟩ hS (fun q h => Nat.le_trans (Nat.le_add_right _ _) h) (fun H locs hk hS => ?_)
  have hk : kat E b [.inr (1, [.int 0, .ref (b + 1), .ref (b + 4), .ref (b + 6), .ref (b + 9), .null, .int 0, .int 0, .int 0, .int 0, .int 0]), .inr (3, [.ref (b + 2), .ref (b + 3), .ref (b + 3), .int 0, .int 0, .int 0, .int 0]), .inr (9, [.int 0, .int 0, .int 0, .int 0]), .inr (2, [.int (-1), .int 0, .int 0, .int (1), .int 0, .int 0, .int 0, .int 0, .int 0, .int 0, .int 0, .int 0, .int 0]), .inr (7, [.ref (b + 5), .int 0, .int (-1), .int 0, .int 0]), .inr (2, [.int (-1), .int 0, .int 0, .int (1), .int 0, .int 0, .int 0, .int 0, .int 0, .int 0, .int 0, .int 0, .int 0]), .inr (0, [.ref (b + 7), .int (-3600), .int 0]), .inr (8, [.int (3600), .ref (b + 8), .int 0, .int 0]), .inl (eI E, 20, .inl (fun _ => 0)), .inr (6, [.ref (b + 10), .int (200), .int 0, .int 0, .int 0, .int 0, .int 0]), .inr (8, [.int (900), .ref (b + 11), .int 0, .int 0]), .inl (eI E, 60, .inl (fun _ => 0)), .inr (4, [.ref (b + 13), .int 0, .int 0]), .inl (eI E, 3600, .inl (fun _ => 0))] H := hk
  refine kx_put (ws := [.inr (1, [.int 0, .ref (b + 1), .ref (b + 4), .ref (b + 6), .ref (b + 9), .null, .int 0, .int 0, .int 0, .int 0, .int 0]), .inr (3, [.ref (b + 2), .ref (b + 3), .ref (b + 3), .int 0, .int 0, .int 0, .int 0]), .inr (9, [.int 0, .int 0, .int 0, .int 0]), .inr (2, [.int (-1), .int 0, .int 0, .int (1), .int 0, .int 0, .int 0, .int 0, .int 0, .int 0, .int 0, .int 0, .int 0]), .inr (7, [.ref (b + 5), .int 0, .int (-1), .int 0, .int 0]), .inr (2, [.int (-1), .int 0, .int 0, .int (1), .int 0, .int 0, .int 0, .int 0, .int 0, .int 0, .int 0, .int 0, .int 0]), .inr (0, [.ref (b + 7), .int (-3600), .int 0]), .inr (8, [.int (3600), .ref (b + 8), .int 0, .int 0]), .inl (eI E, 20, .inl (fun _ => 0)), .inr (6, [.ref (b + 10), .int (200), .int 0, .int 0, .int 0, .int 0, .int 0]), .inr (8, [.int (900), .ref (b + 11), .int 0, .int 0]), .inl (eI E, 60, .inl (fun _ => 0)), .inr (4, [.ref (b + 13), .int 0, .int 0]), .inl (eI E, 3600, .inl (fun _ => 0))]) (ci := 1) (v := .ref (b + 12)) hx hb hts i1 tyX1_ok nmX1 hown hK hk 0 rfl rfl (Nat.le_refl _) hS rfl 5 (by decide) kl42 (Or.inr ⟨rfl, hin, rfl⟩) rfl rfl (Nat.le_of_ble_eq_true rfl) dX1_init_56 (fun H locs hk hS => ?_)
  have hk : kat E b [.inr (1, [.int 0, .ref (b + 1), .ref (b + 4), .ref (b + 6), .ref (b + 9), .ref (b + 12), .int 0, .int 0, .int 0, .int 0, .int 0]), .inr (3, [.ref (b + 2), .ref (b + 3), .ref (b + 3), .int 0, .int 0, .int 0, .int 0]), .inr (9, [.int 0, .int 0, .int 0, .int 0]), .inr (2, [.int (-1), .int 0, .int 0, .int (1), .int 0, .int 0, .int 0, .int 0, .int 0, .int 0, .int 0, .int 0, .int 0]), .inr (7, [.ref (b + 5), .int 0, .int (-1), .int 0, .int 0]), .inr (2, [.int (-1), .int 0, .int 0, .int (1), .int 0, .int 0, .int 0, .int 0, .int 0, .int 0, .int 0, .int 0, .int 0]), .inr (0, [.ref (b + 7), .int (-3600), .int 0]), .inr (8, [.int (3600), .ref (b + 8), .int 0, .int 0]), .inl (eI E, 20, .inl (fun _ => 0)), .inr (6, [.ref (b + 10), .int (200), .int 0, .int 0, .int 0, .int 0, .int 0]), .inr (8, [.int (900), .ref (b + 11), .int 0, .int 0]), .inl (eI E, 60, .inl (fun _ => 0)), .inr (4, [.ref (b + 13), .int 0, .int 0]), .inl (eI E, 3600, .inl (fun _ => 0))] H := hk
  refine lv_aload_n hx hb dX1_init_59 rfl (lv_at hl 0 rfl) ?_
  refine lv_iconst (v := 0) hx hb dX1_init_60 (by decide) ?_
  refine kx_put (ws := [.inr (1, [.int 0, .ref (b + 1), .ref (b + 4), .ref (b + 6), .ref (b + 9), .ref (b + 12), .int 0, .int 0, .int 0, .int 0, .int 0]), .inr (3, [.ref (b + 2), .ref (b + 3), .ref (b + 3), .int 0, .int 0, .int 0, .int 0]), .inr (9, [.int 0, .int 0, .int 0, .int 0]), .inr (2, [.int (-1), .int 0, .int 0, .int (1), .int 0, .int 0, .int 0, .int 0, .int 0, .int 0, .int 0, .int 0, .int 0]), .inr (7, [.ref (b + 5), .int 0, .int (-1), .int 0, .int 0]), .inr (2, [.int (-1), .int 0, .int 0, .int (1), .int 0, .int 0, .int 0, .int 0, .int 0, .int 0, .int 0, .int 0, .int 0]), .inr (0, [.ref (b + 7), .int (-3600), .int 0]), .inr (8, [.int (3600), .ref (b + 8), .int 0, .int 0]), .inl (eI E, 20, .inl (fun _ => 0)), .inr (6, [.ref (b + 10), .int (200), .int 0, .int 0, .int 0, .int 0, .int 0]), .inr (8, [.int (900), .ref (b + 11), .int 0, .int 0]), .inl (eI E, 60, .inl (fun _ => 0)), .inr (4, [.ref (b + 13), .int 0, .int 0]), .inl (eI E, 3600, .inl (fun _ => 0))]) (ci := 1) (v := .int (0)) hx hb hts i1 tyX1_ok nmX1 hown hK hk 0 rfl rfl (Nat.le_refl _) hS rfl 6 (by decide) kl46 (Or.inl rfl) rfl rfl (Nat.le_of_ble_eq_true rfl) dX1_init_61 (fun H locs hk hS => ?_)
  have hk : kat E b [.inr (1, [.int 0, .ref (b + 1), .ref (b + 4), .ref (b + 6), .ref (b + 9), .ref (b + 12), .int (0), .int 0, .int 0, .int 0, .int 0]), .inr (3, [.ref (b + 2), .ref (b + 3), .ref (b + 3), .int 0, .int 0, .int 0, .int 0]), .inr (9, [.int 0, .int 0, .int 0, .int 0]), .inr (2, [.int (-1), .int 0, .int 0, .int (1), .int 0, .int 0, .int 0, .int 0, .int 0, .int 0, .int 0, .int 0, .int 0]), .inr (7, [.ref (b + 5), .int 0, .int (-1), .int 0, .int 0]), .inr (2, [.int (-1), .int 0, .int 0, .int (1), .int 0, .int 0, .int 0, .int 0, .int 0, .int 0, .int 0, .int 0, .int 0]), .inr (0, [.ref (b + 7), .int (-3600), .int 0]), .inr (8, [.int (3600), .ref (b + 8), .int 0, .int 0]), .inl (eI E, 20, .inl (fun _ => 0)), .inr (6, [.ref (b + 10), .int (200), .int 0, .int 0, .int 0, .int 0, .int 0]), .inr (8, [.int (900), .ref (b + 11), .int 0, .int 0]), .inl (eI E, 60, .inl (fun _ => 0)), .inr (4, [.ref (b + 13), .int 0, .int 0]), .inl (eI E, 3600, .inl (fun _ => 0))] H := hk
  refine lv_aload_n hx hb dX1_init_64 rfl (lv_at hl 0 rfl) ?_
  refine lv_iload_n hx hb dX1_init_65 rfl (lv_at hl 1 rfl) ?_
  refine kx_put (ws := [.inr (1, [.int 0, .ref (b + 1), .ref (b + 4), .ref (b + 6), .ref (b + 9), .ref (b + 12), .int (0), .int 0, .int 0, .int 0, .int 0]), .inr (3, [.ref (b + 2), .ref (b + 3), .ref (b + 3), .int 0, .int 0, .int 0, .int 0]), .inr (9, [.int 0, .int 0, .int 0, .int 0]), .inr (2, [.int (-1), .int 0, .int 0, .int (1), .int 0, .int 0, .int 0, .int 0, .int 0, .int 0, .int 0, .int 0, .int 0]), .inr (7, [.ref (b + 5), .int 0, .int (-1), .int 0, .int 0]), .inr (2, [.int (-1), .int 0, .int 0, .int (1), .int 0, .int 0, .int 0, .int 0, .int 0, .int 0, .int 0, .int 0, .int 0]), .inr (0, [.ref (b + 7), .int (-3600), .int 0]), .inr (8, [.int (3600), .ref (b + 8), .int 0, .int 0]), .inl (eI E, 20, .inl (fun _ => 0)), .inr (6, [.ref (b + 10), .int (200), .int 0, .int 0, .int 0, .int 0, .int 0]), .inr (8, [.int (900), .ref (b + 11), .int 0, .int 0]), .inl (eI E, 60, .inl (fun _ => 0)), .inr (4, [.ref (b + 13), .int 0, .int 0]), .inl (eI E, 3600, .inl (fun _ => 0))]) (ci := 1) (v := .int (p1)) hx hb hts i1 tyX1_ok nmX1 hown hK hk 0 rfl rfl (Nat.le_refl _) hS rfl 0 (by decide) kl50 (Or.inr ⟨rfl, hin, rfl⟩) rfl rfl (Nat.le_of_ble_eq_true rfl) dX1_init_66 (fun H locs hk hS => ?_)
  have hk : kat E b [.inr (1, [.int (p1), .ref (b + 1), .ref (b + 4), .ref (b + 6), .ref (b + 9), .ref (b + 12), .int (0), .int 0, .int 0, .int 0, .int 0]), .inr (3, [.ref (b + 2), .ref (b + 3), .ref (b + 3), .int 0, .int 0, .int 0, .int 0]), .inr (9, [.int 0, .int 0, .int 0, .int 0]), .inr (2, [.int (-1), .int 0, .int 0, .int (1), .int 0, .int 0, .int 0, .int 0, .int 0, .int 0, .int 0, .int 0, .int 0]), .inr (7, [.ref (b + 5), .int 0, .int (-1), .int 0, .int 0]), .inr (2, [.int (-1), .int 0, .int 0, .int (1), .int 0, .int 0, .int 0, .int 0, .int 0, .int 0, .int 0, .int 0, .int 0]), .inr (0, [.ref (b + 7), .int (-3600), .int 0]), .inr (8, [.int (3600), .ref (b + 8), .int 0, .int 0]), .inl (eI E, 20, .inl (fun _ => 0)), .inr (6, [.ref (b + 10), .int (200), .int 0, .int 0, .int 0, .int 0, .int 0]), .inr (8, [.int (900), .ref (b + 11), .int 0, .int 0]), .inl (eI E, 60, .inl (fun _ => 0)), .inr (4, [.ref (b + 13), .int 0, .int 0]), .inl (eI E, 3600, .inl (fun _ => 0))] H := hk
  exact kx_vret (ws := kcX1_init E b p1) hx hb hr hlocks hK hk hS dX1_init_69 (Nat.le_of_ble_eq_true rfl) (Nat.le_of_ble_eq_true rfl)
