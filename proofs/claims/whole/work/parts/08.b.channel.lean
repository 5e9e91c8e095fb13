/-! Channel: the beginning of a tick -/
def fX1_beginTick (p1 : Int32) (x : FS) : FS := (sC (fX8_forgetOld_7 p1 (fX8_forgetOld_10 p1 (fX4_advance x))) 0 10 (0))
set_option maxHeartbeats 4000000 in
set_option maxRecDepth 100000 in
theorem mX1_beginTick (l : Launch) (E : eE) (bb : Nat) (gd : Nat → Nat → Int32) (ch : Nat → Nat → Nat → Int32) (n : Nat) (hn : n < 3) (x : FS) (p1 : Int32) (hok : okF x) : Met l yX1_beginTick wsX1_beginTick ({ frames := 1, cells := 0, slots := 0, locals := 22 }) (gPre E (cwf E bb gd ch n x) [.ref (bb + 21 + 14 * n + 0), .int (p1)]) (gQv E (cwf E bb gd ch n) (fX1_beginTick p1 x) (cA bb)) 0 0 (cA bb) := by
  refine Met.ofW (cc := cX1_beginTick) (maxL := 2) (ret := none) (by decide) rfl ?_
  intro p e s m args below meth c s₁ B hml hv
  obtain ⟨rfl, hW, hK⟩ := hv
  have hx := B.exec
  have hb := B.bytes
  have hr := B.returns
  have hts := atoms_spec (ws := wsX1_beginTick) B.pre
  have hown : s.vm.findClass RX1 = some m.cls := findClass_of_methodNamed B.named
  have hlocks := B.notSynchronized
  have i0 : ∀ w ∈ wsX00, w ∈ wsX1_beginTick := by decide +kernel
  have i1 : ∀ w ∈ wsX10, w ∈ wsX1_beginTick := by decide +kernel
  have i6 : ∀ w ∈ wsX60, w ∈ wsX1_beginTick := by decide +kernel
  have kl28 := hts (.fieldLink RX1 28 "DosePump$Channel" "boluses" "LDosePump$Boluses;") (by decide +kernel)
  have kl35 := hts (.fieldLink RX1 35 "DosePump$Channel" "line" "LDosePump$Line;") (by decide +kernel)
  have kl42 := hts (.fieldLink RX1 42 "DosePump$Channel" "hour" "LDosePump$HourOfStrokes;") (by decide +kernel)
  have kl88 := hts (.fieldLink RX1 88 "DosePump$Line" "airStrokes" "LDosePump$Recent;") (by decide +kernel)
  have kl98 := hts (.fieldLink RX1 98 "DosePump$Boluses" "begun" "LDosePump$Recent;") (by decide +kernel)
  have kl101 := hts (.fieldLink RX1 101 "DosePump$Channel" "doneNow" "Z") (by decide +kernel)
  have hS : va_S (cA bb) s.heap s.heap [] := va_S.rf
  have hl := lv_entry ([.ref (bb + 21 + 14 * n + 0), .int (p1)]) (n := 2) (Nat.le_of_ble_eq_true rfl)
  rw [lg_entry_eq]
  generalize (lg_sl ([.ref (bb + 21 + 14 * n + 0), .int (p1)]) ++ List.replicate (2 - (lg_sl ([.ref (bb + 21 + 14 * n + 0), .int (p1)])).length) Slot.unset).toArray = ls at hl ⊢
  have hl : lv_has ls 2 [(0, .ref (bb + 21 + 14 * n + 0)), (1, .int (p1))] := hl
  have hf : fX1_beginTick p1 x = ((sC (fX8_forgetOld_7 p1 (fX8_forgetOld_10 p1 (fX4_advance x))) 0 10 (0))) := rfl
  refine lv_aload_n hx hb dX1_beginTick_0 rfl (lv_at hl 0 rfl) ?_
  refine fx_get (ci := 1) (v := .ref (bb + 21 + 14 * n + 12)) hx hb hts i1 hown hK (cwf_C (o := 0) hW hn (by decide)) rfl 5 (by decide) kl42 rfl dX1_beginTick_1 ?_
  refine gx_v (rest := []) ⟨hx, hb, hml, hown, hts⟩ (mX4_advance l E bb gd ch n hn x hok) (cwV 0 hts gX1_beginTick_X4_advance rfl rfl rfl (by decide +kernel) ⟨Nat.le_of_ble_eq_true rfl, Nat.le_of_ble_eq_true rfl⟩) hW hK (fx_recv hK (cwf_C (o := 12) hW hn (by decide)) rfl) rfl hl.1 rfl (Nat.le_of_ble_eq_true rfl) dX1_beginTick_4 ⟨Nat.le_of_ble_eq_true rfl, Nat.le_of_ble_eq_true rfl⟩ hS (fun _ h => h) (fun u1 H locs e1 hW hS => ?_)
  have e1 : fX4_advance x = u1 := e1
  try rw [e1] at hf
  have hk1 : okF u1 := e1 ▸ (okX4_advance hok)
  refine lv_aload_n hx hb dX1_beginTick_7 rfl (lv_at hl 0 rfl) ?_
  refine fx_get (ci := 1) (v := .ref (bb + 21 + 14 * n + 9)) hx hb hts i1 hown hK (cwf_C (o := 0) hW hn (by decide)) rfl 4 (by decide) kl35 rfl dX1_beginTick_8 ?_
  refine fx_get (ci := 6) (v := .ref (bb + 21 + 14 * n + 10)) hx hb hts i6 hown hK (cwf_C (o := 9) hW hn (by decide)) rfl 0 (by decide) kl88 rfl dX1_beginTick_11 ?_
  refine lv_iload_n hx hb dX1_beginTick_14 rfl (lv_at hl 1 rfl) ?_
  refine gx_v (rest := []) ⟨hx, hb, hml, hown, hts⟩ (mX8_forgetOld_10 l E bb gd ch n hn u1 p1 hk1) (cwV 1 hts gX1_beginTick_X8_forgetOld rfl rfl rfl (by decide +kernel) ⟨Nat.le_of_ble_eq_true rfl, Nat.le_of_ble_eq_true rfl⟩) hW hK (fx_recv hK (cwf_C (o := 10) hW hn (by decide)) rfl) rfl hl.1 rfl (Nat.le_of_ble_eq_true rfl) dX1_beginTick_15 ⟨Nat.le_of_ble_eq_true rfl, Nat.le_of_ble_eq_true rfl⟩ hS (fun _ h => h) (fun u2 H locs e2 hW hS => ?_)
  have e2 : fX8_forgetOld_10 p1 u1 = u2 := e2
  try rw [e2] at hf
  have hk2 : okF u2 := e2 ▸ (okX8_forgetOld_10 hk1)
  refine lv_aload_n hx hb dX1_beginTick_18 rfl (lv_at hl 0 rfl) ?_
  refine fx_get (ci := 1) (v := .ref (bb + 21 + 14 * n + 6)) hx hb hts i1 hown hK (cwf_C (o := 0) hW hn (by decide)) rfl 3 (by decide) kl28 rfl dX1_beginTick_19 ?_
  refine fx_get (ci := 0) (v := .ref (bb + 21 + 14 * n + 7)) hx hb hts i0 hown hK (cwf_C (o := 6) hW hn (by decide)) rfl 0 (by decide) kl98 rfl dX1_beginTick_22 ?_
  refine lv_iload_n hx hb dX1_beginTick_25 rfl (lv_at hl 1 rfl) ?_
  refine gx_v (rest := []) ⟨hx, hb, hml, hown, hts⟩ (mX8_forgetOld_7 l E bb gd ch n hn u2 p1 hk2) (cwV 1 hts gX1_beginTick_X8_forgetOld rfl rfl rfl (by decide +kernel) ⟨Nat.le_of_ble_eq_true rfl, Nat.le_of_ble_eq_true rfl⟩) hW hK (fx_recv hK (cwf_C (o := 7) hW hn (by decide)) rfl) rfl hl.1 rfl (Nat.le_of_ble_eq_true rfl) dX1_beginTick_26 ⟨Nat.le_of_ble_eq_true rfl, Nat.le_of_ble_eq_true rfl⟩ hS (fun _ h => h) (fun u3 H locs e3 hW hS => ?_)
  have e3 : fX8_forgetOld_7 p1 u2 = u3 := e3
  try rw [e3] at hf
  have hk3 : okF u3 := e3 ▸ (okX8_forgetOld_7 hk2)
  refine lv_aload_n hx hb dX1_beginTick_29 rfl (lv_at hl 0 rfl) ?_
  refine lv_iconst (v := 0) hx hb dX1_beginTick_30 (by decide) ?_
  refine fx_put (ci := 1) (v := .int (0)) hx hb hts i1 tyX1_ok nmX1 hown hK (cwf_C (o := 0) hW hn (by decide)) (cA_C hn (by decide)) hS rfl 10 (by decide) kl101 rfl (by decide) (by decide) (Nat.le_of_ble_eq_true rfl) dX1_beginTick_31 (fun H locs hat hne hS => ?_)
  have hW : cwf E bb gd ch n (sC u3 0 10 (0)) H := cwf_sC (o := 0) (k := 10) (v := 0) hW hn (by decide) hat hne
  exact gx_vret hx hb hr hlocks hK hf hW hS dX1_beginTick_34
theorem okX1_beginTick {p1 : Int32} {x : FS} (hok : okF x) : okF (fX1_beginTick p1 x) := by unfold fX1_beginTick; exact (okF_sC rfl (okX8_forgetOld_7 (okX8_forgetOld_10 (okX4_advance hok))))
