/-! Typed: the number that is being typed -/
def fX9_clear (x : FS) : FS := (sC (sC (sC (sC x 2 0 (0)) 2 1 (0)) 2 2 (0)) 2 3 (0))
set_option maxHeartbeats 4000000 in
set_option maxRecDepth 100000 in
theorem mX9_clear (l : Launch) (E : eE) (bb : Nat) (gd : Nat → Nat → Int32) (ch : Nat → Nat → Nat → Int32) (n : Nat) (hn : n < 3) (x : FS) : Met l yX9_clear wsX9_clear ({ frames := 0, cells := 0, slots := 0, locals := 0 }) (gPre E (cwf E bb gd ch n x) [.ref (bb + 21 + 14 * n + 2)]) (gQv E (cwf E bb gd ch n) (fX9_clear x) (cA bb)) 0 0 (cA bb) := by
  refine Met.ofW (cc := cX9_clear) (maxL := 1) (ret := none) (by decide) rfl ?_
  intro p e s m args below meth c s₁ B hml hv
  obtain ⟨rfl, hW, hK⟩ := hv
  have hx := B.exec
  have hb := B.bytes
  have hr := B.returns
  have hts := atoms_spec (ws := wsX9_clear) B.pre
  have hown : s.vm.findClass RX9 = some m.cls := findClass_of_methodNamed B.named
  have hlocks := B.notSynchronized
  have i9 : ∀ w ∈ wsX90, w ∈ wsX9_clear := by decide +kernel
  have kl7 := hts (.fieldLink RX9 7 "DosePump$Typed" "value" "I") (by decide +kernel)
  have kl13 := hts (.fieldLink RX9 13 "DosePump$Typed" "figures" "I") (by decide +kernel)
  have kl16 := hts (.fieldLink RX9 16 "DosePump$Typed" "behind" "I") (by decide +kernel)
  have kl19 := hts (.fieldLink RX9 19 "DosePump$Typed" "hasPoint" "Z") (by decide +kernel)
  have hS : va_S (cA bb) s.heap s.heap [] := va_S.rf
  have hl := lv_entry ([.ref (bb + 21 + 14 * n + 2)]) (n := 1) (Nat.le_of_ble_eq_true rfl)
  rw [lg_entry_eq]
  generalize (lg_sl ([.ref (bb + 21 + 14 * n + 2)]) ++ List.replicate (1 - (lg_sl ([.ref (bb + 21 + 14 * n + 2)])).length) Slot.unset).toArray = ls at hl ⊢
  have hl : lv_has ls 1 [(0, .ref (bb + 21 + 14 * n + 2))] := hl
  have hf : fX9_clear x = ((sC (sC (sC (sC x 2 0 (0)) 2 1 (0)) 2 2 (0)) 2 3 (0))) := rfl
  refine lv_aload_n hx hb dX9_clear_0 rfl (lv_at hl 0 rfl) ?_
  refine lv_iconst (v := 0) hx hb dX9_clear_1 (by decide) ?_
  refine fx_put (ci := 9) (v := .int (0)) hx hb hts i9 tyX9_ok nmX9 hown hK (cwf_C (o := 2) hW hn (by decide)) (cA_C hn (by decide)) hS rfl 0 (by decide) kl7 rfl rfl rfl (Nat.le_of_ble_eq_true rfl) dX9_clear_2 (fun H locs hat hne hS => ?_)
  have hW : cwf E bb gd ch n (sC x 2 0 (0)) H := cwf_sC (o := 2) (k := 0) (v := 0) hW hn (by decide) hat hne
  refine lv_aload_n hx hb dX9_clear_5 rfl (lv_at hl 0 rfl) ?_
  refine lv_iconst (v := 0) hx hb dX9_clear_6 (by decide) ?_
  refine fx_put (ci := 9) (v := .int (0)) hx hb hts i9 tyX9_ok nmX9 hown hK (cwf_C (o := 2) hW hn (by decide)) (cA_C hn (by decide)) hS rfl 1 (by decide) kl13 rfl rfl rfl (Nat.le_of_ble_eq_true rfl) dX9_clear_7 (fun H locs hat hne hS => ?_)
  have hW : cwf E bb gd ch n (sC (sC x 2 0 (0)) 2 1 (0)) H := cwf_sC (o := 2) (k := 1) (v := 0) hW hn (by decide) hat hne
  refine lv_aload_n hx hb dX9_clear_10 rfl (lv_at hl 0 rfl) ?_
  refine lv_iconst (v := 0) hx hb dX9_clear_11 (by decide) ?_
  refine fx_put (ci := 9) (v := .int (0)) hx hb hts i9 tyX9_ok nmX9 hown hK (cwf_C (o := 2) hW hn (by decide)) (cA_C hn (by decide)) hS rfl 2 (by decide) kl16 rfl rfl rfl (Nat.le_of_ble_eq_true rfl) dX9_clear_12 (fun H locs hat hne hS => ?_)
  have hW : cwf E bb gd ch n (sC (sC (sC x 2 0 (0)) 2 1 (0)) 2 2 (0)) H := cwf_sC (o := 2) (k := 2) (v := 0) hW hn (by decide) hat hne
  refine lv_aload_n hx hb dX9_clear_15 rfl (lv_at hl 0 rfl) ?_
  refine lv_iconst (v := 0) hx hb dX9_clear_16 (by decide) ?_
  refine fx_put (ci := 9) (v := .int (0)) hx hb hts i9 tyX9_ok nmX9 hown hK (cwf_C (o := 2) hW hn (by decide)) (cA_C hn (by decide)) hS rfl 3 (by decide) kl19 rfl (by decide) (by decide) (Nat.le_of_ble_eq_true rfl) dX9_clear_17 (fun H locs hat hne hS => ?_)
  have hW : cwf E bb gd ch n (sC (sC (sC (sC x 2 0 (0)) 2 1 (0)) 2 2 (0)) 2 3 (0)) H := cwf_sC (o := 2) (k := 3) (v := 0) hW hn (by decide) hat hne
  exact gx_vret hx hb hr hlocks hK hf hW hS dX9_clear_20
theorem okX9_clear {x : FS} (hok : okF x) : okF (fX9_clear x) := by unfold fX9_clear; exact (okF_sC rfl (okF_sC rfl (okF_sC rfl (okF_sC rfl hok))))

def fX9_length (x : FS) : Int32 := if (x.2.1 2 3) = 0 then (x.2.1 2 1) else ((x.2.1 2 1) + 1)
set_option maxHeartbeats 4000000 in
set_option maxRecDepth 100000 in
theorem mX9_length (l : Launch) (E : eE) (bb : Nat) (gd : Nat → Nat → Int32) (ch : Nat → Nat → Nat → Int32) (n : Nat) (hn : n < 3) (x : FS) : Met l yX9_length wsX9_length ({ frames := 0, cells := 0, slots := 0, locals := 0 }) (gPre E (cwf E bb gd ch n x) [.ref (bb + 21 + 14 * n + 2)]) (gQi E (fun _ : Unit => cwf E bb gd ch n x) ((), fX9_length x) (cA bb)) 0 0 (cA bb) := by
  refine Met.ofW (cc := cX9_length) (maxL := 1) (ret := (some .int)) (by decide) rfl ?_
  intro p e s m args below meth c s₁ B hml hv
  obtain ⟨rfl, hW, hK⟩ := hv
  have hx := B.exec
  have hb := B.bytes
  have hr := B.returns
  have hts := atoms_spec (ws := wsX9_length) B.pre
  have hown : s.vm.findClass RX9 = some m.cls := findClass_of_methodNamed B.named
  have hlocks := B.notSynchronized
  have i9 : ∀ w ∈ wsX90, w ∈ wsX9_length := by decide +kernel
  have kl13 := hts (.fieldLink RX9 13 "DosePump$Typed" "figures" "I") (by decide +kernel)
  have kl19 := hts (.fieldLink RX9 19 "DosePump$Typed" "hasPoint" "Z") (by decide +kernel)
  have hS : va_S (cA bb) s.heap s.heap [] := va_S.rf
  have hl := lv_entry ([.ref (bb + 21 + 14 * n + 2)]) (n := 1) (Nat.le_of_ble_eq_true rfl)
  rw [lg_entry_eq]
  generalize (lg_sl ([.ref (bb + 21 + 14 * n + 2)]) ++ List.replicate (1 - (lg_sl ([.ref (bb + 21 + 14 * n + 2)])).length) Slot.unset).toArray = ls at hl ⊢
  have hl : lv_has ls 1 [(0, .ref (bb + 21 + 14 * n + 2))] := hl
  have hf : fX9_length x = (if (x.2.1 2 3) = 0 then (x.2.1 2 1) else ((x.2.1 2 1) + 1)) := rfl
  refine lv_aload_n hx hb dX9_length_0 rfl (lv_at hl 0 rfl) ?_
  refine fx_get (ci := 9) (v := .int (x.2.1 2 3)) hx hb hts i9 hown hK (cwf_C (o := 2) hW hn (by decide)) rfl 3 (by decide) kl19 rfl dX9_length_1 ?_
  refine lv_if_eq (tgt := 16) hx hb dX9_length_4 (by decide) (fun c_4 => ?_) (fun c_4 => ?_)
  · have hf_4 := hf.trans (if_pos c_4)
    refine lv_aload_n hx hb dX9_length_16 rfl (lv_at hl 0 rfl) ?_
    refine fx_get (ci := 9) (v := .int (x.2.1 2 1)) hx hb hts i9 hown hK (cwf_C (o := 2) hW hn (by decide)) rfl 1 (by decide) kl13 rfl dX9_length_17 ?_
    exact gx_iret hx hb hr rfl hlocks hK (congrArg (Prod.mk ()) hf_4) (u := ()) (v := x.2.1 2 1) hW hS dX9_length_20
  · have hf_4 := hf.trans (if_neg c_4)
    refine lv_aload_n hx hb dX9_length_7 rfl (lv_at hl 0 rfl) ?_
    refine fx_get (ci := 9) (v := .int (x.2.1 2 1)) hx hb hts i9 hown hK (cwf_C (o := 2) hW hn (by decide)) rfl 1 (by decide) kl13 rfl dX9_length_8 ?_
    refine lv_iconst (v := 1) hx hb dX9_length_11 (by decide) ?_
    refine lv_iadd hx hb dX9_length_12 ?_
    refine lv_goto (tgt := 20) hx hb dX9_length_13 (by decide) ?_
    exact gx_iret hx hb hr rfl hlocks hK (congrArg (Prod.mk ()) hf_4) (u := ()) (v := (x.2.1 2 1) + 1) hW hS dX9_length_20

def fX9_isComplete (x : FS) : Int32 := if (x.2.1 2 1) ≤ 0 then (0) else (if (x.2.1 2 3) = 0 then (1) else (if (x.2.1 2 2) ≤ 0 then (0) else (1)))
set_option maxHeartbeats 4000000 in
set_option maxRecDepth 100000 in
theorem mX9_isComplete (l : Launch) (E : eE) (bb : Nat) (gd : Nat → Nat → Int32) (ch : Nat → Nat → Nat → Int32) (n : Nat) (hn : n < 3) (x : FS) : Met l yX9_isComplete wsX9_isComplete ({ frames := 0, cells := 0, slots := 0, locals := 0 }) (gPre E (cwf E bb gd ch n x) [.ref (bb + 21 + 14 * n + 2)]) (gQi E (fun _ : Unit => cwf E bb gd ch n x) ((), fX9_isComplete x) (cA bb)) 0 0 (cA bb) := by
  refine Met.ofW (cc := cX9_isComplete) (maxL := 1) (ret := (some .boolean)) (by decide) rfl ?_
  intro p e s m args below meth c s₁ B hml hv
  obtain ⟨rfl, hW, hK⟩ := hv
  have hx := B.exec
  have hb := B.bytes
  have hr := B.returns
  have hts := atoms_spec (ws := wsX9_isComplete) B.pre
  have hown : s.vm.findClass RX9 = some m.cls := findClass_of_methodNamed B.named
  have hlocks := B.notSynchronized
  have i9 : ∀ w ∈ wsX90, w ∈ wsX9_isComplete := by decide +kernel
  have kl13 := hts (.fieldLink RX9 13 "DosePump$Typed" "figures" "I") (by decide +kernel)
  have kl16 := hts (.fieldLink RX9 16 "DosePump$Typed" "behind" "I") (by decide +kernel)
  have kl19 := hts (.fieldLink RX9 19 "DosePump$Typed" "hasPoint" "Z") (by decide +kernel)
  have hS : va_S (cA bb) s.heap s.heap [] := va_S.rf
  have hl := lv_entry ([.ref (bb + 21 + 14 * n + 2)]) (n := 1) (Nat.le_of_ble_eq_true rfl)
  rw [lg_entry_eq]
  generalize (lg_sl ([.ref (bb + 21 + 14 * n + 2)]) ++ List.replicate (1 - (lg_sl ([.ref (bb + 21 + 14 * n + 2)])).length) Slot.unset).toArray = ls at hl ⊢
  have hl : lv_has ls 1 [(0, .ref (bb + 21 + 14 * n + 2))] := hl
  have hf : fX9_isComplete x = (if (x.2.1 2 1) ≤ 0 then (0) else (if (x.2.1 2 3) = 0 then (1) else (if (x.2.1 2 2) ≤ 0 then (0) else (1)))) := rfl
  refine lv_aload_n hx hb dX9_isComplete_0 rfl (lv_at hl 0 rfl) ?_
  refine fx_get (ci := 9) (v := .int (x.2.1 2 1)) hx hb hts i9 hown hK (cwf_C (o := 2) hW hn (by decide)) rfl 1 (by decide) kl13 rfl dX9_isComplete_1 ?_
  refine lv_if_le (tgt := 25) hx hb dX9_isComplete_4 (by decide) (fun c_4 => ?_) (fun c_4 => ?_)
  · have hf_4 := hf.trans (if_pos c_4)
    refine lv_iconst (v := 0) hx hb dX9_isComplete_25 (by decide) ?_
    exact gx_iret hx hb hr (by decide) hlocks hK (congrArg (Prod.mk ()) hf_4) (u := ()) (v := 0) hW hS dX9_isComplete_26
  · have hf_4 := hf.trans (if_neg c_4)
    refine lv_aload_n hx hb dX9_isComplete_7 rfl (lv_at hl 0 rfl) ?_
    refine fx_get (ci := 9) (v := .int (x.2.1 2 3)) hx hb hts i9 hown hK (cwf_C (o := 2) hW hn (by decide)) rfl 3 (by decide) kl19 rfl dX9_isComplete_8 ?_
    refine lv_if_eq (tgt := 21) hx hb dX9_isComplete_11 (by decide) (fun c_11 => ?_) (fun c_11 => ?_)
    · have hf_11 := hf_4.trans (if_pos c_11)
      refine lv_iconst (v := 1) hx hb dX9_isComplete_21 (by decide) ?_
      refine lv_goto (tgt := 26) hx hb dX9_isComplete_22 (by decide) ?_
      exact gx_iret hx hb hr (by decide) hlocks hK (congrArg (Prod.mk ()) hf_11) (u := ()) (v := 1) hW hS dX9_isComplete_26
    · have hf_11 := hf_4.trans (if_neg c_11)
      refine lv_aload_n hx hb dX9_isComplete_14 rfl (lv_at hl 0 rfl) ?_
      refine fx_get (ci := 9) (v := .int (x.2.1 2 2)) hx hb hts i9 hown hK (cwf_C (o := 2) hW hn (by decide)) rfl 2 (by decide) kl16 rfl dX9_isComplete_15 ?_
      refine lv_if_le (tgt := 25) hx hb dX9_isComplete_18 (by decide) (fun c_18 => ?_) (fun c_18 => ?_)
      · have hf_18 := hf_11.trans (if_pos c_18)
        refine lv_iconst (v := 0) hx hb dX9_isComplete_25 (by decide) ?_
        exact gx_iret hx hb hr (by decide) hlocks hK (congrArg (Prod.mk ()) hf_18) (u := ()) (v := 0) hW hS dX9_isComplete_26
      · have hf_18 := hf_11.trans (if_neg c_18)
        refine lv_iconst (v := 1) hx hb dX9_isComplete_21 (by decide) ?_
        refine lv_goto (tgt := 26) hx hb dX9_isComplete_22 (by decide) ?_
        exact gx_iret hx hb hr (by decide) hlocks hK (congrArg (Prod.mk ()) hf_18) (u := ()) (v := 1) hW hS dX9_isComplete_26

def fX9_addFigure_J53 (p1 : Int32) (p2 : Int32) (y : FS) : FS × Int32 := if (y.2.1 2 3) = 0 then (((sC (sC y 2 0 (((y.2.1 2 0) * 10) + p1)) 2 1 ((y.2.1 2 1) + 1)), 1)) else (((sC (sC (sC y 2 0 (((y.2.1 2 0) * 10) + p1)) 2 1 ((y.2.1 2 1) + 1)) 2 2 ((y.2.1 2 2) + 1)), 1))
def fX9_addFigure_J20 (p1 : Int32) (p2 : Int32) (y : FS) (w0 : Int32) : FS × Int32 := if (y.2.1 2 3) = 0 then (if (4 : Int32) ≤ (y.2.1 2 1) then ((y, 0)) else (if w0 = 0 then (fX9_addFigure_J53 p1 p2 y) else ((y, 0)))) else (if (y.2.1 2 2) < p2 then (fX9_addFigure_J53 p1 p2 y) else ((y, 0)))
def fX9_addFigure_J19 (p1 : Int32) (p2 : Int32) (y : FS) : FS × Int32 := fX9_addFigure_J20 p1 p2 y 0
def fX9_addFigure (p1 : Int32) (p2 : Int32) (x : FS) : FS × Int32 := if (x.2.1 2 1) = 1 then (if (x.2.1 2 0) = 0 then (fX9_addFigure_J20 p1 p2 x 1) else (fX9_addFigure_J19 p1 p2 x)) else (fX9_addFigure_J19 p1 p2 x)
set_option maxHeartbeats 4000000 in
set_option maxRecDepth 100000 in
theorem mX9_addFigure (l : Launch) (E : eE) (bb : Nat) (gd : Nat → Nat → Int32) (ch : Nat → Nat → Nat → Int32) (n : Nat) (hn : n < 3) (x : FS) (p1 : Int32) (p2 : Int32) : Met l yX9_addFigure wsX9_addFigure ({ frames := 0, cells := 0, slots := 0, locals := 0 }) (gPre E (cwf E bb gd ch n x) [.ref (bb + 21 + 14 * n + 2), .int (p1), .int (p2)]) (gQi E (cwf E bb gd ch n) (fX9_addFigure p1 p2 x) (cA bb)) 0 0 (cA bb) := by
  refine Met.ofW (cc := cX9_addFigure) (maxL := 4) (ret := (some .boolean)) (by decide) rfl ?_
  intro p e s m args below meth c s₁ B hml hv
  obtain ⟨rfl, hW, hK⟩ := hv
  have hx := B.exec
  have hb := B.bytes
  have hr := B.returns
  have hts := atoms_spec (ws := wsX9_addFigure) B.pre
  have hown : s.vm.findClass RX9 = some m.cls := findClass_of_methodNamed B.named
  have hlocks := B.notSynchronized
  have i9 : ∀ w ∈ wsX90, w ∈ wsX9_addFigure := by decide +kernel
  have kl7 := hts (.fieldLink RX9 7 "DosePump$Typed" "value" "I") (by decide +kernel)
  have kl13 := hts (.fieldLink RX9 13 "DosePump$Typed" "figures" "I") (by decide +kernel)
  have kl16 := hts (.fieldLink RX9 16 "DosePump$Typed" "behind" "I") (by decide +kernel)
  have kl19 := hts (.fieldLink RX9 19 "DosePump$Typed" "hasPoint" "Z") (by decide +kernel)
  have hS : va_S (cA bb) s.heap s.heap [] := va_S.rf
  have hl := lv_entry ([.ref (bb + 21 + 14 * n + 2), .int (p1), .int (p2)]) (n := 4) (Nat.le_of_ble_eq_true rfl)
  rw [lg_entry_eq]
  generalize (lg_sl ([.ref (bb + 21 + 14 * n + 2), .int (p1), .int (p2)]) ++ List.replicate (4 - (lg_sl ([.ref (bb + 21 + 14 * n + 2), .int (p1), .int (p2)])).length) Slot.unset).toArray = ls at hl ⊢
  have hl : lv_has ls 4 [(0, .ref (bb + 21 + 14 * n + 2)), (1, .int (p1)), (2, .int (p2))] := hl
  have J53 : ∀ (H : Heap) (locs : List Loc) (ls : Array Slot) (y : FS), cwf E bb gd ch n y H → va_S (cA bb) s.heap H locs → lv_has ls 4 [(0, .ref (bb + 21 + 14 * n + 2)), (1, .int (p1))] → fX9_addFigure p1 p2 x = fX9_addFigure_J53 p1 p2 y → W p l e (headSpec wsX9_addFigure { frames := 0, cells := 0, slots := 0, locals := 0 }).room s m ([.ref (bb + 21 + 14 * n + 2), .int (p1), .int (p2)] : List Value).toArray below meth c H locs 0 0 (MQ below (gQi E (cwf E bb gd ch n) (fX9_addFigure p1 p2 x) (cA bb)) ([.ref (bb + 21 + 14 * n + 2), .int (p1), .int (p2)] : List Value).toArray s 0 0 (cA bb)) (F0 m 53 ls []) := by
    intro H locs ls y hW hS hl hf
    replace hf : fX9_addFigure p1 p2 x = (if (y.2.1 2 3) = 0 then (((sC (sC y 2 0 (((y.2.1 2 0) * 10) + p1)) 2 1 ((y.2.1 2 1) + 1)), 1)) else (((sC (sC (sC y 2 0 (((y.2.1 2 0) * 10) + p1)) 2 1 ((y.2.1 2 1) + 1)) 2 2 ((y.2.1 2 2) + 1)), 1))) := hf
    refine lv_aload_n hx hb dX9_addFigure_53 rfl (lv_at hl 0 rfl) ?_
    refine lv_aload_n hx hb dX9_addFigure_54 rfl (lv_at hl 0 rfl) ?_
    refine fx_get (ci := 9) (v := .int (y.2.1 2 0)) hx hb hts i9 hown hK (cwf_C (o := 2) hW hn (by decide)) rfl 0 (by decide) kl7 rfl dX9_addFigure_55 ?_
    refine lv_bipush (v := 10) hx hb dX9_addFigure_58 (by decide) ?_
    refine lv_imul hx hb dX9_addFigure_60 ?_
    refine lv_iload_n hx hb dX9_addFigure_61 rfl (lv_at hl 1 rfl) ?_
    refine lv_iadd hx hb dX9_addFigure_62 ?_
    refine fx_put (ci := 9) (v := .int (((y.2.1 2 0) * 10) + p1)) hx hb hts i9 tyX9_ok nmX9 hown hK (cwf_C (o := 2) hW hn (by decide)) (cA_C hn (by decide)) hS rfl 0 (by decide) kl7 rfl rfl rfl (Nat.le_of_ble_eq_true rfl) dX9_addFigure_63 (fun H locs hat hne hS => ?_)
    have hW : cwf E bb gd ch n (sC y 2 0 (((y.2.1 2 0) * 10) + p1)) H := cwf_sC (o := 2) (k := 0) (v := ((y.2.1 2 0) * 10) + p1) hW hn (by decide) hat hne
    refine lv_aload_n hx hb dX9_addFigure_66 rfl (lv_at hl 0 rfl) ?_
    refine lv_dup hx hb dX9_addFigure_67 rfl ?_
    refine fx_get (ci := 9) (v := .int (y.2.1 2 1)) hx hb hts i9 hown hK (cwf_C (o := 2) hW hn (by decide)) rfl 1 (by decide) kl13 rfl dX9_addFigure_68 ?_
    refine lv_iconst (v := 1) hx hb dX9_addFigure_71 (by decide) ?_
    refine lv_iadd hx hb dX9_addFigure_72 ?_
    refine fx_put (ci := 9) (v := .int ((y.2.1 2 1) + 1)) hx hb hts i9 tyX9_ok nmX9 hown hK (cwf_C (o := 2) hW hn (by decide)) (cA_C hn (by decide)) hS rfl 1 (by decide) kl13 rfl rfl rfl (Nat.le_of_ble_eq_true rfl) dX9_addFigure_73 (fun H locs hat hne hS => ?_)
    have hW : cwf E bb gd ch n (sC (sC y 2 0 (((y.2.1 2 0) * 10) + p1)) 2 1 ((y.2.1 2 1) + 1)) H := cwf_sC (o := 2) (k := 1) (v := (y.2.1 2 1) + 1) hW hn (by decide) hat hne
    refine lv_aload_n hx hb dX9_addFigure_76 rfl (lv_at hl 0 rfl) ?_
    refine fx_get (ci := 9) (v := .int (y.2.1 2 3)) hx hb hts i9 hown hK (cwf_C (o := 2) hW hn (by decide)) rfl 3 (by decide) kl19 rfl dX9_addFigure_77 ?_
    refine lv_if_eq (tgt := 93) hx hb dX9_addFigure_80 (by decide) (fun c_80 => ?_) (fun c_80 => ?_)
    · have hf_80 := hf.trans (if_pos c_80)
      refine lv_iconst (v := 1) hx hb dX9_addFigure_93 (by decide) ?_
      exact gx_iret hx hb hr (by decide) hlocks hK hf_80 hW hS dX9_addFigure_94
    · have hf_80 := hf.trans (if_neg c_80)
      refine lv_aload_n hx hb dX9_addFigure_83 rfl (lv_at hl 0 rfl) ?_
      refine lv_dup hx hb dX9_addFigure_84 rfl ?_
      refine fx_get (ci := 9) (v := .int (y.2.1 2 2)) hx hb hts i9 hown hK (cwf_C (o := 2) hW hn (by decide)) rfl 2 (by decide) kl16 rfl dX9_addFigure_85 ?_
      refine lv_iconst (v := 1) hx hb dX9_addFigure_88 (by decide) ?_
      refine lv_iadd hx hb dX9_addFigure_89 ?_
      refine fx_put (ci := 9) (v := .int ((y.2.1 2 2) + 1)) hx hb hts i9 tyX9_ok nmX9 hown hK (cwf_C (o := 2) hW hn (by decide)) (cA_C hn (by decide)) hS rfl 2 (by decide) kl16 rfl rfl rfl (Nat.le_of_ble_eq_true rfl) dX9_addFigure_90 (fun H locs hat hne hS => ?_)
      have hW : cwf E bb gd ch n (sC (sC (sC y 2 0 (((y.2.1 2 0) * 10) + p1)) 2 1 ((y.2.1 2 1) + 1)) 2 2 ((y.2.1 2 2) + 1)) H := cwf_sC (o := 2) (k := 2) (v := (y.2.1 2 2) + 1) hW hn (by decide) hat hne
      refine lv_iconst (v := 1) hx hb dX9_addFigure_93 (by decide) ?_
      exact gx_iret hx hb hr (by decide) hlocks hK hf_80 hW hS dX9_addFigure_94
  have J20 : ∀ (H : Heap) (locs : List Loc) (ls : Array Slot) (y : FS) (w0 : Int32), cwf E bb gd ch n y H → va_S (cA bb) s.heap H locs → lv_has ls 4 [(0, .ref (bb + 21 + 14 * n + 2)), (1, .int (p1)), (2, .int (p2))] → fX9_addFigure p1 p2 x = fX9_addFigure_J20 p1 p2 y w0 → W p l e (headSpec wsX9_addFigure { frames := 0, cells := 0, slots := 0, locals := 0 }).room s m ([.ref (bb + 21 + 14 * n + 2), .int (p1), .int (p2)] : List Value).toArray below meth c H locs 0 0 (MQ below (gQi E (cwf E bb gd ch n) (fX9_addFigure p1 p2 x) (cA bb)) ([.ref (bb + 21 + 14 * n + 2), .int (p1), .int (p2)] : List Value).toArray s 0 0 (cA bb)) (F0 m 20 ls [.int (w0)]) := by
    intro H locs ls y w0 hW hS hl hf
    replace hf : fX9_addFigure p1 p2 x = (if (y.2.1 2 3) = 0 then (if (4 : Int32) ≤ (y.2.1 2 1) then ((y, 0)) else (if w0 = 0 then (fX9_addFigure_J53 p1 p2 y) else ((y, 0)))) else (if (y.2.1 2 2) < p2 then (fX9_addFigure_J53 p1 p2 y) else ((y, 0)))) := hf
    refine lv_istore_n (lv' := [(3, .int (w0)), (0, .ref (bb + 21 + 14 * n + 2)), (1, .int (p1)), (2, .int (p2))]) hx hb dX9_addFigure_20 rfl hl (by decide) rfl (fun ls hl => ?_)
    refine lv_aload_n hx hb dX9_addFigure_21 rfl (lv_at hl 1 rfl) ?_
    refine fx_get (ci := 9) (v := .int (y.2.1 2 3)) hx hb hts i9 hown hK (cwf_C (o := 2) hW hn (by decide)) rfl 3 (by decide) kl19 rfl dX9_addFigure_22 ?_
    refine lv_if_eq (tgt := 39) hx hb dX9_addFigure_25 (by decide) (fun c_25 => ?_) (fun c_25 => ?_)
    · have hf_25 := hf.trans (if_pos c_25)
      refine lv_aload_n hx hb dX9_addFigure_39 rfl (lv_at hl 1 rfl) ?_
      refine fx_get (ci := 9) (v := .int (y.2.1 2 1)) hx hb hts i9 hown hK (cwf_C (o := 2) hW hn (by decide)) rfl 1 (by decide) kl13 rfl dX9_addFigure_40 ?_
      refine lv_iconst (v := 4) hx hb dX9_addFigure_43 (by decide) ?_
      refine lv_icmp_ge (tgt := 51) hx hb dX9_addFigure_44 (by decide) (fun c_44 => ?_) (fun c_44 => ?_)
      · have hf_44 := hf_25.trans (if_pos c_44)
        refine lv_iconst (v := 0) hx hb dX9_addFigure_51 (by decide) ?_
        exact gx_iret hx hb hr (by decide) hlocks hK hf_44 hW hS dX9_addFigure_52
      · have hf_44 := hf_25.trans (if_neg c_44)
        refine lv_iload_n hx hb dX9_addFigure_47 rfl (lv_at hl 0 rfl) ?_
        refine lv_if_eq (tgt := 53) hx hb dX9_addFigure_48 (by decide) (fun c_48 => ?_) (fun c_48 => ?_)
        · have hf_48 := hf_44.trans (if_pos c_48)
          exact J53 _ _ _ y hW hS (lv_sub hl [1, 2] rfl) hf_48
        · have hf_48 := hf_44.trans (if_neg c_48)
          refine lv_iconst (v := 0) hx hb dX9_addFigure_51 (by decide) ?_
          exact gx_iret hx hb hr (by decide) hlocks hK hf_48 hW hS dX9_addFigure_52
    · have hf_25 := hf.trans (if_neg c_25)
      refine lv_aload_n hx hb dX9_addFigure_28 rfl (lv_at hl 1 rfl) ?_
      refine fx_get (ci := 9) (v := .int (y.2.1 2 2)) hx hb hts i9 hown hK (cwf_C (o := 2) hW hn (by decide)) rfl 2 (by decide) kl16 rfl dX9_addFigure_29 ?_
      refine lv_iload_n hx hb dX9_addFigure_32 rfl (lv_at hl 3 rfl) ?_
      refine lv_icmp_lt (tgt := 53) hx hb dX9_addFigure_33 (by decide) (fun c_33 => ?_) (fun c_33 => ?_)
      · have hf_33 := hf_25.trans (if_pos c_33)
        exact J53 _ _ _ y hW hS (lv_sub hl [1, 2] rfl) hf_33
      · have hf_33 := hf_25.trans (if_neg c_33)
        refine lv_goto (tgt := 51) hx hb dX9_addFigure_36 (by decide) ?_
        refine lv_iconst (v := 0) hx hb dX9_addFigure_51 (by decide) ?_
        exact gx_iret hx hb hr (by decide) hlocks hK hf_33 hW hS dX9_addFigure_52
  have J19 : ∀ (H : Heap) (locs : List Loc) (ls : Array Slot) (y : FS), cwf E bb gd ch n y H → va_S (cA bb) s.heap H locs → lv_has ls 4 [(0, .ref (bb + 21 + 14 * n + 2)), (1, .int (p1)), (2, .int (p2))] → fX9_addFigure p1 p2 x = fX9_addFigure_J19 p1 p2 y → W p l e (headSpec wsX9_addFigure { frames := 0, cells := 0, slots := 0, locals := 0 }).room s m ([.ref (bb + 21 + 14 * n + 2), .int (p1), .int (p2)] : List Value).toArray below meth c H locs 0 0 (MQ below (gQi E (cwf E bb gd ch n) (fX9_addFigure p1 p2 x) (cA bb)) ([.ref (bb + 21 + 14 * n + 2), .int (p1), .int (p2)] : List Value).toArray s 0 0 (cA bb)) (F0 m 19 ls []) := by
    intro H locs ls y hW hS hl hf
    replace hf : fX9_addFigure p1 p2 x = (fX9_addFigure_J20 p1 p2 y 0) := hf
    refine lv_iconst (v := 0) hx hb dX9_addFigure_19 (by decide) ?_
    exact J20 _ _ _ y 0 hW hS (lv_sub hl [0, 1, 2] rfl) hf
  have hf : fX9_addFigure p1 p2 x = (if (x.2.1 2 1) = 1 then (if (x.2.1 2 0) = 0 then (fX9_addFigure_J20 p1 p2 x 1) else (fX9_addFigure_J19 p1 p2 x)) else (fX9_addFigure_J19 p1 p2 x)) := rfl
  refine lv_aload_n hx hb dX9_addFigure_0 rfl (lv_at hl 0 rfl) ?_
  refine fx_get (ci := 9) (v := .int (x.2.1 2 1)) hx hb hts i9 hown hK (cwf_C (o := 2) hW hn (by decide)) rfl 1 (by decide) kl13 rfl dX9_addFigure_1 ?_
  refine lv_iconst (v := 1) hx hb dX9_addFigure_4 (by decide) ?_
  refine lv_icmp_ne (tgt := 19) hx hb dX9_addFigure_5 (by decide) (fun c_5 => ?_) (fun c_5 => ?_)
  · have hf_5 := hf.trans (if_neg c_5)
    exact J19 _ _ _ x hW hS (lv_sub hl [0, 1, 2] rfl) hf_5
  · have hf_5 := hf.trans (if_pos c_5)
    refine lv_aload_n hx hb dX9_addFigure_8 rfl (lv_at hl 0 rfl) ?_
    refine fx_get (ci := 9) (v := .int (x.2.1 2 0)) hx hb hts i9 hown hK (cwf_C (o := 2) hW hn (by decide)) rfl 0 (by decide) kl7 rfl dX9_addFigure_9 ?_
    refine lv_if_ne (tgt := 19) hx hb dX9_addFigure_12 (by decide) (fun c_12 => ?_) (fun c_12 => ?_)
    · have hf_12 := hf_5.trans (if_neg c_12)
      exact J19 _ _ _ x hW hS (lv_sub hl [0, 1, 2] rfl) hf_12
    · have hf_12 := hf_5.trans (if_pos c_12)
      refine lv_iconst (v := 1) hx hb dX9_addFigure_15 (by decide) ?_
      refine lv_goto (tgt := 20) hx hb dX9_addFigure_16 (by decide) ?_
      exact J20 _ _ _ x 1 hW hS (lv_sub hl [0, 1, 2] rfl) hf_12
theorem okX9_addFigure_J53 {p1 : Int32} {p2 : Int32} {y : FS} (hok : okF y) : okF (fX9_addFigure_J53 p1 p2 y).1 := by unfold fX9_addFigure_J53; exact (okF_ite1 (fun c_80 => (okF_sC rfl (okF_sC rfl hok))) (fun c_80 => (okF_sC rfl (okF_sC rfl (okF_sC rfl hok)))))
theorem okX9_addFigure_J20 {p1 : Int32} {p2 : Int32} {y : FS} {w0 : Int32} (hok : okF y) : okF (fX9_addFigure_J20 p1 p2 y w0).1 := by unfold fX9_addFigure_J20; exact (okF_ite1 (fun c_25 => (okF_ite1 (fun c_44 => hok) (fun c_44 => (okF_ite1 (fun c_48 => (okX9_addFigure_J53 hok)) (fun c_48 => hok))))) (fun c_25 => (okF_ite1 (fun c_33 => (okX9_addFigure_J53 hok)) (fun c_33 => hok))))
theorem okX9_addFigure_J19 {p1 : Int32} {p2 : Int32} {y : FS} (hok : okF y) : okF (fX9_addFigure_J19 p1 p2 y).1 := by unfold fX9_addFigure_J19; exact (okX9_addFigure_J20 hok)
theorem okX9_addFigure {p1 : Int32} {p2 : Int32} {x : FS} (hok : okF x) : okF (fX9_addFigure p1 p2 x).1 := by unfold fX9_addFigure; exact (okF_ite1 (fun c_5 => (okF_ite1 (fun c_12 => (okX9_addFigure_J20 hok)) (fun c_12 => (okX9_addFigure_J19 hok)))) (fun c_5 => (okX9_addFigure_J19 hok)))

def fX9_addPoint (p1 : Int32) (x : FS) : FS × Int32 := if (x.2.1 2 3) = 0 then (if (x.2.1 2 1) = 0 then ((x, 0)) else (if p1 = 0 then ((x, 0)) else (((sC x 2 3 (1)), 1)))) else ((x, 0))
set_option maxHeartbeats 4000000 in
set_option maxRecDepth 100000 in
theorem mX9_addPoint (l : Launch) (E : eE) (bb : Nat) (gd : Nat → Nat → Int32) (ch : Nat → Nat → Nat → Int32) (n : Nat) (hn : n < 3) (x : FS) (p1 : Int32) : Met l yX9_addPoint wsX9_addPoint ({ frames := 0, cells := 0, slots := 0, locals := 0 }) (gPre E (cwf E bb gd ch n x) [.ref (bb + 21 + 14 * n + 2), .int (p1)]) (gQi E (cwf E bb gd ch n) (fX9_addPoint p1 x) (cA bb)) 0 0 (cA bb) := by
  refine Met.ofW (cc := cX9_addPoint) (maxL := 2) (ret := (some .boolean)) (by decide) rfl ?_
  intro p e s m args below meth c s₁ B hml hv
  obtain ⟨rfl, hW, hK⟩ := hv
  have hx := B.exec
  have hb := B.bytes
  have hr := B.returns
  have hts := atoms_spec (ws := wsX9_addPoint) B.pre
  have hown : s.vm.findClass RX9 = some m.cls := findClass_of_methodNamed B.named
  have hlocks := B.notSynchronized
  have i9 : ∀ w ∈ wsX90, w ∈ wsX9_addPoint := by decide +kernel
  have kl13 := hts (.fieldLink RX9 13 "DosePump$Typed" "figures" "I") (by decide +kernel)
  have kl19 := hts (.fieldLink RX9 19 "DosePump$Typed" "hasPoint" "Z") (by decide +kernel)
  have hS : va_S (cA bb) s.heap s.heap [] := va_S.rf
  have hl := lv_entry ([.ref (bb + 21 + 14 * n + 2), .int (p1)]) (n := 2) (Nat.le_of_ble_eq_true rfl)
  rw [lg_entry_eq]
  generalize (lg_sl ([.ref (bb + 21 + 14 * n + 2), .int (p1)]) ++ List.replicate (2 - (lg_sl ([.ref (bb + 21 + 14 * n + 2), .int (p1)])).length) Slot.unset).toArray = ls at hl ⊢
  have hl : lv_has ls 2 [(0, .ref (bb + 21 + 14 * n + 2)), (1, .int (p1))] := hl
  have hf : fX9_addPoint p1 x = (if (x.2.1 2 3) = 0 then (if (x.2.1 2 1) = 0 then ((x, 0)) else (if p1 = 0 then ((x, 0)) else (((sC x 2 3 (1)), 1)))) else ((x, 0))) := rfl
  refine lv_aload_n hx hb dX9_addPoint_0 rfl (lv_at hl 0 rfl) ?_
  refine fx_get (ci := 9) (v := .int (x.2.1 2 3)) hx hb hts i9 hown hK (cwf_C (o := 2) hW hn (by decide)) rfl 3 (by decide) kl19 rfl dX9_addPoint_1 ?_
  refine lv_if_ne (tgt := 18) hx hb dX9_addPoint_4 (by decide) (fun c_4 => ?_) (fun c_4 => ?_)
  · have hf_4 := hf.trans (if_neg c_4)
    refine lv_iconst (v := 0) hx hb dX9_addPoint_18 (by decide) ?_
    exact gx_iret hx hb hr (by decide) hlocks hK hf_4 hW hS dX9_addPoint_19
  · have hf_4 := hf.trans (if_pos c_4)
    refine lv_aload_n hx hb dX9_addPoint_7 rfl (lv_at hl 0 rfl) ?_
    refine fx_get (ci := 9) (v := .int (x.2.1 2 1)) hx hb hts i9 hown hK (cwf_C (o := 2) hW hn (by decide)) rfl 1 (by decide) kl13 rfl dX9_addPoint_8 ?_
    refine lv_if_eq (tgt := 18) hx hb dX9_addPoint_11 (by decide) (fun c_11 => ?_) (fun c_11 => ?_)
    · have hf_11 := hf_4.trans (if_pos c_11)
      refine lv_iconst (v := 0) hx hb dX9_addPoint_18 (by decide) ?_
      exact gx_iret hx hb hr (by decide) hlocks hK hf_11 hW hS dX9_addPoint_19
    · have hf_11 := hf_4.trans (if_neg c_11)
      refine lv_iload_n hx hb dX9_addPoint_14 rfl (lv_at hl 1 rfl) ?_
      refine lv_if_ne (tgt := 20) hx hb dX9_addPoint_15 (by decide) (fun c_15 => ?_) (fun c_15 => ?_)
      · have hf_15 := hf_11.trans (if_neg c_15)
        refine lv_aload_n hx hb dX9_addPoint_20 rfl (lv_at hl 0 rfl) ?_
        refine lv_iconst (v := 1) hx hb dX9_addPoint_21 (by decide) ?_
        refine fx_put (ci := 9) (v := .int (1)) hx hb hts i9 tyX9_ok nmX9 hown hK (cwf_C (o := 2) hW hn (by decide)) (cA_C hn (by decide)) hS rfl 3 (by decide) kl19 rfl (by decide) (by decide) (Nat.le_of_ble_eq_true rfl) dX9_addPoint_22 (fun H locs hat hne hS => ?_)
        have hW : cwf E bb gd ch n (sC x 2 3 (1)) H := cwf_sC (o := 2) (k := 3) (v := 1) hW hn (by decide) hat hne
        refine lv_iconst (v := 1) hx hb dX9_addPoint_25 (by decide) ?_
        exact gx_iret hx hb hr (by decide) hlocks hK hf_15 hW hS dX9_addPoint_26
      · have hf_15 := hf_11.trans (if_pos c_15)
        refine lv_iconst (v := 0) hx hb dX9_addPoint_18 (by decide) ?_
        exact gx_iret hx hb hr (by decide) hlocks hK hf_15 hW hS dX9_addPoint_19
theorem okX9_addPoint {p1 : Int32} {x : FS} (hok : okF x) : okF (fX9_addPoint p1 x).1 := by unfold fX9_addPoint; exact (okF_ite1 (fun c_4 => (okF_ite1 (fun c_11 => hok) (fun c_11 => (okF_ite1 (fun c_15 => hok) (fun c_15 => (okF_sC rfl hok)))))) (fun c_4 => hok))

def fX9_inUnits_L10 (p1 : Int32) : Nat → FS → Int32 → Int32 → Int32
  | 0, x, v2, v3 => 0
  | k9 + 1, x, v2, v3 => if p1 ≤ v3 then (v2) else (fX9_inUnits_L10 p1 k9 x (v2 * 10) (v3 + 1))
def fX9_inUnits (p1 : Int32) (x : FS) : Int32 := fX9_inUnits_L10 p1 (mu32 (x.2.1 2 2) p1 + 1) x (x.2.1 2 0) (x.2.1 2 2)
set_option maxHeartbeats 4000000 in
set_option maxRecDepth 100000 in
theorem mX9_inUnits (l : Launch) (E : eE) (bb : Nat) (gd : Nat → Nat → Int32) (ch : Nat → Nat → Nat → Int32) (n : Nat) (hn : n < 3) (x : FS) (p1 : Int32) : Met l yX9_inUnits wsX9_inUnits ({ frames := 0, cells := 0, slots := 0, locals := 0 }) (gPre E (cwf E bb gd ch n x) [.ref (bb + 21 + 14 * n + 2), .int (p1)]) (gQi E (fun _ : Unit => cwf E bb gd ch n x) ((), fX9_inUnits p1 x) (cA bb)) 0 0 (cA bb) := by
  refine Met.ofW (cc := cX9_inUnits) (maxL := 4) (ret := (some .int)) (by decide) rfl ?_
  intro p e s m args below meth c s₁ B hml hv
  obtain ⟨rfl, hW, hK⟩ := hv
  have hx := B.exec
  have hb := B.bytes
  have hr := B.returns
  have hts := atoms_spec (ws := wsX9_inUnits) B.pre
  have hown : s.vm.findClass RX9 = some m.cls := findClass_of_methodNamed B.named
  have hlocks := B.notSynchronized
  have i9 : ∀ w ∈ wsX90, w ∈ wsX9_inUnits := by decide +kernel
  have kl7 := hts (.fieldLink RX9 7 "DosePump$Typed" "value" "I") (by decide +kernel)
  have kl16 := hts (.fieldLink RX9 16 "DosePump$Typed" "behind" "I") (by decide +kernel)
  have hS : va_S (cA bb) s.heap s.heap [] := va_S.rf
  have hl := lv_entry ([.ref (bb + 21 + 14 * n + 2), .int (p1)]) (n := 4) (Nat.le_of_ble_eq_true rfl)
  rw [lg_entry_eq]
  generalize (lg_sl ([.ref (bb + 21 + 14 * n + 2), .int (p1)]) ++ List.replicate (4 - (lg_sl ([.ref (bb + 21 + 14 * n + 2), .int (p1)])).length) Slot.unset).toArray = ls at hl ⊢
  have hl : lv_has ls 4 [(0, .ref (bb + 21 + 14 * n + 2)), (1, .int (p1))] := hl
  have J10 : ∀ (k8 : Nat) (H : Heap) (locs : List Loc) (ls : Array Slot) (v2 : Int32) (v3 : Int32), cwf E bb gd ch n x H → va_S (cA bb) s.heap H locs → lv_has ls 4 [(1, .int (p1)), (2, .int (v2)), (3, .int (v3))] → mu32 v3 p1 < k8 → fX9_inUnits p1 x = fX9_inUnits_L10 p1 k8 x v2 v3 → W p l e (headSpec wsX9_inUnits { frames := 0, cells := 0, slots := 0, locals := 0 }).room s m ([.ref (bb + 21 + 14 * n + 2), .int (p1)] : List Value).toArray below meth c H locs 0 0 (MQ below (gQi E (fun _ : Unit => cwf E bb gd ch n x) ((), fX9_inUnits p1 x) (cA bb)) ([.ref (bb + 21 + 14 * n + 2), .int (p1)] : List Value).toArray s 0 0 (cA bb)) (F0 m 10 ls []) := by
    intro k8
    induction k8 with
    | zero =>
      intro H locs ls v2 v3 hW hS hl hmu hf
      exact absurd hmu (by omega)
    | succ k9 ih =>
      intro H locs ls v2 v3 hW hS hl hmu hf
      replace hf : fX9_inUnits p1 x = (if p1 ≤ v3 then (v2) else (fX9_inUnits_L10 p1 k9 x (v2 * 10) (v3 + 1))) := hf
      refine lv_iload_n hx hb dX9_inUnits_10 rfl (lv_at hl 2 rfl) ?_
      refine lv_iload_n hx hb dX9_inUnits_11 rfl (lv_at hl 0 rfl) ?_
      refine lv_icmp_ge (tgt := 26) hx hb dX9_inUnits_12 (by decide) (fun c_12 => ?_) (fun c_12 => ?_)
      · have hf_12 := hf.trans (if_pos c_12)
        refine lv_iload_n hx hb dX9_inUnits_26 rfl (lv_at hl 1 rfl) ?_
        exact gx_iret hx hb hr rfl hlocks hK (congrArg (Prod.mk ()) hf_12) (u := ()) (v := v2) hW hS dX9_inUnits_27
      · have hf_12 := hf.trans (if_neg c_12)
        refine lv_iload_n hx hb dX9_inUnits_15 rfl (lv_at hl 1 rfl) ?_
        refine lv_bipush (v := 10) hx hb dX9_inUnits_16 (by decide) ?_
        refine lv_imul hx hb dX9_inUnits_18 ?_
        refine lv_istore_n (lv' := [(2, .int (v2 * 10)), (1, .int (p1)), (3, .int (v3))]) hx hb dX9_inUnits_19 rfl hl (by decide) rfl (fun ls hl => ?_)
        refine lv_iinc (v := v3 + 1) (lv' := [(3, .int (v3 + 1)), (2, .int (v2 * 10)), (1, .int (p1))]) hx hb dX9_inUnits_20 hl (k := 2) rfl (by first | rfl | decide) (by decide) rfl (fun ls hl => ?_)
        refine lv_goto (tgt := 10) hx hb dX9_inUnits_23 (by decide) ?_
        exact ih _ _ _ (v2 * 10) (v3 + 1) hW hS (lv_sub hl [2, 1, 0] rfl) (mu32_step c_12 hmu) hf_12
  have hf : fX9_inUnits p1 x = (fX9_inUnits_L10 p1 (mu32 (x.2.1 2 2) p1 + 1) x (x.2.1 2 0) (x.2.1 2 2)) := rfl
  refine lv_aload_n hx hb dX9_inUnits_0 rfl (lv_at hl 0 rfl) ?_
  refine fx_get (ci := 9) (v := .int (x.2.1 2 0)) hx hb hts i9 hown hK (cwf_C (o := 2) hW hn (by decide)) rfl 0 (by decide) kl7 rfl dX9_inUnits_1 ?_
  refine lv_istore_n (lv' := [(2, .int (x.2.1 2 0)), (0, .ref (bb + 21 + 14 * n + 2)), (1, .int (p1))]) hx hb dX9_inUnits_4 rfl hl (by decide) rfl (fun ls hl => ?_)
  refine lv_aload_n hx hb dX9_inUnits_5 rfl (lv_at hl 1 rfl) ?_
  refine fx_get (ci := 9) (v := .int (x.2.1 2 2)) hx hb hts i9 hown hK (cwf_C (o := 2) hW hn (by decide)) rfl 2 (by decide) kl16 rfl dX9_inUnits_6 ?_
  refine lv_istore_n (lv' := [(3, .int (x.2.1 2 2)), (2, .int (x.2.1 2 0)), (0, .ref (bb + 21 + 14 * n + 2)), (1, .int (p1))]) hx hb dX9_inUnits_9 rfl hl (by decide) rfl (fun ls hl => ?_)
  exact J10 _ _ _ _ (x.2.1 2 0) (x.2.1 2 2) hW hS (lv_sub hl [3, 1, 0] rfl) (Nat.lt_succ_self _) hf
