/-! the pump: notes, alarms, typing -/
def fX10_isTold (gd : Nat → Nat → Int32) (p1 : Int32) (x : FS) : Int32 := if p1 < 0 then (0) else (if (16 : Int32) ≤ p1 then (0) else (if (dRow gd (p1).toNatClampNeg 1) = 0 then (0) else (1)))
set_option maxHeartbeats 4000000 in
set_option maxRecDepth 100000 in
theorem mX10_isTold (l : Launch) (E : eE) (bb : Nat) (gd : Nat → Nat → Int32) (ch : Nat → Nat → Nat → Int32) (n : Nat) (hn : n < 3) (x : FS) (p1 : Int32) : Met l yX10_isTold wsX10_isTold ({ frames := 0, cells := 0, slots := 0, locals := 0 }) (gPre E (cwf E bb gd ch n x) [.ref (bb + 0), .int (p1)]) (gQi E (fun _ : Unit => cwf E bb gd ch n x) ((), fX10_isTold gd p1 x) (cA bb)) 0 0 (cA bb) := by
  refine Met.ofW (cc := cX10_isTold) (maxL := 2) (ret := (some .boolean)) (by decide) rfl ?_
  intro p e s m args below meth c s₁ B hml hv
  obtain ⟨rfl, hW, hK⟩ := hv
  have hx := B.exec
  have hb := B.bytes
  have hr := B.returns
  have hts := atoms_spec (ws := wsX10_isTold) B.pre
  have hown : s.vm.findClass RX10 = some m.cls := findClass_of_methodNamed B.named
  have hlocks := B.notSynchronized
  have i2 : ∀ w ∈ wsX20, w ∈ wsX10_isTold := by decide +kernel
  have i10 : ∀ w ∈ wsX100, w ∈ wsX10_isTold := by decide +kernel
  have kl11 := hts (.fieldLink RX10 11 "DosePump" "drugs" "[LDosePump$Drug;") (by decide +kernel)
  have kl59 := hts (.fieldLink RX10 59 "DosePump$Drug" "told" "Z") (by decide +kernel)
  have hS : va_S (cA bb) s.heap s.heap [] := va_S.rf
  have hl := lv_entry ([.ref (bb + 0), .int (p1)]) (n := 2) (Nat.le_of_ble_eq_true rfl)
  rw [lg_entry_eq]
  generalize (lg_sl ([.ref (bb + 0), .int (p1)]) ++ List.replicate (2 - (lg_sl ([.ref (bb + 0), .int (p1)])).length) Slot.unset).toArray = ls at hl ⊢
  have hl : lv_has ls 2 [(0, .ref (bb + 0)), (1, .int (p1))] := hl
  have hf : fX10_isTold gd p1 x = (if p1 < 0 then (0) else (if (16 : Int32) ≤ p1 then (0) else (if (dRow gd (p1).toNatClampNeg 1) = 0 then (0) else (1)))) := rfl
  refine lv_iload_n hx hb dX10_isTold_0 rfl (lv_at hl 1 rfl) ?_
  refine lv_if_lt (tgt := 26) hx hb dX10_isTold_1 (by decide) (fun c_1 => ?_) (fun c_1 => ?_)
  · have hf_1 := hf.trans (if_pos c_1)
    refine lv_iconst (v := 0) hx hb dX10_isTold_26 (by decide) ?_
    exact gx_iret hx hb hr (by decide) hlocks hK (congrArg (Prod.mk ()) hf_1) (u := ()) (v := 0) hW hS dX10_isTold_27
  · have hf_1 := hf.trans (if_neg c_1)
    refine lv_iload_n hx hb dX10_isTold_4 rfl (lv_at hl 1 rfl) ?_
    refine lv_bipush (v := 16) hx hb dX10_isTold_5 (by decide) ?_
    refine lv_icmp_ge (tgt := 26) hx hb dX10_isTold_7 (by decide) (fun c_7 => ?_) (fun c_7 => ?_)
    · have hf_7 := hf_1.trans (if_pos c_7)
      refine lv_iconst (v := 0) hx hb dX10_isTold_26 (by decide) ?_
      exact gx_iret hx hb hr (by decide) hlocks hK (congrArg (Prod.mk ()) hf_7) (u := ()) (v := 0) hW hS dX10_isTold_27
    · have hf_7 := hf_1.trans (if_neg c_7)
      refine lv_aload_n hx hb dX10_isTold_10 rfl (lv_at hl 0 rfl) ?_
      refine fx_get (ci := 10) (v := .ref (bb + 1)) hx hb hts i10 hown hK (cwf_P (o := 0) hW (by decide)) rfl 0 (by decide) kl11 rfl dX10_isTold_11 ?_
      refine lv_iload_n hx hb dX10_isTold_14 rfl (lv_at hl 1 rfl) ?_
      refine fx_ald (v := .ref (dAd bb (p1).toNatClampNeg)) hx hb hK 3 (cwf_P (o := 1) hW (by decide)) rfl (vi_of16 c_1 c_7) rfl dX10_isTold_15 ?_
      refine fx_get (ci := 2) (v := .int (dRow gd (p1).toNatClampNeg 1)) hx hb hts i2 hown hK (cwf_D hW (vi_22 (vi_of16 c_1 c_7))) rfl 1 (by decide) kl59 rfl dX10_isTold_16 ?_
      refine lv_if_eq (tgt := 26) hx hb dX10_isTold_19 (by decide) (fun c_19 => ?_) (fun c_19 => ?_)
      · have hf_19 := hf_7.trans (if_pos c_19)
        refine lv_iconst (v := 0) hx hb dX10_isTold_26 (by decide) ?_
        exact gx_iret hx hb hr (by decide) hlocks hK (congrArg (Prod.mk ()) hf_19) (u := ()) (v := 0) hW hS dX10_isTold_27
      · have hf_19 := hf_7.trans (if_neg c_19)
        refine lv_iconst (v := 1) hx hb dX10_isTold_22 (by decide) ?_
        refine lv_goto (tgt := 27) hx hb dX10_isTold_23 (by decide) ?_
        exact gx_iret hx hb hr (by decide) hlocks hK (congrArg (Prod.mk ()) hf_19) (u := ()) (v := 1) hW hS dX10_isTold_27

theorem told_in {gd : Nat → Nat → Int32} {p1 : Int32} {x : FS} (h : ¬ fX10_isTold gd p1 x = 0) : vp_in p1 16 := by
  unfold fX10_isTold at h
  split at h
  · exact absurd rfl h
  · rename_i c1
    split at h
    · exact absurd rfl h
    · rename_i c2
      exact vi_of16 c1 c2

def fX10_note (n : Nat) (p1 : Int32) (p2 : Int32) (x : FS) : FS := (fX5_write (x.1 0 3) p1 (nI n) p2 x)
set_option maxHeartbeats 4000000 in
set_option maxRecDepth 100000 in
theorem mX10_note (l : Launch) (E : eE) (bb : Nat) (gd : Nat → Nat → Int32) (ch : Nat → Nat → Nat → Int32) (n : Nat) (hn : n < 3) (x : FS) (p1 : Int32) (p2 : Int32) : Met l yX10_note wsX10_note ({ frames := 1, cells := 0, slots := 0, locals := 28 }) (gPre E (cwf E bb gd ch n x) [.ref (bb + 0), .int (p1), .ref (bb + 21 + 14 * n + 0), .int (p2)]) (gQv E (cwf E bb gd ch n) (fX10_note n p1 p2 x) (cA bb)) 0 0 (cA bb) := by
  refine Met.ofW (cc := cX10_note) (maxL := 4) (ret := none) (by decide) rfl ?_
  intro p e s m args below meth c s₁ B hml hv
  obtain ⟨rfl, hW, hK⟩ := hv
  have hx := B.exec
  have hb := B.bytes
  have hr := B.returns
  have hts := atoms_spec (ws := wsX10_note) B.pre
  have hown : s.vm.findClass RX10 = some m.cls := findClass_of_methodNamed B.named
  have hlocks := B.notSynchronized
  have i1 : ∀ w ∈ wsX10, w ∈ wsX10_note := by decide +kernel
  have i10 : ∀ w ∈ wsX100, w ∈ wsX10_note := by decide +kernel
  have kl24 := hts (.fieldLink RX10 24 "DosePump" "journal" "LDosePump$Journal;") (by decide +kernel)
  have kl148 := hts (.fieldLink RX10 148 "DosePump" "time" "I") (by decide +kernel)
  have kl274 := hts (.fieldLink RX10 274 "DosePump$Channel" "number" "I") (by decide +kernel)
  have hS : va_S (cA bb) s.heap s.heap [] := va_S.rf
  have hl := lv_entry ([.ref (bb + 0), .int (p1), .ref (bb + 21 + 14 * n + 0), .int (p2)]) (n := 4) (Nat.le_of_ble_eq_true rfl)
  rw [lg_entry_eq]
  generalize (lg_sl ([.ref (bb + 0), .int (p1), .ref (bb + 21 + 14 * n + 0), .int (p2)]) ++ List.replicate (4 - (lg_sl ([.ref (bb + 0), .int (p1), .ref (bb + 21 + 14 * n + 0), .int (p2)])).length) Slot.unset).toArray = ls at hl ⊢
  have hl : lv_has ls 4 [(0, .ref (bb + 0)), (1, .int (p1)), (2, .ref (bb + 21 + 14 * n + 0)), (3, .int (p2))] := hl
  have hf : fX10_note n p1 p2 x = ((fX5_write (x.1 0 3) p1 (nI n) p2 x)) := rfl
  refine lv_aload_n hx hb dX10_note_0 rfl (lv_at hl 0 rfl) ?_
  refine fx_get (ci := 10) (v := .ref (bb + 3)) hx hb hts i10 hown hK (cwf_P (o := 0) hW (by decide)) rfl 2 (by decide) kl24 rfl dX10_note_1 ?_
  refine lv_aload_n hx hb dX10_note_4 rfl (lv_at hl 0 rfl) ?_
  refine fx_get (ci := 10) (v := .int (x.1 0 3)) hx hb hts i10 hown hK (cwf_P (o := 0) hW (by decide)) rfl 3 (by decide) kl148 rfl dX10_note_5 ?_
  refine lv_iload_n hx hb dX10_note_8 rfl (lv_at hl 1 rfl) ?_
  refine lv_aload_n hx hb dX10_note_9 rfl (lv_at hl 2 rfl) ?_
  refine fx_get (ci := 1) (v := .int (nI n)) hx hb hts i1 hown hK (cwf_C (o := 0) hW hn (by decide)) rfl 0 (by decide) kl274 rfl dX10_note_10 ?_
  refine lv_iload_n hx hb dX10_note_13 rfl (lv_at hl 3 rfl) ?_
  refine gx_v (rest := []) ⟨hx, hb, hml, hown, hts⟩ (mX5_write l E bb gd ch n hn x (x.1 0 3) p1 (nI n) p2) (cwV 4 hts gX10_note_X5_write rfl rfl rfl (by decide +kernel) ⟨Nat.le_of_ble_eq_true rfl, Nat.le_of_ble_eq_true rfl⟩) hW hK (fx_recv hK (cwf_P (o := 3) hW (by decide)) rfl) rfl hl.1 rfl (Nat.le_of_ble_eq_true rfl) dX10_note_14 ⟨Nat.le_of_ble_eq_true rfl, Nat.le_of_ble_eq_true rfl⟩ hS (fun _ h => h) (fun u1 H locs e1 hW hS => ?_)
  have e1 : fX5_write (x.1 0 3) p1 (nI n) p2 x = u1 := e1
  try rw [e1] at hf
  exact gx_vret hx hb hr hlocks hK hf hW hS dX10_note_17
theorem okX10_note {n : Nat} {p1 : Int32} {p2 : Int32} {x : FS} (hok : okF x) : okF (fX10_note n p1 p2 x) := by unfold fX10_note; exact (okX5_write hok)

def fX10_startRunning (n : Nat) (x : FS) : FS := (fX10_note n 3 (x.2.1 4 1) (sC (sC x 0 6 (7)) 0 9 (0)))
set_option maxHeartbeats 4000000 in
set_option maxRecDepth 100000 in
theorem mX10_startRunning (l : Launch) (E : eE) (bb : Nat) (gd : Nat → Nat → Int32) (ch : Nat → Nat → Nat → Int32) (n : Nat) (hn : n < 3) (x : FS) : Met l yX10_startRunning wsX10_startRunning ({ frames := 2, cells := 0, slots := 0, locals := 51 }) (gPre E (cwf E bb gd ch n x) [.ref (bb + 0), .ref (bb + 21 + 14 * n + 0)]) (gQv E (cwf E bb gd ch n) (fX10_startRunning n x) (cA bb)) 0 0 (cA bb) := by
  refine Met.ofW (cc := cX10_startRunning) (maxL := 2) (ret := none) (by decide) rfl ?_
  intro p e s m args below meth c s₁ B hml hv
  obtain ⟨rfl, hW, hK⟩ := hv
  have hx := B.exec
  have hb := B.bytes
  have hr := B.returns
  have hts := atoms_spec (ws := wsX10_startRunning) B.pre
  have hown : s.vm.findClass RX10 = some m.cls := findClass_of_methodNamed B.named
  have hlocks := B.notSynchronized
  have i1 : ∀ w ∈ wsX10, w ∈ wsX10_startRunning := by decide +kernel
  have i7 : ∀ w ∈ wsX70, w ∈ wsX10_startRunning := by decide +kernel
  have kl141 := hts (.fieldLink RX10 141 "DosePump$Channel" "phase" "I") (by decide +kernel)
  have kl163 := hts (.fieldLink RX10 163 "DosePump$Channel" "program" "LDosePump$Program;") (by decide +kernel)
  have kl167 := hts (.fieldLink RX10 167 "DosePump$Program" "rate" "I") (by decide +kernel)
  have kl210 := hts (.fieldLink RX10 210 "DosePump$Channel" "waits" "Z") (by decide +kernel)
  have hS : va_S (cA bb) s.heap s.heap [] := va_S.rf
  have hl := lv_entry ([.ref (bb + 0), .ref (bb + 21 + 14 * n + 0)]) (n := 2) (Nat.le_of_ble_eq_true rfl)
  rw [lg_entry_eq]
  generalize (lg_sl ([.ref (bb + 0), .ref (bb + 21 + 14 * n + 0)]) ++ List.replicate (2 - (lg_sl ([.ref (bb + 0), .ref (bb + 21 + 14 * n + 0)])).length) Slot.unset).toArray = ls at hl ⊢
  have hl : lv_has ls 2 [(0, .ref (bb + 0)), (1, .ref (bb + 21 + 14 * n + 0))] := hl
  have hf : fX10_startRunning n x = ((fX10_note n 3 (x.2.1 4 1) (sC (sC x 0 6 (7)) 0 9 (0)))) := rfl
  refine lv_aload_n hx hb dX10_startRunning_0 rfl (lv_at hl 1 rfl) ?_
  refine lv_bipush (v := 7) hx hb dX10_startRunning_1 (by decide) ?_
  refine fx_put (ci := 1) (v := .int (7)) hx hb hts i1 tyX1_ok nmX1 hown hK (cwf_C (o := 0) hW hn (by decide)) (cA_C hn (by decide)) hS rfl 6 (by decide) kl141 rfl rfl rfl (Nat.le_of_ble_eq_true rfl) dX10_startRunning_3 (fun H locs hat hne hS => ?_)
  have hW : cwf E bb gd ch n (sC x 0 6 (7)) H := cwf_sC (o := 0) (k := 6) (v := 7) hW hn (by decide) hat hne
  refine lv_aload_n hx hb dX10_startRunning_6 rfl (lv_at hl 1 rfl) ?_
  refine lv_iconst (v := 0) hx hb dX10_startRunning_7 (by decide) ?_
  refine fx_put (ci := 1) (v := .int (0)) hx hb hts i1 tyX1_ok nmX1 hown hK (cwf_C (o := 0) hW hn (by decide)) (cA_C hn (by decide)) hS rfl 9 (by decide) kl210 rfl (by decide) (by decide) (Nat.le_of_ble_eq_true rfl) dX10_startRunning_8 (fun H locs hat hne hS => ?_)
  have hW : cwf E bb gd ch n (sC (sC x 0 6 (7)) 0 9 (0)) H := cwf_sC (o := 0) (k := 9) (v := 0) hW hn (by decide) hat hne
  refine lv_aload_n hx hb dX10_startRunning_11 rfl (lv_at hl 0 rfl) ?_
  refine lv_iconst (v := 3) hx hb dX10_startRunning_12 (by decide) ?_
  refine lv_aload_n hx hb dX10_startRunning_13 rfl (lv_at hl 1 rfl) ?_
  refine lv_aload_n hx hb dX10_startRunning_14 rfl (lv_at hl 1 rfl) ?_
  refine fx_get (ci := 1) (v := .ref (bb + 21 + 14 * n + 4)) hx hb hts i1 hown hK (cwf_C (o := 0) hW hn (by decide)) rfl 2 (by decide) kl163 rfl dX10_startRunning_15 ?_
  refine fx_get (ci := 7) (v := .int (x.2.1 4 1)) hx hb hts i7 hown hK (cwf_C (o := 4) hW hn (by decide)) rfl 1 (by decide) kl167 rfl dX10_startRunning_18 ?_
  refine gx_v (rest := []) ⟨hx, hb, hml, hown, hts⟩ (mX10_note l E bb gd ch n hn (sC (sC x 0 6 (7)) 0 9 (0)) 3 (x.2.1 4 1)) (cwV 3 hts gX10_startRunning_X10_note rfl rfl rfl (by decide +kernel) ⟨Nat.le_of_ble_eq_true rfl, Nat.le_of_ble_eq_true rfl⟩) hW hK (fx_recv hK (cwf_P (o := 0) hW (by decide)) rfl) rfl hl.1 rfl (Nat.le_of_ble_eq_true rfl) dX10_startRunning_21 ⟨Nat.le_of_ble_eq_true rfl, Nat.le_of_ble_eq_true rfl⟩ hS (fun _ h => h) (fun u1 H locs e1 hW hS => ?_)
  have e1 : fX10_note n 3 (x.2.1 4 1) (sC (sC x 0 6 (7)) 0 9 (0)) = u1 := e1
  try rw [e1] at hf
  exact gx_vret hx hb hr hlocks hK hf hW hS dX10_startRunning_24
theorem okX10_startRunning {n : Nat} {x : FS} (hok : okF x) : okF (fX10_startRunning n x) := by unfold fX10_startRunning; exact (okX10_note (okF_sC rfl (okF_sC rfl hok)))

def fX10_dropEntry (n : Nat) (x : FS) : FS := (fX10_note n 9 (x.2.1 0 6) (fX1_goTo ((fX3_forgetDrug n x).2.1 1 3) (fX3_forgetDrug n x)))
set_option maxHeartbeats 4000000 in
set_option maxRecDepth 100000 in
theorem mX10_dropEntry (l : Launch) (E : eE) (bb : Nat) (gd : Nat → Nat → Int32) (ch : Nat → Nat → Nat → Int32) (n : Nat) (hn : n < 3) (x : FS) : Met l yX10_dropEntry wsX10_dropEntry ({ frames := 2, cells := 0, slots := 0, locals := 51 }) (gPre E (cwf E bb gd ch n x) [.ref (bb + 0), .ref (bb + 21 + 14 * n + 0)]) (gQv E (cwf E bb gd ch n) (fX10_dropEntry n x) (cA bb)) 0 0 (cA bb) := by
  refine Met.ofW (cc := cX10_dropEntry) (maxL := 3) (ret := none) (by decide) rfl ?_
  intro p e s m args below meth c s₁ B hml hv
  obtain ⟨rfl, hW, hK⟩ := hv
  have hx := B.exec
  have hb := B.bytes
  have hr := B.returns
  have hts := atoms_spec (ws := wsX10_dropEntry) B.pre
  have hown : s.vm.findClass RX10 = some m.cls := findClass_of_methodNamed B.named
  have hlocks := B.notSynchronized
  have i1 : ∀ w ∈ wsX10, w ∈ wsX10_dropEntry := by decide +kernel
  have i3 : ∀ w ∈ wsX30, w ∈ wsX10_dropEntry := by decide +kernel
  have kl106 := hts (.fieldLink RX10 106 "DosePump$Channel" "entry" "LDosePump$Entry;") (by decide +kernel)
  have kl141 := hts (.fieldLink RX10 141 "DosePump$Channel" "phase" "I") (by decide +kernel)
  have kl371 := hts (.fieldLink RX10 371 "DosePump$Entry" "cameFrom" "I") (by decide +kernel)
  have hS : va_S (cA bb) s.heap s.heap [] := va_S.rf
  have hl := lv_entry ([.ref (bb + 0), .ref (bb + 21 + 14 * n + 0)]) (n := 3) (Nat.le_of_ble_eq_true rfl)
  rw [lg_entry_eq]
  generalize (lg_sl ([.ref (bb + 0), .ref (bb + 21 + 14 * n + 0)]) ++ List.replicate (3 - (lg_sl ([.ref (bb + 0), .ref (bb + 21 + 14 * n + 0)])).length) Slot.unset).toArray = ls at hl ⊢
  have hl : lv_has ls 3 [(0, .ref (bb + 0)), (1, .ref (bb + 21 + 14 * n + 0))] := hl
  have hf : fX10_dropEntry n x = ((fX10_note n 9 (x.2.1 0 6) (fX1_goTo ((fX3_forgetDrug n x).2.1 1 3) (fX3_forgetDrug n x)))) := rfl
  refine lv_aload_n hx hb dX10_dropEntry_0 rfl (lv_at hl 1 rfl) ?_
  refine fx_get (ci := 1) (v := .int (x.2.1 0 6)) hx hb hts i1 hown hK (cwf_C (o := 0) hW hn (by decide)) rfl 6 (by decide) kl141 rfl dX10_dropEntry_1 ?_
  refine lv_istore_n (lv' := [(2, .int (x.2.1 0 6)), (0, .ref (bb + 0)), (1, .ref (bb + 21 + 14 * n + 0))]) hx hb dX10_dropEntry_4 rfl hl (by decide) rfl (fun ls hl => ?_)
  refine lv_aload_n hx hb dX10_dropEntry_5 rfl (lv_at hl 2 rfl) ?_
  refine fx_get (ci := 1) (v := .ref (bb + 21 + 14 * n + 1)) hx hb hts i1 hown hK (cwf_C (o := 0) hW hn (by decide)) rfl 1 (by decide) kl106 rfl dX10_dropEntry_6 ?_
  refine gx_v (rest := []) ⟨hx, hb, hml, hown, hts⟩ (mX3_forgetDrug l E bb gd ch n hn x) (cwV 0 hts gX10_dropEntry_X3_forgetDrug rfl rfl rfl (by decide +kernel) ⟨Nat.le_of_ble_eq_true rfl, Nat.le_of_ble_eq_true rfl⟩) hW hK (fx_recv hK (cwf_C (o := 1) hW hn (by decide)) rfl) rfl hl.1 rfl (Nat.le_of_ble_eq_true rfl) dX10_dropEntry_9 ⟨Nat.le_of_ble_eq_true rfl, Nat.le_of_ble_eq_true rfl⟩ hS (fun _ h => h) (fun u1 H locs e1 hW hS => ?_)
  have e1 : fX3_forgetDrug n x = u1 := e1
  try rw [e1] at hf
  refine lv_aload_n hx hb dX10_dropEntry_12 rfl (lv_at hl 2 rfl) ?_
  refine lv_aload_n hx hb dX10_dropEntry_13 rfl (lv_at hl 2 rfl) ?_
  refine fx_get (ci := 1) (v := .ref (bb + 21 + 14 * n + 1)) hx hb hts i1 hown hK (cwf_C (o := 0) hW hn (by decide)) rfl 1 (by decide) kl106 rfl dX10_dropEntry_14 ?_
  refine fx_get (ci := 3) (v := .int (u1.2.1 1 3)) hx hb hts i3 hown hK (cwf_C (o := 1) hW hn (by decide)) rfl 3 (by decide) kl371 rfl dX10_dropEntry_17 ?_
  refine gx_v (rest := []) ⟨hx, hb, hml, hown, hts⟩ (mX1_goTo l E bb gd ch n hn u1 (u1.2.1 1 3)) (cwV 1 hts gX10_dropEntry_X1_goTo rfl rfl rfl (by decide +kernel) ⟨Nat.le_of_ble_eq_true rfl, Nat.le_of_ble_eq_true rfl⟩) hW hK (fx_recv hK (cwf_C (o := 0) hW hn (by decide)) rfl) rfl hl.1 rfl (Nat.le_of_ble_eq_true rfl) dX10_dropEntry_20 ⟨Nat.le_of_ble_eq_true rfl, Nat.le_of_ble_eq_true rfl⟩ hS (fun _ h => h) (fun u2 H locs e2 hW hS => ?_)
  have e2 : fX1_goTo (u1.2.1 1 3) u1 = u2 := e2
  try rw [e2] at hf
  refine lv_aload_n hx hb dX10_dropEntry_23 rfl (lv_at hl 1 rfl) ?_
  refine lv_bipush (v := 9) hx hb dX10_dropEntry_24 (by decide) ?_
  refine lv_aload_n hx hb dX10_dropEntry_26 rfl (lv_at hl 2 rfl) ?_
  refine lv_iload_n hx hb dX10_dropEntry_27 rfl (lv_at hl 0 rfl) ?_
  refine gx_v (rest := []) ⟨hx, hb, hml, hown, hts⟩ (mX10_note l E bb gd ch n hn u2 9 (x.2.1 0 6)) (cwV 3 hts gX10_dropEntry_X10_note rfl rfl rfl (by decide +kernel) ⟨Nat.le_of_ble_eq_true rfl, Nat.le_of_ble_eq_true rfl⟩) hW hK (fx_recv hK (cwf_P (o := 0) hW (by decide)) rfl) rfl hl.1 rfl (Nat.le_of_ble_eq_true rfl) dX10_dropEntry_28 ⟨Nat.le_of_ble_eq_true rfl, Nat.le_of_ble_eq_true rfl⟩ hS (fun _ h => h) (fun u3 H locs e3 hW hS => ?_)
  have e3 : fX10_note n 9 (x.2.1 0 6) u2 = u3 := e3
  try rw [e3] at hf
  exact gx_vret hx hb hr hlocks hK hf hW hS dX10_dropEntry_31
theorem okX10_dropEntry {n : Nat} {x : FS} (hn : n < 3) (hok : okF x) : okF (fX10_dropEntry n x) := by unfold fX10_dropEntry; exact (okX10_note (okX1_goTo (okX3_forgetDrug hn hok)))

def fX10_latch_J46 (n : Nat) (p1 : Int32) (y : FS) : FS := if (4 : Int32) < p1 then (y) else (if (y.2.1 0 6) = 7 then ((fX1_hold y)) else (y))
def fX10_latch (n : Nat) (p1 : Int32) (x : FS) : FS := if (fX1_hasAlarm p1 x) = 0 then (fX10_latch_J46 n p1 (fX5_write (x.1 0 3) 7 (nI n) p1 (sP (sC x 0 7 ((x.2.1 0 7) ||| ((1 : Int32) <<< (p1 &&& 31)))) 0 7 (x.1 0 3)))) else (fX10_latch_J46 n p1 x)
set_option maxHeartbeats 4000000 in
set_option maxRecDepth 100000 in
theorem mX10_latch (l : Launch) (E : eE) (bb : Nat) (gd : Nat → Nat → Int32) (ch : Nat → Nat → Nat → Int32) (n : Nat) (hn : n < 3) (x : FS) (p1 : Int32) : Met l yX10_latch wsX10_latch ({ frames := 1, cells := 0, slots := 0, locals := 28 }) (gPre E (cwf E bb gd ch n x) [.ref (bb + 0), .ref (bb + 21 + 14 * n + 0), .int (p1)]) (gQv E (cwf E bb gd ch n) (fX10_latch n p1 x) (cA bb)) 0 0 (cA bb) := by
  refine Met.ofW (cc := cX10_latch) (maxL := 3) (ret := none) (by decide) rfl ?_
  intro p e s m args below meth c s₁ B hml hv
  obtain ⟨rfl, hW, hK⟩ := hv
  have hx := B.exec
  have hb := B.bytes
  have hr := B.returns
  have hts := atoms_spec (ws := wsX10_latch) B.pre
  have hown : s.vm.findClass RX10 = some m.cls := findClass_of_methodNamed B.named
  have hlocks := B.notSynchronized
  have i1 : ∀ w ∈ wsX10, w ∈ wsX10_latch := by decide +kernel
  have i10 : ∀ w ∈ wsX100, w ∈ wsX10_latch := by decide +kernel
  have kl24 := hts (.fieldLink RX10 24 "DosePump" "journal" "LDosePump$Journal;") (by decide +kernel)
  have kl141 := hts (.fieldLink RX10 141 "DosePump$Channel" "phase" "I") (by decide +kernel)
  have kl148 := hts (.fieldLink RX10 148 "DosePump" "time" "I") (by decide +kernel)
  have kl160 := hts (.fieldLink RX10 160 "DosePump$Channel" "alarms" "I") (by decide +kernel)
  have kl274 := hts (.fieldLink RX10 274 "DosePump$Channel" "number" "I") (by decide +kernel)
  have kl307 := hts (.fieldLink RX10 307 "DosePump" "silentUntil" "I") (by decide +kernel)
  have hS : va_S (cA bb) s.heap s.heap [] := va_S.rf
  have hl := lv_entry ([.ref (bb + 0), .ref (bb + 21 + 14 * n + 0), .int (p1)]) (n := 3) (Nat.le_of_ble_eq_true rfl)
  rw [lg_entry_eq]
  generalize (lg_sl ([.ref (bb + 0), .ref (bb + 21 + 14 * n + 0), .int (p1)]) ++ List.replicate (3 - (lg_sl ([.ref (bb + 0), .ref (bb + 21 + 14 * n + 0), .int (p1)])).length) Slot.unset).toArray = ls at hl ⊢
  have hl : lv_has ls 3 [(0, .ref (bb + 0)), (1, .ref (bb + 21 + 14 * n + 0)), (2, .int (p1))] := hl
  have J46 : ∀ (H : Heap) (locs : List Loc) (ls : Array Slot) (y : FS), cwf E bb gd ch n y H → va_S (cA bb) s.heap H locs → lv_has ls 3 [(1, .ref (bb + 21 + 14 * n + 0)), (2, .int (p1))] → fX10_latch n p1 x = fX10_latch_J46 n p1 y → W p l e (headSpec wsX10_latch { frames := 1, cells := 0, slots := 0, locals := 28 }).room s m ([.ref (bb + 0), .ref (bb + 21 + 14 * n + 0), .int (p1)] : List Value).toArray below meth c H locs 0 0 (MQ below (gQv E (cwf E bb gd ch n) (fX10_latch n p1 x) (cA bb)) ([.ref (bb + 0), .ref (bb + 21 + 14 * n + 0), .int (p1)] : List Value).toArray s 0 0 (cA bb)) (F0 m 46 ls []) := by
    intro H locs ls y hW hS hl hf
    replace hf : fX10_latch n p1 x = (if (4 : Int32) < p1 then (y) else (if (y.2.1 0 6) = 7 then ((fX1_hold y)) else (y))) := hf
    refine lv_iload_n hx hb dX10_latch_46 rfl (lv_at hl 1 rfl) ?_
    refine lv_iconst (v := 4) hx hb dX10_latch_47 (by decide) ?_
    refine lv_icmp_gt (tgt := 64) hx hb dX10_latch_48 (by decide) (fun c_48 => ?_) (fun c_48 => ?_)
    · have hf_48 := hf.trans (if_pos c_48)
      exact gx_vret hx hb hr hlocks hK hf_48 hW hS dX10_latch_64
    · have hf_48 := hf.trans (if_neg c_48)
      refine lv_aload_n hx hb dX10_latch_51 rfl (lv_at hl 0 rfl) ?_
      refine fx_get (ci := 1) (v := .int (y.2.1 0 6)) hx hb hts i1 hown hK (cwf_C (o := 0) hW hn (by decide)) rfl 6 (by decide) kl141 rfl dX10_latch_52 ?_
      refine lv_bipush (v := 7) hx hb dX10_latch_55 (by decide) ?_
      refine lv_icmp_ne (tgt := 64) hx hb dX10_latch_57 (by decide) (fun c_57 => ?_) (fun c_57 => ?_)
      · have hf_57 := hf_48.trans (if_neg c_57)
        exact gx_vret hx hb hr hlocks hK hf_57 hW hS dX10_latch_64
      · have hf_57 := hf_48.trans (if_pos c_57)
        refine lv_aload_n hx hb dX10_latch_60 rfl (lv_at hl 0 rfl) ?_
        refine gx_v (rest := []) ⟨hx, hb, hml, hown, hts⟩ (mX1_hold l E bb gd ch n hn y) (cwV 0 hts gX10_latch_X1_hold rfl rfl rfl (by decide +kernel) ⟨Nat.le_of_ble_eq_true rfl, Nat.le_of_ble_eq_true rfl⟩) hW hK (fx_recv hK (cwf_C (o := 0) hW hn (by decide)) rfl) rfl hl.1 rfl (Nat.le_of_ble_eq_true rfl) dX10_latch_61 ⟨Nat.le_of_ble_eq_true rfl, Nat.le_of_ble_eq_true rfl⟩ hS (fun _ h => h) (fun u3 H locs e3 hW hS => ?_)
        have e3 : fX1_hold y = u3 := e3
        try rw [e3] at hf_57
        exact gx_vret hx hb hr hlocks hK hf_57 hW hS dX10_latch_64
  have hf : fX10_latch n p1 x = (if (fX1_hasAlarm p1 x) = 0 then (fX10_latch_J46 n p1 (fX5_write (x.1 0 3) 7 (nI n) p1 (sP (sC x 0 7 ((x.2.1 0 7) ||| ((1 : Int32) <<< (p1 &&& 31)))) 0 7 (x.1 0 3)))) else (fX10_latch_J46 n p1 x)) := rfl
  refine lv_aload_n hx hb dX10_latch_0 rfl (lv_at hl 1 rfl) ?_
  refine lv_iload_n hx hb dX10_latch_1 rfl (lv_at hl 2 rfl) ?_
  refine gx_i (rest := []) ⟨hx, hb, hml, hown, hts⟩ (mX1_hasAlarm l E bb gd ch n hn x p1) (cwV 1 hts gX10_latch_X1_hasAlarm rfl rfl rfl (by decide +kernel) ⟨Nat.le_of_ble_eq_true rfl, Nat.le_of_ble_eq_true rfl⟩) hW hK (fx_recv hK (cwf_C (o := 0) hW hn (by decide)) rfl) rfl hl.1 rfl (Nat.le_of_ble_eq_true rfl) dX10_latch_2 ⟨Nat.le_of_ble_eq_true rfl, Nat.le_of_ble_eq_true rfl⟩ hS (fun _ h => h) (fun _ r1 H locs _ e1 hW hS => ?_)
  have e1 : fX1_hasAlarm p1 x = r1 := e1
  try rw [e1] at hf
  refine lv_if_ne (tgt := 46) hx hb dX10_latch_5 (by decide) (fun c_5 => ?_) (fun c_5 => ?_)
  · have hf_5 := hf.trans (if_neg c_5)
    exact J46 _ _ _ x hW hS (lv_sub hl [1, 2] rfl) hf_5
  · have hf_5 := hf.trans (if_pos c_5)
    refine lv_aload_n hx hb dX10_latch_8 rfl (lv_at hl 1 rfl) ?_
    refine lv_dup hx hb dX10_latch_9 rfl ?_
    refine fx_get (ci := 1) (v := .int (x.2.1 0 7)) hx hb hts i1 hown hK (cwf_C (o := 0) hW hn (by decide)) rfl 7 (by decide) kl160 rfl dX10_latch_10 ?_
    refine lv_iconst (v := 1) hx hb dX10_latch_13 (by decide) ?_
    refine lv_iload_n hx hb dX10_latch_14 rfl (lv_at hl 2 rfl) ?_
    refine lv_ishl hx hb dX10_latch_15 ?_
    refine lv_ior hx hb dX10_latch_16 ?_
    refine fx_put (ci := 1) (v := .int ((x.2.1 0 7) ||| ((1 : Int32) <<< (p1 &&& 31)))) hx hb hts i1 tyX1_ok nmX1 hown hK (cwf_C (o := 0) hW hn (by decide)) (cA_C hn (by decide)) hS rfl 7 (by decide) kl160 rfl rfl rfl (Nat.le_of_ble_eq_true rfl) dX10_latch_17 (fun H locs hat hne hS => ?_)
    have hW : cwf E bb gd ch n (sC x 0 7 ((x.2.1 0 7) ||| ((1 : Int32) <<< (p1 &&& 31)))) H := cwf_sC (o := 0) (k := 7) (v := (x.2.1 0 7) ||| ((1 : Int32) <<< (p1 &&& 31))) hW hn (by decide) hat hne
    refine lv_aload_n hx hb dX10_latch_20 rfl (lv_at hl 0 rfl) ?_
    refine lv_aload_n hx hb dX10_latch_21 rfl (lv_at hl 0 rfl) ?_
    refine fx_get (ci := 10) (v := .int (x.1 0 3)) hx hb hts i10 hown hK (cwf_P (o := 0) hW (by decide)) rfl 3 (by decide) kl148 rfl dX10_latch_22 ?_
    refine fx_put (ci := 10) (v := .int (x.1 0 3)) hx hb hts i10 tyX10_ok nmX10 hown hK (cwf_P (o := 0) hW (by decide)) (cA_P (by decide)) hS rfl 7 (by decide) kl307 rfl rfl rfl (Nat.le_of_ble_eq_true rfl) dX10_latch_25 (fun H locs hat hne hS => ?_)
    have hW : cwf E bb gd ch n (sP (sC x 0 7 ((x.2.1 0 7) ||| ((1 : Int32) <<< (p1 &&& 31)))) 0 7 (x.1 0 3)) H := cwf_sP (o := 0) (k := 7) (v := x.1 0 3) hW (by decide) hat hne
    refine lv_aload_n hx hb dX10_latch_28 rfl (lv_at hl 0 rfl) ?_
    refine fx_get (ci := 10) (v := .ref (bb + 3)) hx hb hts i10 hown hK (cwf_P (o := 0) hW (by decide)) rfl 2 (by decide) kl24 rfl dX10_latch_29 ?_
    refine lv_aload_n hx hb dX10_latch_32 rfl (lv_at hl 0 rfl) ?_
    refine fx_get (ci := 10) (v := .int (x.1 0 3)) hx hb hts i10 hown hK (cwf_P (o := 0) hW (by decide)) rfl 3 (by decide) kl148 rfl dX10_latch_33 ?_
    refine lv_bipush (v := 7) hx hb dX10_latch_36 (by decide) ?_
    refine lv_aload_n hx hb dX10_latch_38 rfl (lv_at hl 1 rfl) ?_
    refine fx_get (ci := 1) (v := .int (nI n)) hx hb hts i1 hown hK (cwf_C (o := 0) hW hn (by decide)) rfl 0 (by decide) kl274 rfl dX10_latch_39 ?_
    refine lv_iload_n hx hb dX10_latch_42 rfl (lv_at hl 2 rfl) ?_
    refine gx_v (rest := []) ⟨hx, hb, hml, hown, hts⟩ (mX5_write l E bb gd ch n hn (sP (sC x 0 7 ((x.2.1 0 7) ||| ((1 : Int32) <<< (p1 &&& 31)))) 0 7 (x.1 0 3)) (x.1 0 3) 7 (nI n) p1) (cwV 4 hts gX10_latch_X5_write rfl rfl rfl (by decide +kernel) ⟨Nat.le_of_ble_eq_true rfl, Nat.le_of_ble_eq_true rfl⟩) hW hK (fx_recv hK (cwf_P (o := 3) hW (by decide)) rfl) rfl hl.1 rfl (Nat.le_of_ble_eq_true rfl) dX10_latch_43 ⟨Nat.le_of_ble_eq_true rfl, Nat.le_of_ble_eq_true rfl⟩ hS (fun _ h => h) (fun u2 H locs e2 hW hS => ?_)
    have e2 : fX5_write (x.1 0 3) 7 (nI n) p1 (sP (sC x 0 7 ((x.2.1 0 7) ||| ((1 : Int32) <<< (p1 &&& 31)))) 0 7 (x.1 0 3)) = u2 := e2
    try rw [e2] at hf_5
    exact J46 _ _ _ u2 hW hS (lv_sub hl [1, 2] rfl) hf_5
theorem okX10_latch_J46 {n : Nat} {p1 : Int32} {y : FS} (hok : okF y) : okF (fX10_latch_J46 n p1 y) := by unfold fX10_latch_J46; exact (okF_ite (fun c_48 => hok) (fun c_48 => (okF_ite (fun c_57 => (okX1_hold hok)) (fun c_57 => hok))))
theorem okX10_latch {n : Nat} {p1 : Int32} {x : FS} (hok : okF x) : okF (fX10_latch n p1 x) := by unfold fX10_latch; exact (okF_ite (fun c_5 => (okX10_latch_J46 (okX5_write (okF_sP (okF_sC rfl hok))))) (fun c_5 => (okX10_latch_J46 hok)))

def fX10_canBeTaken (gd : Nat → Nat → Int32) (p1 : Int32) (x : FS) : Int32 := if p1 = 0 then (if (x.2.1 9 5) = 0 then (1) else (0)) else if p1 = 1 then (1) else if p1 = 2 then (if (x.2.1 9 6) = 0 then (1) else (0)) else if p1 = 3 then (if (x.1 0 4) < 200 then (0) else (1)) else if p1 = 4 then (if (dRow gd (x.2.1 4 0).toNatClampNeg 8) ≤ (x.2.1 12 2) then (0) else (1)) else if p1 = 5 then (1) else if p1 = 6 then (if (x.1 0 5) = 0 then (if (x.1 0 4) < 3600 then (0) else (1)) else (1)) else (1)
set_option maxHeartbeats 4000000 in
set_option maxRecDepth 100000 in
theorem mX10_canBeTaken (l : Launch) (E : eE) (bb : Nat) (gd : Nat → Nat → Int32) (ch : Nat → Nat → Nat → Int32) (n : Nat) (hn : n < 3) (x : FS) (p1 : Int32) (hok : okF x) : Met l yX10_canBeTaken wsX10_canBeTaken ({ frames := 0, cells := 0, slots := 0, locals := 0 }) (gPre E (cwf E bb gd ch n x) [.ref (bb + 0), .ref (bb + 21 + 14 * n + 0), .int (p1)]) (gQi E (fun _ : Unit => cwf E bb gd ch n x) ((), fX10_canBeTaken gd p1 x) (cA bb)) 0 0 (cA bb) := by
  refine Met.ofW (cc := cX10_canBeTaken) (maxL := 3) (ret := (some .boolean)) (by decide) rfl ?_
  intro p e s m args below meth c s₁ B hml hv
  obtain ⟨rfl, hW, hK⟩ := hv
  have hx := B.exec
  have hb := B.bytes
  have hr := B.returns
  have hts := atoms_spec (ws := wsX10_canBeTaken) B.pre
  have hown : s.vm.findClass RX10 = some m.cls := findClass_of_methodNamed B.named
  have hlocks := B.notSynchronized
  have i1 : ∀ w ∈ wsX10, w ∈ wsX10_canBeTaken := by decide +kernel
  have i2 : ∀ w ∈ wsX20, w ∈ wsX10_canBeTaken := by decide +kernel
  have i4 : ∀ w ∈ wsX40, w ∈ wsX10_canBeTaken := by decide +kernel
  have i6 : ∀ w ∈ wsX60, w ∈ wsX10_canBeTaken := by decide +kernel
  have i7 : ∀ w ∈ wsX70, w ∈ wsX10_canBeTaken := by decide +kernel
  have i10 : ∀ w ∈ wsX100, w ∈ wsX10_canBeTaken := by decide +kernel
  have kl29 := hts (.fieldLink RX10 29 "DosePump" "charge" "I") (by decide +kernel)
  have kl33 := hts (.fieldLink RX10 33 "DosePump" "onMains" "Z") (by decide +kernel)
  have kl125 := hts (.fieldLink RX10 125 "DosePump$Channel" "line" "LDosePump$Line;") (by decide +kernel)
  have kl135 := hts (.fieldLink RX10 135 "DosePump$Line" "air" "Z") (by decide +kernel)
  have kl138 := hts (.fieldLink RX10 138 "DosePump$Line" "open" "Z") (by decide +kernel)
  have kl163 := hts (.fieldLink RX10 163 "DosePump$Channel" "program" "LDosePump$Program;") (by decide +kernel)
  have kl188 := hts (.fieldLink RX10 188 "DosePump$Channel" "hour" "LDosePump$HourOfStrokes;") (by decide +kernel)
  have kl192 := hts (.fieldLink RX10 192 "DosePump$HourOfStrokes" "sum" "I") (by decide +kernel)
  have kl216 := hts (.fieldLink RX10 216 "DosePump$Program" "drug" "LDosePump$Drug;") (by decide +kernel)
  have kl404 := hts (.fieldLink RX10 404 "DosePump$Drug" "limit" "I") (by decide +kernel)
  have hS : va_S (cA bb) s.heap s.heap [] := va_S.rf
  have hl := lv_entry ([.ref (bb + 0), .ref (bb + 21 + 14 * n + 0), .int (p1)]) (n := 3) (Nat.le_of_ble_eq_true rfl)
  rw [lg_entry_eq]
  generalize (lg_sl ([.ref (bb + 0), .ref (bb + 21 + 14 * n + 0), .int (p1)]) ++ List.replicate (3 - (lg_sl ([.ref (bb + 0), .ref (bb + 21 + 14 * n + 0), .int (p1)])).length) Slot.unset).toArray = ls at hl ⊢
  have hl : lv_has ls 3 [(0, .ref (bb + 0)), (1, .ref (bb + 21 + 14 * n + 0)), (2, .int (p1))] := hl
  have hf : fX10_canBeTaken gd p1 x = (if p1 = 0 then (if (x.2.1 9 5) = 0 then (1) else (0)) else if p1 = 1 then (1) else if p1 = 2 then (if (x.2.1 9 6) = 0 then (1) else (0)) else if p1 = 3 then (if (x.1 0 4) < 200 then (0) else (1)) else if p1 = 4 then (if (dRow gd (x.2.1 4 0).toNatClampNeg 8) ≤ (x.2.1 12 2) then (0) else (1)) else if p1 = 5 then (1) else if p1 = 6 then (if (x.1 0 5) = 0 then (if (x.1 0 4) < 3600 then (0) else (1)) else (1)) else (1)) := rfl
  refine lv_iload_n hx hb dX10_canBeTaken_0 rfl (lv_at hl 2 rfl) ?_
  by_cases c_1_0 : p1 = 0
  · have hf_1_0 := hf.trans (if_pos c_1_0)
    refine gx_tab (tgt := 44) hx hb c_1_0 dX10_canBeTaken_1 (by decide) (by decide) rfl (by decide) ?_
    refine lv_aload_n hx hb dX10_canBeTaken_44 rfl (lv_at hl 1 rfl) ?_
    refine fx_get (ci := 1) (v := .ref (bb + 21 + 14 * n + 9)) hx hb hts i1 hown hK (cwf_C (o := 0) hW hn (by decide)) rfl 4 (by decide) kl125 rfl dX10_canBeTaken_45 ?_
    refine fx_get (ci := 6) (v := .int (x.2.1 9 5)) hx hb hts i6 hown hK (cwf_C (o := 9) hW hn (by decide)) rfl 5 (by decide) kl135 rfl dX10_canBeTaken_48 ?_
    refine lv_if_ne (tgt := 58) hx hb dX10_canBeTaken_51 (by decide) (fun c_51 => ?_) (fun c_51 => ?_)
    · have hf_51 := hf_1_0.trans (if_neg c_51)
      refine lv_iconst (v := 0) hx hb dX10_canBeTaken_58 (by decide) ?_
      exact gx_iret hx hb hr (by decide) hlocks hK (congrArg (Prod.mk ()) hf_51) (u := ()) (v := 0) hW hS dX10_canBeTaken_59
    · have hf_51 := hf_1_0.trans (if_pos c_51)
      refine lv_iconst (v := 1) hx hb dX10_canBeTaken_54 (by decide) ?_
      refine lv_goto (tgt := 59) hx hb dX10_canBeTaken_55 (by decide) ?_
      exact gx_iret hx hb hr (by decide) hlocks hK (congrArg (Prod.mk ()) hf_51) (u := ()) (v := 1) hW hS dX10_canBeTaken_59
  have hn_1_0 := hf.trans (if_neg c_1_0)
  by_cases c_1_1 : p1 = 1
  · have hf_1_1 := hn_1_0.trans (if_pos c_1_1)
    refine gx_tab (tgt := 141) hx hb c_1_1 dX10_canBeTaken_1 (by decide) (by decide) rfl (by decide) ?_
    refine lv_iconst (v := 1) hx hb dX10_canBeTaken_141 (by decide) ?_
    exact gx_iret hx hb hr (by decide) hlocks hK (congrArg (Prod.mk ()) hf_1_1) (u := ()) (v := 1) hW hS dX10_canBeTaken_142
  have hn_1_1 := hn_1_0.trans (if_neg c_1_1)
  by_cases c_1_2 : p1 = 2
  · have hf_1_2 := hn_1_1.trans (if_pos c_1_2)
    refine gx_tab (tgt := 60) hx hb c_1_2 dX10_canBeTaken_1 (by decide) (by decide) rfl (by decide) ?_
    refine lv_aload_n hx hb dX10_canBeTaken_60 rfl (lv_at hl 1 rfl) ?_
    refine fx_get (ci := 1) (v := .ref (bb + 21 + 14 * n + 9)) hx hb hts i1 hown hK (cwf_C (o := 0) hW hn (by decide)) rfl 4 (by decide) kl125 rfl dX10_canBeTaken_61 ?_
    refine fx_get (ci := 6) (v := .int (x.2.1 9 6)) hx hb hts i6 hown hK (cwf_C (o := 9) hW hn (by decide)) rfl 6 (by decide) kl138 rfl dX10_canBeTaken_64 ?_
    refine lv_if_ne (tgt := 74) hx hb dX10_canBeTaken_67 (by decide) (fun c_67 => ?_) (fun c_67 => ?_)
    · have hf_67 := hf_1_2.trans (if_neg c_67)
      refine lv_iconst (v := 0) hx hb dX10_canBeTaken_74 (by decide) ?_
      exact gx_iret hx hb hr (by decide) hlocks hK (congrArg (Prod.mk ()) hf_67) (u := ()) (v := 0) hW hS dX10_canBeTaken_75
    · have hf_67 := hf_1_2.trans (if_pos c_67)
      refine lv_iconst (v := 1) hx hb dX10_canBeTaken_70 (by decide) ?_
      refine lv_goto (tgt := 75) hx hb dX10_canBeTaken_71 (by decide) ?_
      exact gx_iret hx hb hr (by decide) hlocks hK (congrArg (Prod.mk ()) hf_67) (u := ()) (v := 1) hW hS dX10_canBeTaken_75
  have hn_1_2 := hn_1_1.trans (if_neg c_1_2)
  by_cases c_1_3 : p1 = 3
  · have hf_1_3 := hn_1_2.trans (if_pos c_1_3)
    refine gx_tab (tgt := 76) hx hb c_1_3 dX10_canBeTaken_1 (by decide) (by decide) rfl (by decide) ?_
    refine lv_aload_n hx hb dX10_canBeTaken_76 rfl (lv_at hl 0 rfl) ?_
    refine fx_get (ci := 10) (v := .int (x.1 0 4)) hx hb hts i10 hown hK (cwf_P (o := 0) hW (by decide)) rfl 4 (by decide) kl29 rfl dX10_canBeTaken_77 ?_
    refine lv_sipush (v := 200) hx hb dX10_canBeTaken_80 (by decide) ?_
    refine lv_icmp_lt (tgt := 90) hx hb dX10_canBeTaken_83 (by decide) (fun c_83 => ?_) (fun c_83 => ?_)
    · have hf_83 := hf_1_3.trans (if_pos c_83)
      refine lv_iconst (v := 0) hx hb dX10_canBeTaken_90 (by decide) ?_
      exact gx_iret hx hb hr (by decide) hlocks hK (congrArg (Prod.mk ()) hf_83) (u := ()) (v := 0) hW hS dX10_canBeTaken_91
    · have hf_83 := hf_1_3.trans (if_neg c_83)
      refine lv_iconst (v := 1) hx hb dX10_canBeTaken_86 (by decide) ?_
      refine lv_goto (tgt := 91) hx hb dX10_canBeTaken_87 (by decide) ?_
      exact gx_iret hx hb hr (by decide) hlocks hK (congrArg (Prod.mk ()) hf_83) (u := ()) (v := 1) hW hS dX10_canBeTaken_91
  have hn_1_3 := hn_1_2.trans (if_neg c_1_3)
  by_cases c_1_4 : p1 = 4
  · have hf_1_4 := hn_1_3.trans (if_pos c_1_4)
    refine gx_tab (tgt := 92) hx hb c_1_4 dX10_canBeTaken_1 (by decide) (by decide) rfl (by decide) ?_
    refine lv_aload_n hx hb dX10_canBeTaken_92 rfl (lv_at hl 1 rfl) ?_
    refine fx_get (ci := 1) (v := .ref (bb + 21 + 14 * n + 12)) hx hb hts i1 hown hK (cwf_C (o := 0) hW hn (by decide)) rfl 5 (by decide) kl188 rfl dX10_canBeTaken_93 ?_
    refine fx_get (ci := 4) (v := .int (x.2.1 12 2)) hx hb hts i4 hown hK (cwf_C (o := 12) hW hn (by decide)) rfl 2 (by decide) kl192 rfl dX10_canBeTaken_96 ?_
    refine lv_aload_n hx hb dX10_canBeTaken_99 rfl (lv_at hl 1 rfl) ?_
    refine fx_get (ci := 1) (v := .ref (bb + 21 + 14 * n + 4)) hx hb hts i1 hown hK (cwf_C (o := 0) hW hn (by decide)) rfl 2 (by decide) kl163 rfl dX10_canBeTaken_100 ?_
    refine fx_get (ci := 7) (v := .ref (dAd bb (x.2.1 4 0).toNatClampNeg)) hx hb hts i7 hown hK (cwf_C (o := 4) hW hn (by decide)) rfl 0 (by decide) kl216 rfl dX10_canBeTaken_103 ?_
    refine fx_get (ci := 2) (v := .int (dRow gd (x.2.1 4 0).toNatClampNeg 8)) hx hb hts i2 hown hK (cwf_D hW hok.2.2.2.2.2.2) rfl 8 (by decide) kl404 rfl dX10_canBeTaken_106 ?_
    refine lv_icmp_ge (tgt := 116) hx hb dX10_canBeTaken_109 (by decide) (fun c_109 => ?_) (fun c_109 => ?_)
    · have hf_109 := hf_1_4.trans (if_pos c_109)
      refine lv_iconst (v := 0) hx hb dX10_canBeTaken_116 (by decide) ?_
      exact gx_iret hx hb hr (by decide) hlocks hK (congrArg (Prod.mk ()) hf_109) (u := ()) (v := 0) hW hS dX10_canBeTaken_117
    · have hf_109 := hf_1_4.trans (if_neg c_109)
      refine lv_iconst (v := 1) hx hb dX10_canBeTaken_112 (by decide) ?_
      refine lv_goto (tgt := 117) hx hb dX10_canBeTaken_113 (by decide) ?_
      exact gx_iret hx hb hr (by decide) hlocks hK (congrArg (Prod.mk ()) hf_109) (u := ()) (v := 1) hW hS dX10_canBeTaken_117
  have hn_1_4 := hn_1_3.trans (if_neg c_1_4)
  by_cases c_1_5 : p1 = 5
  · have hf_1_5 := hn_1_4.trans (if_pos c_1_5)
    refine gx_tab (tgt := 141) hx hb c_1_5 dX10_canBeTaken_1 (by decide) (by decide) rfl (by decide) ?_
    refine lv_iconst (v := 1) hx hb dX10_canBeTaken_141 (by decide) ?_
    exact gx_iret hx hb hr (by decide) hlocks hK (congrArg (Prod.mk ()) hf_1_5) (u := ()) (v := 1) hW hS dX10_canBeTaken_142
  have hn_1_5 := hn_1_4.trans (if_neg c_1_5)
  by_cases c_1_6 : p1 = 6
  · have hf_1_6 := hn_1_5.trans (if_pos c_1_6)
    refine gx_tab (tgt := 118) hx hb c_1_6 dX10_canBeTaken_1 (by decide) (by decide) rfl (by decide) ?_
    refine lv_aload_n hx hb dX10_canBeTaken_118 rfl (lv_at hl 0 rfl) ?_
    refine fx_get (ci := 10) (v := .int (x.1 0 5)) hx hb hts i10 hown hK (cwf_P (o := 0) hW (by decide)) rfl 5 (by decide) kl33 rfl dX10_canBeTaken_119 ?_
    refine lv_if_ne (tgt := 135) hx hb dX10_canBeTaken_122 (by decide) (fun c_122 => ?_) (fun c_122 => ?_)
    · have hf_122 := hf_1_6.trans (if_neg c_122)
      refine lv_iconst (v := 1) hx hb dX10_canBeTaken_135 (by decide) ?_
      refine lv_goto (tgt := 140) hx hb dX10_canBeTaken_136 (by decide) ?_
      exact gx_iret hx hb hr (by decide) hlocks hK (congrArg (Prod.mk ()) hf_122) (u := ()) (v := 1) hW hS dX10_canBeTaken_140
    · have hf_122 := hf_1_6.trans (if_pos c_122)
      refine lv_aload_n hx hb dX10_canBeTaken_125 rfl (lv_at hl 0 rfl) ?_
      refine fx_get (ci := 10) (v := .int (x.1 0 4)) hx hb hts i10 hown hK (cwf_P (o := 0) hW (by decide)) rfl 4 (by decide) kl29 rfl dX10_canBeTaken_126 ?_
      refine lv_sipush (v := 3600) hx hb dX10_canBeTaken_129 (by decide) ?_
      refine lv_icmp_lt (tgt := 139) hx hb dX10_canBeTaken_132 (by decide) (fun c_132 => ?_) (fun c_132 => ?_)
      · have hf_132 := hf_122.trans (if_pos c_132)
        refine lv_iconst (v := 0) hx hb dX10_canBeTaken_139 (by decide) ?_
        exact gx_iret hx hb hr (by decide) hlocks hK (congrArg (Prod.mk ()) hf_132) (u := ()) (v := 0) hW hS dX10_canBeTaken_140
      · have hf_132 := hf_122.trans (if_neg c_132)
        refine lv_iconst (v := 1) hx hb dX10_canBeTaken_135 (by decide) ?_
        refine lv_goto (tgt := 140) hx hb dX10_canBeTaken_136 (by decide) ?_
        exact gx_iret hx hb hr (by decide) hlocks hK (congrArg (Prod.mk ()) hf_132) (u := ()) (v := 1) hW hS dX10_canBeTaken_140
  have hn_1_6 := hn_1_5.trans (if_neg c_1_6)
  refine lv_tableOut (tgt := 141) hx hb dX10_canBeTaken_1 (by have e0 := sw_ne (k := 0) 0 rfl c_1_0; have e1 := sw_ne (k := 1) 1 rfl c_1_1; have e2 := sw_ne (k := 2) 2 rfl c_1_2; have e3 := sw_ne (k := 3) 3 rfl c_1_3; have e4 := sw_ne (k := 4) 4 rfl c_1_4; have e5 := sw_ne (k := 5) 5 rfl c_1_5; have e6 := sw_ne (k := 6) 6 rfl c_1_6; omega) (by decide) ?_
  refine lv_iconst (v := 1) hx hb dX10_canBeTaken_141 (by decide) ?_
  exact gx_iret hx hb hr (by decide) hlocks hK (congrArg (Prod.mk ()) hn_1_6) (u := ()) (v := 1) hW hS dX10_canBeTaken_142

def fX10_takeAlarm_J25 (n : Nat) (p1 : Int32) (y : FS) : FS := (fX10_note n 8 p1 y)
def fX10_takeAlarm (n : Nat) (p1 : Int32) (x : FS) : FS := if p1 = 0 then (fX10_takeAlarm_J25 n p1 (fX6_forgetAir (sC x 0 7 ((x.2.1 0 7) &&& (((1 : Int32) <<< (p1 &&& 31)) ^^^ (-1)))))) else (fX10_takeAlarm_J25 n p1 (sC x 0 7 ((x.2.1 0 7) &&& (((1 : Int32) <<< (p1 &&& 31)) ^^^ (-1)))))
set_option maxHeartbeats 4000000 in
set_option maxRecDepth 100000 in
theorem mX10_takeAlarm (l : Launch) (E : eE) (bb : Nat) (gd : Nat → Nat → Int32) (ch : Nat → Nat → Nat → Int32) (n : Nat) (hn : n < 3) (x : FS) (p1 : Int32) : Met l yX10_takeAlarm wsX10_takeAlarm ({ frames := 2, cells := 0, slots := 0, locals := 51 }) (gPre E (cwf E bb gd ch n x) [.ref (bb + 0), .ref (bb + 21 + 14 * n + 0), .int (p1)]) (gQv E (cwf E bb gd ch n) (fX10_takeAlarm n p1 x) (cA bb)) 0 0 (cA bb) := by
  refine Met.ofW (cc := cX10_takeAlarm) (maxL := 3) (ret := none) (by decide) rfl ?_
  intro p e s m args below meth c s₁ B hml hv
  obtain ⟨rfl, hW, hK⟩ := hv
  have hx := B.exec
  have hb := B.bytes
  have hr := B.returns
  have hts := atoms_spec (ws := wsX10_takeAlarm) B.pre
  have hown : s.vm.findClass RX10 = some m.cls := findClass_of_methodNamed B.named
  have hlocks := B.notSynchronized
  have i1 : ∀ w ∈ wsX10, w ∈ wsX10_takeAlarm := by decide +kernel
  have kl125 := hts (.fieldLink RX10 125 "DosePump$Channel" "line" "LDosePump$Line;") (by decide +kernel)
  have kl160 := hts (.fieldLink RX10 160 "DosePump$Channel" "alarms" "I") (by decide +kernel)
  have hS : va_S (cA bb) s.heap s.heap [] := va_S.rf
  have hl := lv_entry ([.ref (bb + 0), .ref (bb + 21 + 14 * n + 0), .int (p1)]) (n := 3) (Nat.le_of_ble_eq_true rfl)
  rw [lg_entry_eq]
  generalize (lg_sl ([.ref (bb + 0), .ref (bb + 21 + 14 * n + 0), .int (p1)]) ++ List.replicate (3 - (lg_sl ([.ref (bb + 0), .ref (bb + 21 + 14 * n + 0), .int (p1)])).length) Slot.unset).toArray = ls at hl ⊢
  have hl : lv_has ls 3 [(0, .ref (bb + 0)), (1, .ref (bb + 21 + 14 * n + 0)), (2, .int (p1))] := hl
  have J25 : ∀ (H : Heap) (locs : List Loc) (ls : Array Slot) (y : FS), cwf E bb gd ch n y H → va_S (cA bb) s.heap H locs → lv_has ls 3 [(0, .ref (bb + 0)), (1, .ref (bb + 21 + 14 * n + 0)), (2, .int (p1))] → fX10_takeAlarm n p1 x = fX10_takeAlarm_J25 n p1 y → W p l e (headSpec wsX10_takeAlarm { frames := 2, cells := 0, slots := 0, locals := 51 }).room s m ([.ref (bb + 0), .ref (bb + 21 + 14 * n + 0), .int (p1)] : List Value).toArray below meth c H locs 0 0 (MQ below (gQv E (cwf E bb gd ch n) (fX10_takeAlarm n p1 x) (cA bb)) ([.ref (bb + 0), .ref (bb + 21 + 14 * n + 0), .int (p1)] : List Value).toArray s 0 0 (cA bb)) (F0 m 25 ls []) := by
    intro H locs ls y hW hS hl hf
    replace hf : fX10_takeAlarm n p1 x = ((fX10_note n 8 p1 y)) := hf
    refine lv_aload_n hx hb dX10_takeAlarm_25 rfl (lv_at hl 0 rfl) ?_
    refine lv_bipush (v := 8) hx hb dX10_takeAlarm_26 (by decide) ?_
    refine lv_aload_n hx hb dX10_takeAlarm_28 rfl (lv_at hl 1 rfl) ?_
    refine lv_iload_n hx hb dX10_takeAlarm_29 rfl (lv_at hl 2 rfl) ?_
    refine gx_v (rest := []) ⟨hx, hb, hml, hown, hts⟩ (mX10_note l E bb gd ch n hn y 8 p1) (cwV 3 hts gX10_takeAlarm_X10_note rfl rfl rfl (by decide +kernel) ⟨Nat.le_of_ble_eq_true rfl, Nat.le_of_ble_eq_true rfl⟩) hW hK (fx_recv hK (cwf_P (o := 0) hW (by decide)) rfl) rfl hl.1 rfl (Nat.le_of_ble_eq_true rfl) dX10_takeAlarm_30 ⟨Nat.le_of_ble_eq_true rfl, Nat.le_of_ble_eq_true rfl⟩ hS (fun _ h => h) (fun u2 H locs e2 hW hS => ?_)
    have e2 : fX10_note n 8 p1 y = u2 := e2
    try rw [e2] at hf
    exact gx_vret hx hb hr hlocks hK hf hW hS dX10_takeAlarm_33
  have hf : fX10_takeAlarm n p1 x = (if p1 = 0 then (fX10_takeAlarm_J25 n p1 (fX6_forgetAir (sC x 0 7 ((x.2.1 0 7) &&& (((1 : Int32) <<< (p1 &&& 31)) ^^^ (-1)))))) else (fX10_takeAlarm_J25 n p1 (sC x 0 7 ((x.2.1 0 7) &&& (((1 : Int32) <<< (p1 &&& 31)) ^^^ (-1)))))) := rfl
  refine lv_aload_n hx hb dX10_takeAlarm_0 rfl (lv_at hl 1 rfl) ?_
  refine lv_dup hx hb dX10_takeAlarm_1 rfl ?_
  refine fx_get (ci := 1) (v := .int (x.2.1 0 7)) hx hb hts i1 hown hK (cwf_C (o := 0) hW hn (by decide)) rfl 7 (by decide) kl160 rfl dX10_takeAlarm_2 ?_
  refine lv_iconst (v := 1) hx hb dX10_takeAlarm_5 (by decide) ?_
  refine lv_iload_n hx hb dX10_takeAlarm_6 rfl (lv_at hl 2 rfl) ?_
  refine lv_ishl hx hb dX10_takeAlarm_7 ?_
  refine lv_iconst (v := -1) hx hb dX10_takeAlarm_8 (by decide) ?_
  refine lv_ixor hx hb dX10_takeAlarm_9 ?_
  refine lv_iand hx hb dX10_takeAlarm_10 ?_
  refine fx_put (ci := 1) (v := .int ((x.2.1 0 7) &&& (((1 : Int32) <<< (p1 &&& 31)) ^^^ (-1)))) hx hb hts i1 tyX1_ok nmX1 hown hK (cwf_C (o := 0) hW hn (by decide)) (cA_C hn (by decide)) hS rfl 7 (by decide) kl160 rfl rfl rfl (Nat.le_of_ble_eq_true rfl) dX10_takeAlarm_11 (fun H locs hat hne hS => ?_)
  have hW : cwf E bb gd ch n (sC x 0 7 ((x.2.1 0 7) &&& (((1 : Int32) <<< (p1 &&& 31)) ^^^ (-1)))) H := cwf_sC (o := 0) (k := 7) (v := (x.2.1 0 7) &&& (((1 : Int32) <<< (p1 &&& 31)) ^^^ (-1))) hW hn (by decide) hat hne
  refine lv_iload_n hx hb dX10_takeAlarm_14 rfl (lv_at hl 2 rfl) ?_
  refine lv_if_ne (tgt := 25) hx hb dX10_takeAlarm_15 (by decide) (fun c_15 => ?_) (fun c_15 => ?_)
  · have hf_15 := hf.trans (if_neg c_15)
    exact J25 _ _ _ (sC x 0 7 ((x.2.1 0 7) &&& (((1 : Int32) <<< (p1 &&& 31)) ^^^ (-1)))) hW hS (lv_sub hl [0, 1, 2] rfl) hf_15
  · have hf_15 := hf.trans (if_pos c_15)
    refine lv_aload_n hx hb dX10_takeAlarm_18 rfl (lv_at hl 1 rfl) ?_
    refine fx_get (ci := 1) (v := .ref (bb + 21 + 14 * n + 9)) hx hb hts i1 hown hK (cwf_C (o := 0) hW hn (by decide)) rfl 4 (by decide) kl125 rfl dX10_takeAlarm_19 ?_
    refine gx_v (rest := []) ⟨hx, hb, hml, hown, hts⟩ (mX6_forgetAir l E bb gd ch n hn (sC x 0 7 ((x.2.1 0 7) &&& (((1 : Int32) <<< (p1 &&& 31)) ^^^ (-1))))) (cwV 0 hts gX10_takeAlarm_X6_forgetAir rfl rfl rfl (by decide +kernel) ⟨Nat.le_of_ble_eq_true rfl, Nat.le_of_ble_eq_true rfl⟩) hW hK (fx_recv hK (cwf_C (o := 9) hW hn (by decide)) rfl) rfl hl.1 rfl (Nat.le_of_ble_eq_true rfl) dX10_takeAlarm_22 ⟨Nat.le_of_ble_eq_true rfl, Nat.le_of_ble_eq_true rfl⟩ hS (fun _ h => h) (fun u1 H locs e1 hW hS => ?_)
    have e1 : fX6_forgetAir (sC x 0 7 ((x.2.1 0 7) &&& (((1 : Int32) <<< (p1 &&& 31)) ^^^ (-1)))) = u1 := e1
    try rw [e1] at hf_15
    exact J25 _ _ _ u1 hW hS (lv_sub hl [0, 1, 2] rfl) hf_15
theorem okX10_takeAlarm_J25 {n : Nat} {p1 : Int32} {y : FS} (hok : okF y) : okF (fX10_takeAlarm_J25 n p1 y) := by unfold fX10_takeAlarm_J25; exact (okX10_note hok)
theorem okX10_takeAlarm {n : Nat} {p1 : Int32} {x : FS} (hok : okF x) : okF (fX10_takeAlarm n p1 x) := by unfold fX10_takeAlarm; exact (okF_ite (fun c_15 => (okX10_takeAlarm_J25 (okX6_forgetAir (okF_sC rfl hok)))) (fun c_15 => (okX10_takeAlarm_J25 (okF_sC rfl hok))))

def fX10_pressAck_L4 (gd : Nat → Nat → Int32) (n : Nat) : Nat → FS → Int32 → Int32 → FS × Int32
  | 0, y, v2, v3 => (y, 0)
  | k9 + 1, y, v2, v3 => if (6 : Int32) < v3 then (if v2 = 0 then ((y, -1)) else ((y, y.2.1 0 6))) else (if (fX1_hasAlarm v3 y) = 0 then (fX10_pressAck_L4 gd n k9 y v2 (v3 + 1)) else (if (fX10_canBeTaken gd v3 y) = 0 then (fX10_pressAck_L4 gd n k9 y v2 (v3 + 1)) else (fX10_pressAck_L4 gd n k9 (fX10_takeAlarm n v3 y) 1 (v3 + 1))))
def fX10_pressAck (gd : Nat → Nat → Int32) (n : Nat) (x : FS) : FS × Int32 := fX10_pressAck_L4 gd n (mu32 0 7 + 1) x 0 0
set_option maxHeartbeats 4000000 in
set_option maxRecDepth 100000 in
theorem mX10_pressAck (l : Launch) (E : eE) (bb : Nat) (gd : Nat → Nat → Int32) (ch : Nat → Nat → Nat → Int32) (n : Nat) (hn : n < 3) (x : FS) (hok : okF x) : Met l yX10_pressAck wsX10_pressAck ({ frames := 3, cells := 0, slots := 0, locals := 73 }) (gPre E (cwf E bb gd ch n x) [.ref (bb + 0), .ref (bb + 21 + 14 * n + 0)]) (gQi E (cwf E bb gd ch n) (fX10_pressAck gd n x) (cA bb)) 0 0 (cA bb) := by
  refine Met.ofW (cc := cX10_pressAck) (maxL := 4) (ret := (some .int)) (by decide) rfl ?_
  intro p e s m args below meth c s₁ B hml hv
  obtain ⟨rfl, hW, hK⟩ := hv
  have hx := B.exec
  have hb := B.bytes
  have hr := B.returns
  have hts := atoms_spec (ws := wsX10_pressAck) B.pre
  have hown : s.vm.findClass RX10 = some m.cls := findClass_of_methodNamed B.named
  have hlocks := B.notSynchronized
  have i1 : ∀ w ∈ wsX10, w ∈ wsX10_pressAck := by decide +kernel
  have kl141 := hts (.fieldLink RX10 141 "DosePump$Channel" "phase" "I") (by decide +kernel)
  have hS : va_S (cA bb) s.heap s.heap [] := va_S.rf
  have hl := lv_entry ([.ref (bb + 0), .ref (bb + 21 + 14 * n + 0)]) (n := 4) (Nat.le_of_ble_eq_true rfl)
  rw [lg_entry_eq]
  generalize (lg_sl ([.ref (bb + 0), .ref (bb + 21 + 14 * n + 0)]) ++ List.replicate (4 - (lg_sl ([.ref (bb + 0), .ref (bb + 21 + 14 * n + 0)])).length) Slot.unset).toArray = ls at hl ⊢
  have hl : lv_has ls 4 [(0, .ref (bb + 0)), (1, .ref (bb + 21 + 14 * n + 0))] := hl
  have J4 : ∀ (k8 : Nat) (H : Heap) (locs : List Loc) (ls : Array Slot) (y : FS) (v2 : Int32) (v3 : Int32), cwf E bb gd ch n y H → va_S (cA bb) s.heap H locs → lv_has ls 4 [(0, .ref (bb + 0)), (1, .ref (bb + 21 + 14 * n + 0)), (2, .int (v2)), (3, .int (v3))] → okF y → mu32 v3 7 < k8 → fX10_pressAck gd n x = fX10_pressAck_L4 gd n k8 y v2 v3 → W p l e (headSpec wsX10_pressAck { frames := 3, cells := 0, slots := 0, locals := 73 }).room s m ([.ref (bb + 0), .ref (bb + 21 + 14 * n + 0)] : List Value).toArray below meth c H locs 0 0 (MQ below (gQi E (cwf E bb gd ch n) (fX10_pressAck gd n x) (cA bb)) ([.ref (bb + 0), .ref (bb + 21 + 14 * n + 0)] : List Value).toArray s 0 0 (cA bb)) (F0 m 4 ls []) := by
    intro k8
    induction k8 with
    | zero =>
      intro H locs ls y v2 v3 hW hS hl hok hmu hf
      exact absurd hmu (by omega)
    | succ k9 ih =>
      intro H locs ls y v2 v3 hW hS hl hok hmu hf
      replace hf : fX10_pressAck gd n x = (if (6 : Int32) < v3 then (if v2 = 0 then ((y, -1)) else ((y, y.2.1 0 6))) else (if (fX1_hasAlarm v3 y) = 0 then (fX10_pressAck_L4 gd n k9 y v2 (v3 + 1)) else (if (fX10_canBeTaken gd v3 y) = 0 then (fX10_pressAck_L4 gd n k9 y v2 (v3 + 1)) else (fX10_pressAck_L4 gd n k9 (fX10_takeAlarm n v3 y) 1 (v3 + 1))))) := hf
      refine lv_iload_n hx hb dX10_pressAck_4 rfl (lv_at hl 3 rfl) ?_
      refine lv_bipush (v := 6) hx hb dX10_pressAck_5 (by decide) ?_
      refine lv_icmp_gt (tgt := 41) hx hb dX10_pressAck_7 (by decide) (fun c_7 => ?_) (fun c_7 => ?_)
      · have hf_7 := hf.trans (if_pos c_7)
        refine lv_iload_n hx hb dX10_pressAck_41 rfl (lv_at hl 2 rfl) ?_
        refine lv_if_eq (tgt := 52) hx hb dX10_pressAck_42 (by decide) (fun c_42 => ?_) (fun c_42 => ?_)
        · have hf_42 := hf_7.trans (if_pos c_42)
          refine lv_iconst (v := -1) hx hb dX10_pressAck_52 (by decide) ?_
          exact gx_iret hx hb hr rfl hlocks hK hf_42 hW hS dX10_pressAck_53
        · have hf_42 := hf_7.trans (if_neg c_42)
          refine lv_aload_n hx hb dX10_pressAck_45 rfl (lv_at hl 1 rfl) ?_
          refine fx_get (ci := 1) (v := .int (y.2.1 0 6)) hx hb hts i1 hown hK (cwf_C (o := 0) hW hn (by decide)) rfl 6 (by decide) kl141 rfl dX10_pressAck_46 ?_
          refine lv_goto (tgt := 53) hx hb dX10_pressAck_49 (by decide) ?_
          exact gx_iret hx hb hr rfl hlocks hK hf_42 hW hS dX10_pressAck_53
      · have hf_7 := hf.trans (if_neg c_7)
        refine lv_aload_n hx hb dX10_pressAck_10 rfl (lv_at hl 1 rfl) ?_
        refine lv_iload_n hx hb dX10_pressAck_11 rfl (lv_at hl 3 rfl) ?_
        refine gx_i (rest := []) ⟨hx, hb, hml, hown, hts⟩ (mX1_hasAlarm l E bb gd ch n hn y v3) (cwV 1 hts gX10_pressAck_X1_hasAlarm rfl rfl rfl (by decide +kernel) ⟨Nat.le_of_ble_eq_true rfl, Nat.le_of_ble_eq_true rfl⟩) hW hK (fx_recv hK (cwf_C (o := 0) hW hn (by decide)) rfl) rfl hl.1 rfl (Nat.le_of_ble_eq_true rfl) dX10_pressAck_12 ⟨Nat.le_of_ble_eq_true rfl, Nat.le_of_ble_eq_true rfl⟩ hS (fun _ h => h) (fun _ r1 H locs _ e1 hW hS => ?_)
        have e1 : fX1_hasAlarm v3 y = r1 := e1
        try rw [e1] at hf_7
        refine lv_if_eq (tgt := 35) hx hb dX10_pressAck_15 (by decide) (fun c_15 => ?_) (fun c_15 => ?_)
        · have hf_15 := hf_7.trans (if_pos c_15)
          refine lv_iinc (v := v3 + 1) (lv' := [(3, .int (v3 + 1)), (0, .ref (bb + 0)), (1, .ref (bb + 21 + 14 * n + 0)), (2, .int (v2))]) hx hb dX10_pressAck_35 hl (k := 3) rfl (by first | rfl | decide) (by decide) rfl (fun ls hl => ?_)
          refine lv_goto (tgt := 4) hx hb dX10_pressAck_38 (by decide) ?_
          exact ih _ _ _ y v2 (v3 + 1) hW hS (lv_sub hl [1, 2, 3, 0] rfl) hok (mu32_step (ge7 c_7) hmu) hf_15
        · have hf_15 := hf_7.trans (if_neg c_15)
          refine lv_aload_n hx hb dX10_pressAck_18 rfl (lv_at hl 0 rfl) ?_
          refine lv_aload_n hx hb dX10_pressAck_19 rfl (lv_at hl 1 rfl) ?_
          refine lv_iload_n hx hb dX10_pressAck_20 rfl (lv_at hl 3 rfl) ?_
          refine gx_i (rest := []) ⟨hx, hb, hml, hown, hts⟩ (mX10_canBeTaken l E bb gd ch n hn y v3 hok) (cwV 2 hts gX10_pressAck_X10_canBeTaken rfl rfl rfl (by decide +kernel) ⟨Nat.le_of_ble_eq_true rfl, Nat.le_of_ble_eq_true rfl⟩) hW hK (fx_recv hK (cwf_P (o := 0) hW (by decide)) rfl) rfl hl.1 rfl (Nat.le_of_ble_eq_true rfl) dX10_pressAck_21 ⟨Nat.le_of_ble_eq_true rfl, Nat.le_of_ble_eq_true rfl⟩ hS (fun _ h => h) (fun _ r2 H locs _ e2 hW hS => ?_)
          have e2 : fX10_canBeTaken gd v3 y = r2 := e2
          try rw [e2] at hf_15
          refine lv_if_eq (tgt := 35) hx hb dX10_pressAck_24 (by decide) (fun c_24 => ?_) (fun c_24 => ?_)
          · have hf_24 := hf_15.trans (if_pos c_24)
            refine lv_iinc (v := v3 + 1) (lv' := [(3, .int (v3 + 1)), (0, .ref (bb + 0)), (1, .ref (bb + 21 + 14 * n + 0)), (2, .int (v2))]) hx hb dX10_pressAck_35 hl (k := 3) rfl (by first | rfl | decide) (by decide) rfl (fun ls hl => ?_)
            refine lv_goto (tgt := 4) hx hb dX10_pressAck_38 (by decide) ?_
            exact ih _ _ _ y v2 (v3 + 1) hW hS (lv_sub hl [1, 2, 3, 0] rfl) hok (mu32_step (ge7 c_7) hmu) hf_24
          · have hf_24 := hf_15.trans (if_neg c_24)
            refine lv_aload_n hx hb dX10_pressAck_27 rfl (lv_at hl 0 rfl) ?_
            refine lv_aload_n hx hb dX10_pressAck_28 rfl (lv_at hl 1 rfl) ?_
            refine lv_iload_n hx hb dX10_pressAck_29 rfl (lv_at hl 3 rfl) ?_
            refine gx_v (rest := []) ⟨hx, hb, hml, hown, hts⟩ (mX10_takeAlarm l E bb gd ch n hn y v3) (cwV 2 hts gX10_pressAck_X10_takeAlarm rfl rfl rfl (by decide +kernel) ⟨Nat.le_of_ble_eq_true rfl, Nat.le_of_ble_eq_true rfl⟩) hW hK (fx_recv hK (cwf_P (o := 0) hW (by decide)) rfl) rfl hl.1 rfl (Nat.le_of_ble_eq_true rfl) dX10_pressAck_30 ⟨Nat.le_of_ble_eq_true rfl, Nat.le_of_ble_eq_true rfl⟩ hS (fun _ h => h) (fun u3 H locs e3 hW hS => ?_)
            have e3 : fX10_takeAlarm n v3 y = u3 := e3
            try rw [e3] at hf_24
            have hk3 : okF u3 := e3 ▸ (okX10_takeAlarm hok)
            refine lv_iconst (v := 1) hx hb dX10_pressAck_33 (by decide) ?_
            refine lv_istore_n (lv' := [(2, .int (1)), (0, .ref (bb + 0)), (1, .ref (bb + 21 + 14 * n + 0)), (3, .int (v3))]) hx hb dX10_pressAck_34 rfl hl (by decide) rfl (fun ls hl => ?_)
            refine lv_iinc (v := v3 + 1) (lv' := [(3, .int (v3 + 1)), (2, .int (1)), (0, .ref (bb + 0)), (1, .ref (bb + 21 + 14 * n + 0))]) hx hb dX10_pressAck_35 hl (k := 3) rfl (by first | rfl | decide) (by decide) rfl (fun ls hl => ?_)
            refine lv_goto (tgt := 4) hx hb dX10_pressAck_38 (by decide) ?_
            exact ih _ _ _ u3 1 (v3 + 1) hW hS (lv_sub hl [2, 3, 1, 0] rfl) hk3 (mu32_step (ge7 c_7) hmu) hf_24
  have hf : fX10_pressAck gd n x = (fX10_pressAck_L4 gd n (mu32 0 7 + 1) x 0 0) := rfl
  refine lv_iconst (v := 0) hx hb dX10_pressAck_0 (by decide) ?_
  refine lv_istore_n (lv' := [(2, .int (0)), (0, .ref (bb + 0)), (1, .ref (bb + 21 + 14 * n + 0))]) hx hb dX10_pressAck_1 rfl hl (by decide) rfl (fun ls hl => ?_)
  refine lv_iconst (v := 0) hx hb dX10_pressAck_2 (by decide) ?_
  refine lv_istore_n (lv' := [(3, .int (0)), (2, .int (0)), (0, .ref (bb + 0)), (1, .ref (bb + 21 + 14 * n + 0))]) hx hb dX10_pressAck_3 rfl hl (by decide) rfl (fun ls hl => ?_)
  exact J4 _ _ _ _ x 0 0 hW hS (lv_sub hl [2, 3, 1, 0] rfl) hok (Nat.lt_succ_self _) hf
theorem okX10_pressAck_L4 {gd : Nat → Nat → Int32} {n : Nat} : ∀ (k8 : Nat) (y : FS) (v2 : Int32) (v3 : Int32), okF y → okF (fX10_pressAck_L4 gd n k8 y v2 v3).1 := by
  intro k8
  induction k8 with
  | zero => intro y v2 v3 hok; exact hok
  | succ k9 ih => intro y v2 v3 hok; unfold fX10_pressAck_L4; exact (okF_ite1 (fun c_7 => (okF_ite1 (fun c_42 => hok) (fun c_42 => hok))) (fun c_7 => (okF_ite1 (fun c_15 => (ih _ _ _ hok)) (fun c_15 => (okF_ite1 (fun c_24 => (ih _ _ _ hok)) (fun c_24 => (ih _ _ _ (okX10_takeAlarm hok))))))))
theorem okX10_pressAck {gd : Nat → Nat → Int32} {n : Nat} {x : FS} (hok : okF x) : okF (fX10_pressAck gd n x).1 := by unfold fX10_pressAck; exact (okX10_pressAck_L4 _ _ _ _ hok)

def fX10_typeFigure (gd : Nat → Nat → Int32) (p1 : Int32) (x : FS) : FS × Int32 := if (fX1_takesNumber x) = 0 then ((x, -1)) else (if ((fX9_addFigure p1 (fX1_places gd x) x).2) = 0 then (((fX9_addFigure p1 (fX1_places gd x) x).1, -1)) else (((fX9_addFigure p1 (fX1_places gd x) x).1, (fX9_addFigure p1 (fX1_places gd x) x).1.2.1 0 6)))
set_option maxHeartbeats 4000000 in
set_option maxRecDepth 100000 in
theorem mX10_typeFigure (l : Launch) (E : eE) (bb : Nat) (gd : Nat → Nat → Int32) (ch : Nat → Nat → Nat → Int32) (n : Nat) (hn : n < 3) (x : FS) (p1 : Int32) (hok : okF x) : Met l yX10_typeFigure wsX10_typeFigure ({ frames := 1, cells := 0, slots := 0, locals := 23 }) (gPre E (cwf E bb gd ch n x) [.ref (bb + 0), .ref (bb + 21 + 14 * n + 0), .int (p1)]) (gQi E (cwf E bb gd ch n) (fX10_typeFigure gd p1 x) (cA bb)) 0 0 (cA bb) := by
  refine Met.ofW (cc := cX10_typeFigure) (maxL := 3) (ret := (some .int)) (by decide) rfl ?_
  intro p e s m args below meth c s₁ B hml hv
  obtain ⟨rfl, hW, hK⟩ := hv
  have hx := B.exec
  have hb := B.bytes
  have hr := B.returns
  have hts := atoms_spec (ws := wsX10_typeFigure) B.pre
  have hown : s.vm.findClass RX10 = some m.cls := findClass_of_methodNamed B.named
  have hlocks := B.notSynchronized
  have i1 : ∀ w ∈ wsX10, w ∈ wsX10_typeFigure := by decide +kernel
  have i3 : ∀ w ∈ wsX30, w ∈ wsX10_typeFigure := by decide +kernel
  have kl106 := hts (.fieldLink RX10 106 "DosePump$Channel" "entry" "LDosePump$Entry;") (by decide +kernel)
  have kl141 := hts (.fieldLink RX10 141 "DosePump$Channel" "phase" "I") (by decide +kernel)
  have kl226 := hts (.fieldLink RX10 226 "DosePump$Entry" "typed" "LDosePump$Typed;") (by decide +kernel)
  have hS : va_S (cA bb) s.heap s.heap [] := va_S.rf
  have hl := lv_entry ([.ref (bb + 0), .ref (bb + 21 + 14 * n + 0), .int (p1)]) (n := 3) (Nat.le_of_ble_eq_true rfl)
  rw [lg_entry_eq]
  generalize (lg_sl ([.ref (bb + 0), .ref (bb + 21 + 14 * n + 0), .int (p1)]) ++ List.replicate (3 - (lg_sl ([.ref (bb + 0), .ref (bb + 21 + 14 * n + 0), .int (p1)])).length) Slot.unset).toArray = ls at hl ⊢
  have hl : lv_has ls 3 [(0, .ref (bb + 0)), (1, .ref (bb + 21 + 14 * n + 0)), (2, .int (p1))] := hl
  have hf : fX10_typeFigure gd p1 x = (if (fX1_takesNumber x) = 0 then ((x, -1)) else (if ((fX9_addFigure p1 (fX1_places gd x) x).2) = 0 then (((fX9_addFigure p1 (fX1_places gd x) x).1, -1)) else (((fX9_addFigure p1 (fX1_places gd x) x).1, (fX9_addFigure p1 (fX1_places gd x) x).1.2.1 0 6)))) := rfl
  refine lv_aload_n hx hb dX10_typeFigure_0 rfl (lv_at hl 1 rfl) ?_
  refine gx_i (rest := []) ⟨hx, hb, hml, hown, hts⟩ (mX1_takesNumber l E bb gd ch n hn x) (cwV 0 hts gX10_typeFigure_X1_takesNumber rfl rfl rfl (by decide +kernel) ⟨Nat.le_of_ble_eq_true rfl, Nat.le_of_ble_eq_true rfl⟩) hW hK (fx_recv hK (cwf_C (o := 0) hW hn (by decide)) rfl) rfl hl.1 rfl (Nat.le_of_ble_eq_true rfl) dX10_typeFigure_1 ⟨Nat.le_of_ble_eq_true rfl, Nat.le_of_ble_eq_true rfl⟩ hS (fun _ h => h) (fun _ r1 H locs _ e1 hW hS => ?_)
  have e1 : fX1_takesNumber x = r1 := e1
  try rw [e1] at hf
  refine lv_if_eq (tgt := 32) hx hb dX10_typeFigure_4 (by decide) (fun c_4 => ?_) (fun c_4 => ?_)
  · have hf_4 := hf.trans (if_pos c_4)
    refine lv_iconst (v := -1) hx hb dX10_typeFigure_32 (by decide) ?_
    exact gx_iret hx hb hr rfl hlocks hK hf_4 hW hS dX10_typeFigure_33
  · have hf_4 := hf.trans (if_neg c_4)
    refine lv_aload_n hx hb dX10_typeFigure_7 rfl (lv_at hl 1 rfl) ?_
    refine fx_get (ci := 1) (v := .ref (bb + 21 + 14 * n + 1)) hx hb hts i1 hown hK (cwf_C (o := 0) hW hn (by decide)) rfl 1 (by decide) kl106 rfl dX10_typeFigure_8 ?_
    refine fx_get (ci := 3) (v := .ref (bb + 21 + 14 * n + 2)) hx hb hts i3 hown hK (cwf_C (o := 1) hW hn (by decide)) rfl 0 (by decide) kl226 rfl dX10_typeFigure_11 ?_
    refine lv_iload_n hx hb dX10_typeFigure_14 rfl (lv_at hl 2 rfl) ?_
    refine lv_aload_n hx hb dX10_typeFigure_15 rfl (lv_at hl 1 rfl) ?_
    refine gx_i (rest := [.int (p1), .ref (bb + 21 + 14 * n + 2)]) ⟨hx, hb, hml, hown, hts⟩ (mX1_places l E bb gd ch n hn x hok) (cwV 0 hts gX10_typeFigure_X1_places rfl rfl rfl (by decide +kernel) ⟨Nat.le_of_ble_eq_true rfl, Nat.le_of_ble_eq_true rfl⟩) hW hK (fx_recv hK (cwf_C (o := 0) hW hn (by decide)) rfl) rfl hl.1 rfl (Nat.le_of_ble_eq_true rfl) dX10_typeFigure_16 ⟨Nat.le_of_ble_eq_true rfl, Nat.le_of_ble_eq_true rfl⟩ hS (fun _ h => h) (fun _ r2 H locs _ e2 hW hS => ?_)
    have e2 : fX1_places gd x = r2 := e2
    try rw [e2] at hf_4
    refine gx_i (rest := []) ⟨hx, hb, hml, hown, hts⟩ (mX9_addFigure l E bb gd ch n hn x p1 r2) (cwV 2 hts gX10_typeFigure_X9_addFigure rfl rfl rfl (by decide +kernel) ⟨Nat.le_of_ble_eq_true rfl, Nat.le_of_ble_eq_true rfl⟩) hW hK (fx_recv hK (cwf_C (o := 2) hW hn (by decide)) rfl) rfl hl.1 rfl (Nat.le_of_ble_eq_true rfl) dX10_typeFigure_19 ⟨Nat.le_of_ble_eq_true rfl, Nat.le_of_ble_eq_true rfl⟩ hS (fun _ h => h) (fun u3 r3 H locs e3 e3r hW hS => ?_)
    have e3 : (fX9_addFigure p1 r2 x).1 = u3 := e3
    have e3r : (fX9_addFigure p1 r2 x).2 = r3 := e3r
    try rw [e3] at hf_4
    try rw [e3r] at hf_4
    have hk3 : okF u3 := e3 ▸ (okX9_addFigure hok)
    refine lv_if_eq (tgt := 32) hx hb dX10_typeFigure_22 (by decide) (fun c_22 => ?_) (fun c_22 => ?_)
    · have hf_22 := hf_4.trans (if_pos c_22)
      refine lv_iconst (v := -1) hx hb dX10_typeFigure_32 (by decide) ?_
      exact gx_iret hx hb hr rfl hlocks hK hf_22 hW hS dX10_typeFigure_33
    · have hf_22 := hf_4.trans (if_neg c_22)
      refine lv_aload_n hx hb dX10_typeFigure_25 rfl (lv_at hl 1 rfl) ?_
      refine fx_get (ci := 1) (v := .int (u3.2.1 0 6)) hx hb hts i1 hown hK (cwf_C (o := 0) hW hn (by decide)) rfl 6 (by decide) kl141 rfl dX10_typeFigure_26 ?_
      refine lv_goto (tgt := 33) hx hb dX10_typeFigure_29 (by decide) ?_
      exact gx_iret hx hb hr rfl hlocks hK hf_22 hW hS dX10_typeFigure_33
theorem okX10_typeFigure {gd : Nat → Nat → Int32} {p1 : Int32} {x : FS} (hok : okF x) : okF (fX10_typeFigure gd p1 x).1 := by unfold fX10_typeFigure; exact (okF_ite1 (fun c_4 => hok) (fun c_4 => (okF_ite1 (fun c_22 => (okX9_addFigure hok)) (fun c_22 => (okX9_addFigure hok)))))

def fX10_typePoint (gd : Nat → Nat → Int32) (x : FS) : FS × Int32 := if (fX1_takesNumber x) = 0 then ((x, -1)) else (if ((fX9_addPoint (fX1_places gd x) x).2) = 0 then (((fX9_addPoint (fX1_places gd x) x).1, -1)) else (((fX9_addPoint (fX1_places gd x) x).1, (fX9_addPoint (fX1_places gd x) x).1.2.1 0 6)))
set_option maxHeartbeats 4000000 in
set_option maxRecDepth 100000 in
theorem mX10_typePoint (l : Launch) (E : eE) (bb : Nat) (gd : Nat → Nat → Int32) (ch : Nat → Nat → Nat → Int32) (n : Nat) (hn : n < 3) (x : FS) (hok : okF x) : Met l yX10_typePoint wsX10_typePoint ({ frames := 1, cells := 0, slots := 0, locals := 21 }) (gPre E (cwf E bb gd ch n x) [.ref (bb + 0), .ref (bb + 21 + 14 * n + 0)]) (gQi E (cwf E bb gd ch n) (fX10_typePoint gd x) (cA bb)) 0 0 (cA bb) := by
  refine Met.ofW (cc := cX10_typePoint) (maxL := 2) (ret := (some .int)) (by decide) rfl ?_
  intro p e s m args below meth c s₁ B hml hv
  obtain ⟨rfl, hW, hK⟩ := hv
  have hx := B.exec
  have hb := B.bytes
  have hr := B.returns
  have hts := atoms_spec (ws := wsX10_typePoint) B.pre
  have hown : s.vm.findClass RX10 = some m.cls := findClass_of_methodNamed B.named
  have hlocks := B.notSynchronized
  have i1 : ∀ w ∈ wsX10, w ∈ wsX10_typePoint := by decide +kernel
  have i3 : ∀ w ∈ wsX30, w ∈ wsX10_typePoint := by decide +kernel
  have kl106 := hts (.fieldLink RX10 106 "DosePump$Channel" "entry" "LDosePump$Entry;") (by decide +kernel)
  have kl141 := hts (.fieldLink RX10 141 "DosePump$Channel" "phase" "I") (by decide +kernel)
  have kl226 := hts (.fieldLink RX10 226 "DosePump$Entry" "typed" "LDosePump$Typed;") (by decide +kernel)
  have hS : va_S (cA bb) s.heap s.heap [] := va_S.rf
  have hl := lv_entry ([.ref (bb + 0), .ref (bb + 21 + 14 * n + 0)]) (n := 2) (Nat.le_of_ble_eq_true rfl)
  rw [lg_entry_eq]
  generalize (lg_sl ([.ref (bb + 0), .ref (bb + 21 + 14 * n + 0)]) ++ List.replicate (2 - (lg_sl ([.ref (bb + 0), .ref (bb + 21 + 14 * n + 0)])).length) Slot.unset).toArray = ls at hl ⊢
  have hl : lv_has ls 2 [(0, .ref (bb + 0)), (1, .ref (bb + 21 + 14 * n + 0))] := hl
  have hf : fX10_typePoint gd x = (if (fX1_takesNumber x) = 0 then ((x, -1)) else (if ((fX9_addPoint (fX1_places gd x) x).2) = 0 then (((fX9_addPoint (fX1_places gd x) x).1, -1)) else (((fX9_addPoint (fX1_places gd x) x).1, (fX9_addPoint (fX1_places gd x) x).1.2.1 0 6)))) := rfl
  refine lv_aload_n hx hb dX10_typePoint_0 rfl (lv_at hl 1 rfl) ?_
  refine gx_i (rest := []) ⟨hx, hb, hml, hown, hts⟩ (mX1_takesNumber l E bb gd ch n hn x) (cwV 0 hts gX10_typePoint_X1_takesNumber rfl rfl rfl (by decide +kernel) ⟨Nat.le_of_ble_eq_true rfl, Nat.le_of_ble_eq_true rfl⟩) hW hK (fx_recv hK (cwf_C (o := 0) hW hn (by decide)) rfl) rfl hl.1 rfl (Nat.le_of_ble_eq_true rfl) dX10_typePoint_1 ⟨Nat.le_of_ble_eq_true rfl, Nat.le_of_ble_eq_true rfl⟩ hS (fun _ h => h) (fun _ r1 H locs _ e1 hW hS => ?_)
  have e1 : fX1_takesNumber x = r1 := e1
  try rw [e1] at hf
  refine lv_if_eq (tgt := 31) hx hb dX10_typePoint_4 (by decide) (fun c_4 => ?_) (fun c_4 => ?_)
  · have hf_4 := hf.trans (if_pos c_4)
    refine lv_iconst (v := -1) hx hb dX10_typePoint_31 (by decide) ?_
    exact gx_iret hx hb hr rfl hlocks hK hf_4 hW hS dX10_typePoint_32
  · have hf_4 := hf.trans (if_neg c_4)
    refine lv_aload_n hx hb dX10_typePoint_7 rfl (lv_at hl 1 rfl) ?_
    refine fx_get (ci := 1) (v := .ref (bb + 21 + 14 * n + 1)) hx hb hts i1 hown hK (cwf_C (o := 0) hW hn (by decide)) rfl 1 (by decide) kl106 rfl dX10_typePoint_8 ?_
    refine fx_get (ci := 3) (v := .ref (bb + 21 + 14 * n + 2)) hx hb hts i3 hown hK (cwf_C (o := 1) hW hn (by decide)) rfl 0 (by decide) kl226 rfl dX10_typePoint_11 ?_
    refine lv_aload_n hx hb dX10_typePoint_14 rfl (lv_at hl 1 rfl) ?_
    refine gx_i (rest := [.ref (bb + 21 + 14 * n + 2)]) ⟨hx, hb, hml, hown, hts⟩ (mX1_places l E bb gd ch n hn x hok) (cwV 0 hts gX10_typePoint_X1_places rfl rfl rfl (by decide +kernel) ⟨Nat.le_of_ble_eq_true rfl, Nat.le_of_ble_eq_true rfl⟩) hW hK (fx_recv hK (cwf_C (o := 0) hW hn (by decide)) rfl) rfl hl.1 rfl (Nat.le_of_ble_eq_true rfl) dX10_typePoint_15 ⟨Nat.le_of_ble_eq_true rfl, Nat.le_of_ble_eq_true rfl⟩ hS (fun _ h => h) (fun _ r2 H locs _ e2 hW hS => ?_)
    have e2 : fX1_places gd x = r2 := e2
    try rw [e2] at hf_4
    refine gx_i (rest := []) ⟨hx, hb, hml, hown, hts⟩ (mX9_addPoint l E bb gd ch n hn x r2) (cwV 1 hts gX10_typePoint_X9_addPoint rfl rfl rfl (by decide +kernel) ⟨Nat.le_of_ble_eq_true rfl, Nat.le_of_ble_eq_true rfl⟩) hW hK (fx_recv hK (cwf_C (o := 2) hW hn (by decide)) rfl) rfl hl.1 rfl (Nat.le_of_ble_eq_true rfl) dX10_typePoint_18 ⟨Nat.le_of_ble_eq_true rfl, Nat.le_of_ble_eq_true rfl⟩ hS (fun _ h => h) (fun u3 r3 H locs e3 e3r hW hS => ?_)
    have e3 : (fX9_addPoint r2 x).1 = u3 := e3
    have e3r : (fX9_addPoint r2 x).2 = r3 := e3r
    try rw [e3] at hf_4
    try rw [e3r] at hf_4
    have hk3 : okF u3 := e3 ▸ (okX9_addPoint hok)
    refine lv_if_eq (tgt := 31) hx hb dX10_typePoint_21 (by decide) (fun c_21 => ?_) (fun c_21 => ?_)
    · have hf_21 := hf_4.trans (if_pos c_21)
      refine lv_iconst (v := -1) hx hb dX10_typePoint_31 (by decide) ?_
      exact gx_iret hx hb hr rfl hlocks hK hf_21 hW hS dX10_typePoint_32
    · have hf_21 := hf_4.trans (if_neg c_21)
      refine lv_aload_n hx hb dX10_typePoint_24 rfl (lv_at hl 1 rfl) ?_
      refine fx_get (ci := 1) (v := .int (u3.2.1 0 6)) hx hb hts i1 hown hK (cwf_C (o := 0) hW hn (by decide)) rfl 6 (by decide) kl141 rfl dX10_typePoint_25 ?_
      refine lv_goto (tgt := 32) hx hb dX10_typePoint_28 (by decide) ?_
      exact gx_iret hx hb hr rfl hlocks hK hf_21 hW hS dX10_typePoint_32
theorem okX10_typePoint {gd : Nat → Nat → Int32} {x : FS} (hok : okF x) : okF (fX10_typePoint gd x).1 := by unfold fX10_typePoint; exact (okF_ite1 (fun c_4 => hok) (fun c_4 => (okF_ite1 (fun c_21 => (okX9_addPoint hok)) (fun c_21 => (okX9_addPoint hok)))))
