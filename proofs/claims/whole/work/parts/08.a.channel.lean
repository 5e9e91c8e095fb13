/-! Channel -/
def fX1_hasEntry (x : FS) : Int32 := if (x.2.1 0 6) < 1 then (0) else (if (5 : Int32) < (x.2.1 0 6) then (0) else (1))
set_option maxHeartbeats 4000000 in
set_option maxRecDepth 100000 in
theorem mX1_hasEntry (l : Launch) (E : eE) (bb : Nat) (gd : Nat → Nat → Int32) (ch : Nat → Nat → Nat → Int32) (n : Nat) (hn : n < 3) (x : FS) : Met l yX1_hasEntry wsX1_hasEntry ({ frames := 0, cells := 0, slots := 0, locals := 0 }) (gPre E (cwf E bb gd ch n x) [.ref (bb + 21 + 14 * n + 0)]) (gQi E (fun _ : Unit => cwf E bb gd ch n x) ((), fX1_hasEntry x) (cA bb)) 0 0 (cA bb) := by
  refine Met.ofW (cc := cX1_hasEntry) (maxL := 1) (ret := (some .boolean)) (by decide) rfl ?_
  intro p e s m args below meth c s₁ B hml hv
  obtain ⟨rfl, hW, hK⟩ := hv
  have hx := B.exec
  have hb := B.bytes
  have hr := B.returns
  have hts := atoms_spec (ws := wsX1_hasEntry) B.pre
  have hown : s.vm.findClass RX1 = some m.cls := findClass_of_methodNamed B.named
  have hlocks := B.notSynchronized
  have i1 : ∀ w ∈ wsX10, w ∈ wsX1_hasEntry := by decide +kernel
  have kl46 := hts (.fieldLink RX1 46 "DosePump$Channel" "phase" "I") (by decide +kernel)
  have hS : va_S (cA bb) s.heap s.heap [] := va_S.rf
  have hl := lv_entry ([.ref (bb + 21 + 14 * n + 0)]) (n := 1) (Nat.le_of_ble_eq_true rfl)
  rw [lg_entry_eq]
  generalize (lg_sl ([.ref (bb + 21 + 14 * n + 0)]) ++ List.replicate (1 - (lg_sl ([.ref (bb + 21 + 14 * n + 0)])).length) Slot.unset).toArray = ls at hl ⊢
  have hl : lv_has ls 1 [(0, .ref (bb + 21 + 14 * n + 0))] := hl
  have hf : fX1_hasEntry x = (if (x.2.1 0 6) < 1 then (0) else (if (5 : Int32) < (x.2.1 0 6) then (0) else (1))) := rfl
  refine lv_aload_n hx hb dX1_hasEntry_0 rfl (lv_at hl 0 rfl) ?_
  refine fx_get (ci := 1) (v := .int (x.2.1 0 6)) hx hb hts i1 hown hK (cwf_C (o := 0) hW hn (by decide)) rfl 6 (by decide) kl46 rfl dX1_hasEntry_1 ?_
  refine lv_iconst (v := 1) hx hb dX1_hasEntry_4 (by decide) ?_
  refine lv_icmp_lt (tgt := 20) hx hb dX1_hasEntry_5 (by decide) (fun c_5 => ?_) (fun c_5 => ?_)
  · have hf_5 := hf.trans (if_pos c_5)
    refine lv_iconst (v := 0) hx hb dX1_hasEntry_20 (by decide) ?_
    exact gx_iret hx hb hr (by decide) hlocks hK (congrArg (Prod.mk ()) hf_5) (u := ()) (v := 0) hW hS dX1_hasEntry_21
  · have hf_5 := hf.trans (if_neg c_5)
    refine lv_aload_n hx hb dX1_hasEntry_8 rfl (lv_at hl 0 rfl) ?_
    refine fx_get (ci := 1) (v := .int (x.2.1 0 6)) hx hb hts i1 hown hK (cwf_C (o := 0) hW hn (by decide)) rfl 6 (by decide) kl46 rfl dX1_hasEntry_9 ?_
    refine lv_iconst (v := 5) hx hb dX1_hasEntry_12 (by decide) ?_
    refine lv_icmp_gt (tgt := 20) hx hb dX1_hasEntry_13 (by decide) (fun c_13 => ?_) (fun c_13 => ?_)
    · have hf_13 := hf_5.trans (if_pos c_13)
      refine lv_iconst (v := 0) hx hb dX1_hasEntry_20 (by decide) ?_
      exact gx_iret hx hb hr (by decide) hlocks hK (congrArg (Prod.mk ()) hf_13) (u := ()) (v := 0) hW hS dX1_hasEntry_21
    · have hf_13 := hf_5.trans (if_neg c_13)
      refine lv_iconst (v := 1) hx hb dX1_hasEntry_16 (by decide) ?_
      refine lv_goto (tgt := 21) hx hb dX1_hasEntry_17 (by decide) ?_
      exact gx_iret hx hb hr (by decide) hlocks hK (congrArg (Prod.mk ()) hf_13) (u := ()) (v := 1) hW hS dX1_hasEntry_21

def fX1_takesNumber (x : FS) : Int32 := if (x.2.1 0 6) < 1 then (0) else (if (4 : Int32) < (x.2.1 0 6) then (0) else (1))
set_option maxHeartbeats 4000000 in
set_option maxRecDepth 100000 in
theorem mX1_takesNumber (l : Launch) (E : eE) (bb : Nat) (gd : Nat → Nat → Int32) (ch : Nat → Nat → Nat → Int32) (n : Nat) (hn : n < 3) (x : FS) : Met l yX1_takesNumber wsX1_takesNumber ({ frames := 0, cells := 0, slots := 0, locals := 0 }) (gPre E (cwf E bb gd ch n x) [.ref (bb + 21 + 14 * n + 0)]) (gQi E (fun _ : Unit => cwf E bb gd ch n x) ((), fX1_takesNumber x) (cA bb)) 0 0 (cA bb) := by
  refine Met.ofW (cc := cX1_takesNumber) (maxL := 1) (ret := (some .boolean)) (by decide) rfl ?_
  intro p e s m args below meth c s₁ B hml hv
  obtain ⟨rfl, hW, hK⟩ := hv
  have hx := B.exec
  have hb := B.bytes
  have hr := B.returns
  have hts := atoms_spec (ws := wsX1_takesNumber) B.pre
  have hown : s.vm.findClass RX1 = some m.cls := findClass_of_methodNamed B.named
  have hlocks := B.notSynchronized
  have i1 : ∀ w ∈ wsX10, w ∈ wsX1_takesNumber := by decide +kernel
  have kl46 := hts (.fieldLink RX1 46 "DosePump$Channel" "phase" "I") (by decide +kernel)
  have hS : va_S (cA bb) s.heap s.heap [] := va_S.rf
  have hl := lv_entry ([.ref (bb + 21 + 14 * n + 0)]) (n := 1) (Nat.le_of_ble_eq_true rfl)
  rw [lg_entry_eq]
  generalize (lg_sl ([.ref (bb + 21 + 14 * n + 0)]) ++ List.replicate (1 - (lg_sl ([.ref (bb + 21 + 14 * n + 0)])).length) Slot.unset).toArray = ls at hl ⊢
  have hl : lv_has ls 1 [(0, .ref (bb + 21 + 14 * n + 0))] := hl
  have hf : fX1_takesNumber x = (if (x.2.1 0 6) < 1 then (0) else (if (4 : Int32) < (x.2.1 0 6) then (0) else (1))) := rfl
  refine lv_aload_n hx hb dX1_takesNumber_0 rfl (lv_at hl 0 rfl) ?_
  refine fx_get (ci := 1) (v := .int (x.2.1 0 6)) hx hb hts i1 hown hK (cwf_C (o := 0) hW hn (by decide)) rfl 6 (by decide) kl46 rfl dX1_takesNumber_1 ?_
  refine lv_iconst (v := 1) hx hb dX1_takesNumber_4 (by decide) ?_
  refine lv_icmp_lt (tgt := 20) hx hb dX1_takesNumber_5 (by decide) (fun c_5 => ?_) (fun c_5 => ?_)
  · have hf_5 := hf.trans (if_pos c_5)
    refine lv_iconst (v := 0) hx hb dX1_takesNumber_20 (by decide) ?_
    exact gx_iret hx hb hr (by decide) hlocks hK (congrArg (Prod.mk ()) hf_5) (u := ()) (v := 0) hW hS dX1_takesNumber_21
  · have hf_5 := hf.trans (if_neg c_5)
    refine lv_aload_n hx hb dX1_takesNumber_8 rfl (lv_at hl 0 rfl) ?_
    refine fx_get (ci := 1) (v := .int (x.2.1 0 6)) hx hb hts i1 hown hK (cwf_C (o := 0) hW hn (by decide)) rfl 6 (by decide) kl46 rfl dX1_takesNumber_9 ?_
    refine lv_iconst (v := 4) hx hb dX1_takesNumber_12 (by decide) ?_
    refine lv_icmp_gt (tgt := 20) hx hb dX1_takesNumber_13 (by decide) (fun c_13 => ?_) (fun c_13 => ?_)
    · have hf_13 := hf_5.trans (if_pos c_13)
      refine lv_iconst (v := 0) hx hb dX1_takesNumber_20 (by decide) ?_
      exact gx_iret hx hb hr (by decide) hlocks hK (congrArg (Prod.mk ()) hf_13) (u := ()) (v := 0) hW hS dX1_takesNumber_21
    · have hf_13 := hf_5.trans (if_neg c_13)
      refine lv_iconst (v := 1) hx hb dX1_takesNumber_16 (by decide) ?_
      refine lv_goto (tgt := 21) hx hb dX1_takesNumber_17 (by decide) ?_
      exact gx_iret hx hb hr (by decide) hlocks hK (congrArg (Prod.mk ()) hf_13) (u := ()) (v := 1) hW hS dX1_takesNumber_21

def fX1_isAtRest (x : FS) : Int32 := if (x.2.1 0 6) = 6 then (1) else (if (x.2.1 0 6) = 8 then (1) else (0))
set_option maxHeartbeats 4000000 in
set_option maxRecDepth 100000 in
theorem mX1_isAtRest (l : Launch) (E : eE) (bb : Nat) (gd : Nat → Nat → Int32) (ch : Nat → Nat → Nat → Int32) (n : Nat) (hn : n < 3) (x : FS) : Met l yX1_isAtRest wsX1_isAtRest ({ frames := 0, cells := 0, slots := 0, locals := 0 }) (gPre E (cwf E bb gd ch n x) [.ref (bb + 21 + 14 * n + 0)]) (gQi E (fun _ : Unit => cwf E bb gd ch n x) ((), fX1_isAtRest x) (cA bb)) 0 0 (cA bb) := by
  refine Met.ofW (cc := cX1_isAtRest) (maxL := 1) (ret := (some .boolean)) (by decide) rfl ?_
  intro p e s m args below meth c s₁ B hml hv
  obtain ⟨rfl, hW, hK⟩ := hv
  have hx := B.exec
  have hb := B.bytes
  have hr := B.returns
  have hts := atoms_spec (ws := wsX1_isAtRest) B.pre
  have hown : s.vm.findClass RX1 = some m.cls := findClass_of_methodNamed B.named
  have hlocks := B.notSynchronized
  have i1 : ∀ w ∈ wsX10, w ∈ wsX1_isAtRest := by decide +kernel
  have kl46 := hts (.fieldLink RX1 46 "DosePump$Channel" "phase" "I") (by decide +kernel)
  have hS : va_S (cA bb) s.heap s.heap [] := va_S.rf
  have hl := lv_entry ([.ref (bb + 21 + 14 * n + 0)]) (n := 1) (Nat.le_of_ble_eq_true rfl)
  rw [lg_entry_eq]
  generalize (lg_sl ([.ref (bb + 21 + 14 * n + 0)]) ++ List.replicate (1 - (lg_sl ([.ref (bb + 21 + 14 * n + 0)])).length) Slot.unset).toArray = ls at hl ⊢
  have hl : lv_has ls 1 [(0, .ref (bb + 21 + 14 * n + 0))] := hl
  have hf : fX1_isAtRest x = (if (x.2.1 0 6) = 6 then (1) else (if (x.2.1 0 6) = 8 then (1) else (0))) := rfl
  refine lv_aload_n hx hb dX1_isAtRest_0 rfl (lv_at hl 0 rfl) ?_
  refine fx_get (ci := 1) (v := .int (x.2.1 0 6)) hx hb hts i1 hown hK (cwf_C (o := 0) hW hn (by decide)) rfl 6 (by decide) kl46 rfl dX1_isAtRest_1 ?_
  refine lv_bipush (v := 6) hx hb dX1_isAtRest_4 (by decide) ?_
  refine lv_icmp_eq (tgt := 18) hx hb dX1_isAtRest_6 (by decide) (fun c_6 => ?_) (fun c_6 => ?_)
  · have hf_6 := hf.trans (if_pos c_6)
    refine lv_iconst (v := 1) hx hb dX1_isAtRest_18 (by decide) ?_
    refine lv_goto (tgt := 23) hx hb dX1_isAtRest_19 (by decide) ?_
    exact gx_iret hx hb hr (by decide) hlocks hK (congrArg (Prod.mk ()) hf_6) (u := ()) (v := 1) hW hS dX1_isAtRest_23
  · have hf_6 := hf.trans (if_neg c_6)
    refine lv_aload_n hx hb dX1_isAtRest_9 rfl (lv_at hl 0 rfl) ?_
    refine fx_get (ci := 1) (v := .int (x.2.1 0 6)) hx hb hts i1 hown hK (cwf_C (o := 0) hW hn (by decide)) rfl 6 (by decide) kl46 rfl dX1_isAtRest_10 ?_
    refine lv_bipush (v := 8) hx hb dX1_isAtRest_13 (by decide) ?_
    refine lv_icmp_ne (tgt := 22) hx hb dX1_isAtRest_15 (by decide) (fun c_15 => ?_) (fun c_15 => ?_)
    · have hf_15 := hf_6.trans (if_neg c_15)
      refine lv_iconst (v := 0) hx hb dX1_isAtRest_22 (by decide) ?_
      exact gx_iret hx hb hr (by decide) hlocks hK (congrArg (Prod.mk ()) hf_15) (u := ()) (v := 0) hW hS dX1_isAtRest_23
    · have hf_15 := hf_6.trans (if_pos c_15)
      refine lv_iconst (v := 1) hx hb dX1_isAtRest_18 (by decide) ?_
      refine lv_goto (tgt := 23) hx hb dX1_isAtRest_19 (by decide) ?_
      exact gx_iret hx hb hr (by decide) hlocks hK (congrArg (Prod.mk ()) hf_15) (u := ()) (v := 1) hW hS dX1_isAtRest_23

def fX1_hasAlarm (p1 : Int32) (x : FS) : Int32 := if (((x.2.1 0 7) >>> (p1 &&& 31)) &&& 1) = 0 then (0) else (1)
set_option maxHeartbeats 4000000 in
set_option maxRecDepth 100000 in
theorem mX1_hasAlarm (l : Launch) (E : eE) (bb : Nat) (gd : Nat → Nat → Int32) (ch : Nat → Nat → Nat → Int32) (n : Nat) (hn : n < 3) (x : FS) (p1 : Int32) : Met l yX1_hasAlarm wsX1_hasAlarm ({ frames := 0, cells := 0, slots := 0, locals := 0 }) (gPre E (cwf E bb gd ch n x) [.ref (bb + 21 + 14 * n + 0), .int (p1)]) (gQi E (fun _ : Unit => cwf E bb gd ch n x) ((), fX1_hasAlarm p1 x) (cA bb)) 0 0 (cA bb) := by
  refine Met.ofW (cc := cX1_hasAlarm) (maxL := 2) (ret := (some .boolean)) (by decide) rfl ?_
  intro p e s m args below meth c s₁ B hml hv
  obtain ⟨rfl, hW, hK⟩ := hv
  have hx := B.exec
  have hb := B.bytes
  have hr := B.returns
  have hts := atoms_spec (ws := wsX1_hasAlarm) B.pre
  have hown : s.vm.findClass RX1 = some m.cls := findClass_of_methodNamed B.named
  have hlocks := B.notSynchronized
  have i1 : ∀ w ∈ wsX10, w ∈ wsX1_hasAlarm := by decide +kernel
  have kl53 := hts (.fieldLink RX1 53 "DosePump$Channel" "alarms" "I") (by decide +kernel)
  have hS : va_S (cA bb) s.heap s.heap [] := va_S.rf
  have hl := lv_entry ([.ref (bb + 21 + 14 * n + 0), .int (p1)]) (n := 2) (Nat.le_of_ble_eq_true rfl)
  rw [lg_entry_eq]
  generalize (lg_sl ([.ref (bb + 21 + 14 * n + 0), .int (p1)]) ++ List.replicate (2 - (lg_sl ([.ref (bb + 21 + 14 * n + 0), .int (p1)])).length) Slot.unset).toArray = ls at hl ⊢
  have hl : lv_has ls 2 [(0, .ref (bb + 21 + 14 * n + 0)), (1, .int (p1))] := hl
  have hf : fX1_hasAlarm p1 x = (if (((x.2.1 0 7) >>> (p1 &&& 31)) &&& 1) = 0 then (0) else (1)) := rfl
  refine lv_aload_n hx hb dX1_hasAlarm_0 rfl (lv_at hl 0 rfl) ?_
  refine fx_get (ci := 1) (v := .int (x.2.1 0 7)) hx hb hts i1 hown hK (cwf_C (o := 0) hW hn (by decide)) rfl 7 (by decide) kl53 rfl dX1_hasAlarm_1 ?_
  refine lv_iload_n hx hb dX1_hasAlarm_4 rfl (lv_at hl 1 rfl) ?_
  refine lv_ishr hx hb dX1_hasAlarm_5 ?_
  refine lv_iconst (v := 1) hx hb dX1_hasAlarm_6 (by decide) ?_
  refine lv_iand hx hb dX1_hasAlarm_7 ?_
  refine lv_if_eq (tgt := 15) hx hb dX1_hasAlarm_8 (by decide) (fun c_8 => ?_) (fun c_8 => ?_)
  · have hf_8 := hf.trans (if_pos c_8)
    refine lv_iconst (v := 0) hx hb dX1_hasAlarm_15 (by decide) ?_
    exact gx_iret hx hb hr (by decide) hlocks hK (congrArg (Prod.mk ()) hf_8) (u := ()) (v := 0) hW hS dX1_hasAlarm_16
  · have hf_8 := hf.trans (if_neg c_8)
    refine lv_iconst (v := 1) hx hb dX1_hasAlarm_11 (by decide) ?_
    refine lv_goto (tgt := 16) hx hb dX1_hasAlarm_12 (by decide) ?_
    exact gx_iret hx hb hr (by decide) hlocks hK (congrArg (Prod.mk ()) hf_8) (u := ()) (v := 1) hW hS dX1_hasAlarm_16

def fX1_canRun (x : FS) : Int32 := if (fX1_isAtRest x) = 0 then (0) else (if ((x.2.1 0 7) &&& 31) = 0 then (if (x.2.1 9 6) = 0 then (1) else (0)) else (0))
set_option maxHeartbeats 4000000 in
set_option maxRecDepth 100000 in
theorem mX1_canRun (l : Launch) (E : eE) (bb : Nat) (gd : Nat → Nat → Int32) (ch : Nat → Nat → Nat → Int32) (n : Nat) (hn : n < 3) (x : FS) : Met l yX1_canRun wsX1_canRun ({ frames := 1, cells := 0, slots := 0, locals := 20 }) (gPre E (cwf E bb gd ch n x) [.ref (bb + 21 + 14 * n + 0)]) (gQi E (fun _ : Unit => cwf E bb gd ch n x) ((), fX1_canRun x) (cA bb)) 0 0 (cA bb) := by
  refine Met.ofW (cc := cX1_canRun) (maxL := 1) (ret := (some .boolean)) (by decide) rfl ?_
  intro p e s m args below meth c s₁ B hml hv
  obtain ⟨rfl, hW, hK⟩ := hv
  have hx := B.exec
  have hb := B.bytes
  have hr := B.returns
  have hts := atoms_spec (ws := wsX1_canRun) B.pre
  have hown : s.vm.findClass RX1 = some m.cls := findClass_of_methodNamed B.named
  have hlocks := B.notSynchronized
  have i1 : ∀ w ∈ wsX10, w ∈ wsX1_canRun := by decide +kernel
  have i6 : ∀ w ∈ wsX60, w ∈ wsX1_canRun := by decide +kernel
  have kl35 := hts (.fieldLink RX1 35 "DosePump$Channel" "line" "LDosePump$Line;") (by decide +kernel)
  have kl53 := hts (.fieldLink RX1 53 "DosePump$Channel" "alarms" "I") (by decide +kernel)
  have kl60 := hts (.fieldLink RX1 60 "DosePump$Line" "open" "Z") (by decide +kernel)
  have hS : va_S (cA bb) s.heap s.heap [] := va_S.rf
  have hl := lv_entry ([.ref (bb + 21 + 14 * n + 0)]) (n := 1) (Nat.le_of_ble_eq_true rfl)
  rw [lg_entry_eq]
  generalize (lg_sl ([.ref (bb + 21 + 14 * n + 0)]) ++ List.replicate (1 - (lg_sl ([.ref (bb + 21 + 14 * n + 0)])).length) Slot.unset).toArray = ls at hl ⊢
  have hl : lv_has ls 1 [(0, .ref (bb + 21 + 14 * n + 0))] := hl
  have hf : fX1_canRun x = (if (fX1_isAtRest x) = 0 then (0) else (if ((x.2.1 0 7) &&& 31) = 0 then (if (x.2.1 9 6) = 0 then (1) else (0)) else (0))) := rfl
  refine lv_aload_n hx hb dX1_canRun_0 rfl (lv_at hl 0 rfl) ?_
  refine gx_i (rest := []) ⟨hx, hb, hml, hown, hts⟩ (mX1_isAtRest l E bb gd ch n hn x) (cwV 0 hts gX1_canRun_X1_isAtRest rfl rfl rfl (by decide +kernel) ⟨Nat.le_of_ble_eq_true rfl, Nat.le_of_ble_eq_true rfl⟩) hW hK (fx_recv hK (cwf_C (o := 0) hW hn (by decide)) rfl) rfl hl.1 rfl (Nat.le_of_ble_eq_true rfl) dX1_canRun_1 ⟨Nat.le_of_ble_eq_true rfl, Nat.le_of_ble_eq_true rfl⟩ hS (fun _ h => h) (fun _ r1 H locs _ e1 hW hS => ?_)
  have e1 : fX1_isAtRest x = r1 := e1
  try rw [e1] at hf
  refine lv_if_eq (tgt := 31) hx hb dX1_canRun_4 (by decide) (fun c_4 => ?_) (fun c_4 => ?_)
  · have hf_4 := hf.trans (if_pos c_4)
    refine lv_iconst (v := 0) hx hb dX1_canRun_31 (by decide) ?_
    exact gx_iret hx hb hr (by decide) hlocks hK (congrArg (Prod.mk ()) hf_4) (u := ()) (v := 0) hW hS dX1_canRun_32
  · have hf_4 := hf.trans (if_neg c_4)
    refine lv_aload_n hx hb dX1_canRun_7 rfl (lv_at hl 0 rfl) ?_
    refine fx_get (ci := 1) (v := .int (x.2.1 0 7)) hx hb hts i1 hown hK (cwf_C (o := 0) hW hn (by decide)) rfl 7 (by decide) kl53 rfl dX1_canRun_8 ?_
    refine lv_bipush (v := 31) hx hb dX1_canRun_11 (by decide) ?_
    refine lv_iand hx hb dX1_canRun_13 ?_
    refine lv_if_ne (tgt := 31) hx hb dX1_canRun_14 (by decide) (fun c_14 => ?_) (fun c_14 => ?_)
    · have hf_14 := hf_4.trans (if_neg c_14)
      refine lv_iconst (v := 0) hx hb dX1_canRun_31 (by decide) ?_
      exact gx_iret hx hb hr (by decide) hlocks hK (congrArg (Prod.mk ()) hf_14) (u := ()) (v := 0) hW hS dX1_canRun_32
    · have hf_14 := hf_4.trans (if_pos c_14)
      refine lv_aload_n hx hb dX1_canRun_17 rfl (lv_at hl 0 rfl) ?_
      refine fx_get (ci := 1) (v := .ref (bb + 21 + 14 * n + 9)) hx hb hts i1 hown hK (cwf_C (o := 0) hW hn (by decide)) rfl 4 (by decide) kl35 rfl dX1_canRun_18 ?_
      refine fx_get (ci := 6) (v := .int (x.2.1 9 6)) hx hb hts i6 hown hK (cwf_C (o := 9) hW hn (by decide)) rfl 6 (by decide) kl60 rfl dX1_canRun_21 ?_
      refine lv_if_ne (tgt := 31) hx hb dX1_canRun_24 (by decide) (fun c_24 => ?_) (fun c_24 => ?_)
      · have hf_24 := hf_14.trans (if_neg c_24)
        refine lv_iconst (v := 0) hx hb dX1_canRun_31 (by decide) ?_
        exact gx_iret hx hb hr (by decide) hlocks hK (congrArg (Prod.mk ()) hf_24) (u := ()) (v := 0) hW hS dX1_canRun_32
      · have hf_24 := hf_14.trans (if_pos c_24)
        refine lv_iconst (v := 1) hx hb dX1_canRun_27 (by decide) ?_
        refine lv_goto (tgt := 32) hx hb dX1_canRun_28 (by decide) ?_
        exact gx_iret hx hb hr (by decide) hlocks hK (congrArg (Prod.mk ()) hf_24) (u := ()) (v := 1) hW hS dX1_canRun_32

def fX1_places (gd : Nat → Nat → Int32) (x : FS) : Int32 := if (x.2.1 0 6) = 1 then (0) else (if (x.2.1 0 6) = 3 then (if (dRow gd (x.2.1 1 2).toNatClampNeg 2) = 1 then (2) else (1)) else (1))
set_option maxHeartbeats 4000000 in
set_option maxRecDepth 100000 in
theorem mX1_places (l : Launch) (E : eE) (bb : Nat) (gd : Nat → Nat → Int32) (ch : Nat → Nat → Nat → Int32) (n : Nat) (hn : n < 3) (x : FS) (hok : okF x) : Met l yX1_places wsX1_places ({ frames := 0, cells := 0, slots := 0, locals := 0 }) (gPre E (cwf E bb gd ch n x) [.ref (bb + 21 + 14 * n + 0)]) (gQi E (fun _ : Unit => cwf E bb gd ch n x) ((), fX1_places gd x) (cA bb)) 0 0 (cA bb) := by
  refine Met.ofW (cc := cX1_places) (maxL := 1) (ret := (some .int)) (by decide) rfl ?_
  intro p e s m args below meth c s₁ B hml hv
  obtain ⟨rfl, hW, hK⟩ := hv
  have hx := B.exec
  have hb := B.bytes
  have hr := B.returns
  have hts := atoms_spec (ws := wsX1_places) B.pre
  have hown : s.vm.findClass RX1 = some m.cls := findClass_of_methodNamed B.named
  have hlocks := B.notSynchronized
  have i1 : ∀ w ∈ wsX10, w ∈ wsX1_places := by decide +kernel
  have i2 : ∀ w ∈ wsX20, w ∈ wsX1_places := by decide +kernel
  have i3 : ∀ w ∈ wsX30, w ∈ wsX1_places := by decide +kernel
  have kl12 := hts (.fieldLink RX1 12 "DosePump$Channel" "entry" "LDosePump$Entry;") (by decide +kernel)
  have kl46 := hts (.fieldLink RX1 46 "DosePump$Channel" "phase" "I") (by decide +kernel)
  have kl64 := hts (.fieldLink RX1 64 "DosePump$Entry" "drug" "LDosePump$Drug;") (by decide +kernel)
  have kl68 := hts (.fieldLink RX1 68 "DosePump$Drug" "kind" "I") (by decide +kernel)
  have hS : va_S (cA bb) s.heap s.heap [] := va_S.rf
  have hl := lv_entry ([.ref (bb + 21 + 14 * n + 0)]) (n := 1) (Nat.le_of_ble_eq_true rfl)
  rw [lg_entry_eq]
  generalize (lg_sl ([.ref (bb + 21 + 14 * n + 0)]) ++ List.replicate (1 - (lg_sl ([.ref (bb + 21 + 14 * n + 0)])).length) Slot.unset).toArray = ls at hl ⊢
  have hl : lv_has ls 1 [(0, .ref (bb + 21 + 14 * n + 0))] := hl
  have hf : fX1_places gd x = (if (x.2.1 0 6) = 1 then (0) else (if (x.2.1 0 6) = 3 then (if (dRow gd (x.2.1 1 2).toNatClampNeg 2) = 1 then (2) else (1)) else (1))) := rfl
  refine lv_aload_n hx hb dX1_places_0 rfl (lv_at hl 0 rfl) ?_
  refine fx_get (ci := 1) (v := .int (x.2.1 0 6)) hx hb hts i1 hown hK (cwf_C (o := 0) hW hn (by decide)) rfl 6 (by decide) kl46 rfl dX1_places_1 ?_
  refine lv_iconst (v := 1) hx hb dX1_places_4 (by decide) ?_
  refine lv_icmp_ne (tgt := 10) hx hb dX1_places_5 (by decide) (fun c_5 => ?_) (fun c_5 => ?_)
  · have hf_5 := hf.trans (if_neg c_5)
    refine lv_aload_n hx hb dX1_places_10 rfl (lv_at hl 0 rfl) ?_
    refine fx_get (ci := 1) (v := .int (x.2.1 0 6)) hx hb hts i1 hown hK (cwf_C (o := 0) hW hn (by decide)) rfl 6 (by decide) kl46 rfl dX1_places_11 ?_
    refine lv_iconst (v := 3) hx hb dX1_places_14 (by decide) ?_
    refine lv_icmp_ne (tgt := 36) hx hb dX1_places_15 (by decide) (fun c_15 => ?_) (fun c_15 => ?_)
    · have hf_15 := hf_5.trans (if_neg c_15)
      refine lv_iconst (v := 1) hx hb dX1_places_36 (by decide) ?_
      exact gx_iret hx hb hr rfl hlocks hK (congrArg (Prod.mk ()) hf_15) (u := ()) (v := 1) hW hS dX1_places_37
    · have hf_15 := hf_5.trans (if_pos c_15)
      refine lv_aload_n hx hb dX1_places_18 rfl (lv_at hl 0 rfl) ?_
      refine fx_get (ci := 1) (v := .ref (bb + 21 + 14 * n + 1)) hx hb hts i1 hown hK (cwf_C (o := 0) hW hn (by decide)) rfl 1 (by decide) kl12 rfl dX1_places_19 ?_
      refine fx_get (ci := 3) (v := .ref (dAd bb (x.2.1 1 2).toNatClampNeg)) hx hb hts i3 hown hK (cwf_C (o := 1) hW hn (by decide)) rfl 2 (by decide) kl64 rfl dX1_places_22 ?_
      refine fx_get (ci := 2) (v := .int (dRow gd (x.2.1 1 2).toNatClampNeg 2)) hx hb hts i2 hown hK (cwf_D hW hok.2.2.2.2.2.1) rfl 2 (by decide) kl68 rfl dX1_places_25 ?_
      refine lv_iconst (v := 1) hx hb dX1_places_28 (by decide) ?_
      refine lv_icmp_ne (tgt := 36) hx hb dX1_places_29 (by decide) (fun c_29 => ?_) (fun c_29 => ?_)
      · have hf_29 := hf_15.trans (if_neg c_29)
        refine lv_iconst (v := 1) hx hb dX1_places_36 (by decide) ?_
        exact gx_iret hx hb hr rfl hlocks hK (congrArg (Prod.mk ()) hf_29) (u := ()) (v := 1) hW hS dX1_places_37
      · have hf_29 := hf_15.trans (if_pos c_29)
        refine lv_iconst (v := 2) hx hb dX1_places_32 (by decide) ?_
        refine lv_goto (tgt := 37) hx hb dX1_places_33 (by decide) ?_
        exact gx_iret hx hb hr rfl hlocks hK (congrArg (Prod.mk ()) hf_29) (u := ()) (v := 2) hW hS dX1_places_37
  · have hf_5 := hf.trans (if_pos c_5)
    refine lv_iconst (v := 0) hx hb dX1_places_8 (by decide) ?_
    exact gx_iret hx hb hr rfl hlocks hK (congrArg (Prod.mk ()) hf_5) (u := ()) (v := 0) hW hS dX1_places_9

def fX1_goTo (p1 : Int32) (x : FS) : FS := (fX9_clear (sC x 0 6 (p1)))
set_option maxHeartbeats 4000000 in
set_option maxRecDepth 100000 in
theorem mX1_goTo (l : Launch) (E : eE) (bb : Nat) (gd : Nat → Nat → Int32) (ch : Nat → Nat → Nat → Int32) (n : Nat) (hn : n < 3) (x : FS) (p1 : Int32) : Met l yX1_goTo wsX1_goTo ({ frames := 1, cells := 0, slots := 0, locals := 20 }) (gPre E (cwf E bb gd ch n x) [.ref (bb + 21 + 14 * n + 0), .int (p1)]) (gQv E (cwf E bb gd ch n) (fX1_goTo p1 x) (cA bb)) 0 0 (cA bb) := by
  refine Met.ofW (cc := cX1_goTo) (maxL := 2) (ret := none) (by decide) rfl ?_
  intro p e s m args below meth c s₁ B hml hv
  obtain ⟨rfl, hW, hK⟩ := hv
  have hx := B.exec
  have hb := B.bytes
  have hr := B.returns
  have hts := atoms_spec (ws := wsX1_goTo) B.pre
  have hown : s.vm.findClass RX1 = some m.cls := findClass_of_methodNamed B.named
  have hlocks := B.notSynchronized
  have i1 : ∀ w ∈ wsX10, w ∈ wsX1_goTo := by decide +kernel
  have i3 : ∀ w ∈ wsX30, w ∈ wsX1_goTo := by decide +kernel
  have kl12 := hts (.fieldLink RX1 12 "DosePump$Channel" "entry" "LDosePump$Entry;") (by decide +kernel)
  have kl46 := hts (.fieldLink RX1 46 "DosePump$Channel" "phase" "I") (by decide +kernel)
  have kl73 := hts (.fieldLink RX1 73 "DosePump$Entry" "typed" "LDosePump$Typed;") (by decide +kernel)
  have hS : va_S (cA bb) s.heap s.heap [] := va_S.rf
  have hl := lv_entry ([.ref (bb + 21 + 14 * n + 0), .int (p1)]) (n := 2) (Nat.le_of_ble_eq_true rfl)
  rw [lg_entry_eq]
  generalize (lg_sl ([.ref (bb + 21 + 14 * n + 0), .int (p1)]) ++ List.replicate (2 - (lg_sl ([.ref (bb + 21 + 14 * n + 0), .int (p1)])).length) Slot.unset).toArray = ls at hl ⊢
  have hl : lv_has ls 2 [(0, .ref (bb + 21 + 14 * n + 0)), (1, .int (p1))] := hl
  have hf : fX1_goTo p1 x = ((fX9_clear (sC x 0 6 (p1)))) := rfl
  refine lv_aload_n hx hb dX1_goTo_0 rfl (lv_at hl 0 rfl) ?_
  refine lv_iload_n hx hb dX1_goTo_1 rfl (lv_at hl 1 rfl) ?_
  refine fx_put (ci := 1) (v := .int (p1)) hx hb hts i1 tyX1_ok nmX1 hown hK (cwf_C (o := 0) hW hn (by decide)) (cA_C hn (by decide)) hS rfl 6 (by decide) kl46 rfl rfl rfl (Nat.le_of_ble_eq_true rfl) dX1_goTo_2 (fun H locs hat hne hS => ?_)
  have hW : cwf E bb gd ch n (sC x 0 6 (p1)) H := cwf_sC (o := 0) (k := 6) (v := p1) hW hn (by decide) hat hne
  refine lv_aload_n hx hb dX1_goTo_5 rfl (lv_at hl 0 rfl) ?_
  refine fx_get (ci := 1) (v := .ref (bb + 21 + 14 * n + 1)) hx hb hts i1 hown hK (cwf_C (o := 0) hW hn (by decide)) rfl 1 (by decide) kl12 rfl dX1_goTo_6 ?_
  refine fx_get (ci := 3) (v := .ref (bb + 21 + 14 * n + 2)) hx hb hts i3 hown hK (cwf_C (o := 1) hW hn (by decide)) rfl 0 (by decide) kl73 rfl dX1_goTo_9 ?_
  refine gx_v (rest := []) ⟨hx, hb, hml, hown, hts⟩ (mX9_clear l E bb gd ch n hn (sC x 0 6 (p1))) (cwV 0 hts gX1_goTo_X9_clear rfl rfl rfl (by decide +kernel) ⟨Nat.le_of_ble_eq_true rfl, Nat.le_of_ble_eq_true rfl⟩) hW hK (fx_recv hK (cwf_C (o := 2) hW hn (by decide)) rfl) rfl hl.1 rfl (Nat.le_of_ble_eq_true rfl) dX1_goTo_12 ⟨Nat.le_of_ble_eq_true rfl, Nat.le_of_ble_eq_true rfl⟩ hS (fun _ h => h) (fun u1 H locs e1 hW hS => ?_)
  have e1 : fX9_clear (sC x 0 6 (p1)) = u1 := e1
  try rw [e1] at hf
  exact gx_vret hx hb hr hlocks hK hf hW hS dX1_goTo_15
theorem okX1_goTo {p1 : Int32} {x : FS} (hok : okF x) : okF (fX1_goTo p1 x) := by unfold fX1_goTo; exact (okX9_clear (okF_sC rfl hok))

def fX1_hold (x : FS) : FS := (sC (sC x 0 6 (8)) 6 2 (0))
set_option maxHeartbeats 4000000 in
set_option maxRecDepth 100000 in
theorem mX1_hold (l : Launch) (E : eE) (bb : Nat) (gd : Nat → Nat → Int32) (ch : Nat → Nat → Nat → Int32) (n : Nat) (hn : n < 3) (x : FS) : Met l yX1_hold wsX1_hold ({ frames := 0, cells := 0, slots := 0, locals := 0 }) (gPre E (cwf E bb gd ch n x) [.ref (bb + 21 + 14 * n + 0)]) (gQv E (cwf E bb gd ch n) (fX1_hold x) (cA bb)) 0 0 (cA bb) := by
  refine Met.ofW (cc := cX1_hold) (maxL := 1) (ret := none) (by decide) rfl ?_
  intro p e s m args below meth c s₁ B hml hv
  obtain ⟨rfl, hW, hK⟩ := hv
  have hx := B.exec
  have hb := B.bytes
  have hr := B.returns
  have hts := atoms_spec (ws := wsX1_hold) B.pre
  have hown : s.vm.findClass RX1 = some m.cls := findClass_of_methodNamed B.named
  have hlocks := B.notSynchronized
  have i0 : ∀ w ∈ wsX00, w ∈ wsX1_hold := by decide +kernel
  have i1 : ∀ w ∈ wsX10, w ∈ wsX1_hold := by decide +kernel
  have kl28 := hts (.fieldLink RX1 28 "DosePump$Channel" "boluses" "LDosePump$Boluses;") (by decide +kernel)
  have kl46 := hts (.fieldLink RX1 46 "DosePump$Channel" "phase" "I") (by decide +kernel)
  have kl82 := hts (.fieldLink RX1 82 "DosePump$Boluses" "left" "I") (by decide +kernel)
  have hS : va_S (cA bb) s.heap s.heap [] := va_S.rf
  have hl := lv_entry ([.ref (bb + 21 + 14 * n + 0)]) (n := 1) (Nat.le_of_ble_eq_true rfl)
  rw [lg_entry_eq]
  generalize (lg_sl ([.ref (bb + 21 + 14 * n + 0)]) ++ List.replicate (1 - (lg_sl ([.ref (bb + 21 + 14 * n + 0)])).length) Slot.unset).toArray = ls at hl ⊢
  have hl : lv_has ls 1 [(0, .ref (bb + 21 + 14 * n + 0))] := hl
  have hf : fX1_hold x = ((sC (sC x 0 6 (8)) 6 2 (0))) := rfl
  refine lv_aload_n hx hb dX1_hold_0 rfl (lv_at hl 0 rfl) ?_
  refine lv_bipush (v := 8) hx hb dX1_hold_1 (by decide) ?_
  refine fx_put (ci := 1) (v := .int (8)) hx hb hts i1 tyX1_ok nmX1 hown hK (cwf_C (o := 0) hW hn (by decide)) (cA_C hn (by decide)) hS rfl 6 (by decide) kl46 rfl rfl rfl (Nat.le_of_ble_eq_true rfl) dX1_hold_3 (fun H locs hat hne hS => ?_)
  have hW : cwf E bb gd ch n (sC x 0 6 (8)) H := cwf_sC (o := 0) (k := 6) (v := 8) hW hn (by decide) hat hne
  refine lv_aload_n hx hb dX1_hold_6 rfl (lv_at hl 0 rfl) ?_
  refine fx_get (ci := 1) (v := .ref (bb + 21 + 14 * n + 6)) hx hb hts i1 hown hK (cwf_C (o := 0) hW hn (by decide)) rfl 3 (by decide) kl28 rfl dX1_hold_7 ?_
  refine lv_iconst (v := 0) hx hb dX1_hold_10 (by decide) ?_
  refine fx_put (ci := 0) (v := .int (0)) hx hb hts i0 tyX0_ok nmX0 hown hK (cwf_C (o := 6) hW hn (by decide)) (cA_C hn (by decide)) hS rfl 2 (by decide) kl82 rfl rfl rfl (Nat.le_of_ble_eq_true rfl) dX1_hold_11 (fun H locs hat hne hS => ?_)
  have hW : cwf E bb gd ch n (sC (sC x 0 6 (8)) 6 2 (0)) H := cwf_sC (o := 6) (k := 2) (v := 0) hW hn (by decide) hat hne
  exact gx_vret hx hb hr hlocks hK hf hW hS dX1_hold_14
theorem okX1_hold {x : FS} (hok : okF x) : okF (fX1_hold x) := by unfold fX1_hold; exact (okF_sC rfl (okF_sC rfl hok))
