/-! HourOfStrokes, Recent (begun, air strokes) -/
theorem vi_none {n : Nat} (hn : n < 3) : vp_in (nI (16 + n)) 22 := vp_in_nI (by omega) (by omega)
def fX4_advance (x : FS) : FS := if (3600 : Int32) ≤ ((x.2.1 12 1) + 1) then ((sC (sC (sC x 12 1 (0)) 12 2 ((x.2.1 12 2) - (x.2.1 13 0))) 13 0 (0))) else ((sC (sC (sC x 12 1 ((x.2.1 12 1) + 1)) 12 2 ((x.2.1 12 2) - (x.2.1 13 (((x.2.1 12 1) + 1).toNatClampNeg)))) 13 (((x.2.1 12 1) + 1).toNatClampNeg) (0)))
set_option maxHeartbeats 4000000 in
set_option maxRecDepth 100000 in
theorem mX4_advance (l : Launch) (E : eE) (bb : Nat) (gd : Nat → Nat → Int32) (ch : Nat → Nat → Nat → Int32) (n : Nat) (hn : n < 3) (x : FS) (hok : okF x) : Met l yX4_advance wsX4_advance ({ frames := 0, cells := 0, slots := 0, locals := 0 }) (gPre E (cwf E bb gd ch n x) [.ref (bb + 21 + 14 * n + 12)]) (gQv E (cwf E bb gd ch n) (fX4_advance x) (cA bb)) 0 0 (cA bb) := by
  refine Met.ofW (cc := cX4_advance) (maxL := 1) (ret := none) (by decide) rfl ?_
  intro p e s m args below meth c s₁ B hml hv
  obtain ⟨rfl, hW, hK⟩ := hv
  have hx := B.exec
  have hb := B.bytes
  have hr := B.returns
  have hts := atoms_spec (ws := wsX4_advance) B.pre
  have hown : s.vm.findClass RX4 = some m.cls := findClass_of_methodNamed B.named
  have hlocks := B.notSynchronized
  have i4 : ∀ w ∈ wsX40, w ∈ wsX4_advance := by decide +kernel
  have kl9 := hts (.fieldLink RX4 9 "DosePump$HourOfStrokes" "counts" "[I") (by decide +kernel)
  have kl15 := hts (.fieldLink RX4 15 "DosePump$HourOfStrokes" "at" "I") (by decide +kernel)
  have kl19 := hts (.fieldLink RX4 19 "DosePump$HourOfStrokes" "sum" "I") (by decide +kernel)
  have hS : va_S (cA bb) s.heap s.heap [] := va_S.rf
  have hl := lv_entry ([.ref (bb + 21 + 14 * n + 12)]) (n := 1) (Nat.le_of_ble_eq_true rfl)
  rw [lg_entry_eq]
  generalize (lg_sl ([.ref (bb + 21 + 14 * n + 12)]) ++ List.replicate (1 - (lg_sl ([.ref (bb + 21 + 14 * n + 12)])).length) Slot.unset).toArray = ls at hl ⊢
  have hl : lv_has ls 1 [(0, .ref (bb + 21 + 14 * n + 12))] := hl
  have hf : fX4_advance x = (if (3600 : Int32) ≤ ((x.2.1 12 1) + 1) then ((sC (sC (sC x 12 1 (0)) 12 2 ((x.2.1 12 2) - (x.2.1 13 0))) 13 0 (0))) else ((sC (sC (sC x 12 1 ((x.2.1 12 1) + 1)) 12 2 ((x.2.1 12 2) - (x.2.1 13 (((x.2.1 12 1) + 1).toNatClampNeg)))) 13 (((x.2.1 12 1) + 1).toNatClampNeg) (0)))) := rfl
  refine lv_aload_n hx hb dX4_advance_0 rfl (lv_at hl 0 rfl) ?_
  refine lv_aload_n hx hb dX4_advance_1 rfl (lv_at hl 0 rfl) ?_
  refine fx_get (ci := 4) (v := .int (x.2.1 12 1)) hx hb hts i4 hown hK (cwf_C (o := 12) hW hn (by decide)) rfl 1 (by decide) kl15 rfl dX4_advance_2 ?_
  refine lv_iconst (v := 1) hx hb dX4_advance_5 (by decide) ?_
  refine lv_iadd hx hb dX4_advance_6 ?_
  refine lv_sipush (v := 3600) hx hb dX4_advance_7 (by decide) ?_
  refine lv_icmp_ge (tgt := 22) hx hb dX4_advance_10 (by decide) (fun c_10 => ?_) (fun c_10 => ?_)
  · have hf_10 := hf.trans (if_pos c_10)
    refine lv_iconst (v := 0) hx hb dX4_advance_22 (by decide) ?_
    refine fx_put (ci := 4) (v := .int (0)) hx hb hts i4 tyX4_ok nmX4 hown hK (cwf_C (o := 12) hW hn (by decide)) (cA_C hn (by decide)) hS rfl 1 (by decide) kl15 rfl rfl rfl (Nat.le_of_ble_eq_true rfl) dX4_advance_23 (fun H locs hat hne hS => ?_)
    have hW : cwf E bb gd ch n (sC x 12 1 (0)) H := cwf_sC (o := 12) (k := 1) (v := 0) hW hn (by decide) hat hne
    refine lv_aload_n hx hb dX4_advance_26 rfl (lv_at hl 0 rfl) ?_
    refine lv_dup hx hb dX4_advance_27 rfl ?_
    refine fx_get (ci := 4) (v := .int (x.2.1 12 2)) hx hb hts i4 hown hK (cwf_C (o := 12) hW hn (by decide)) rfl 2 (by decide) kl19 rfl dX4_advance_28 ?_
    refine lv_aload_n hx hb dX4_advance_31 rfl (lv_at hl 0 rfl) ?_
    refine fx_get (ci := 4) (v := .ref (bb + 21 + 14 * n + 13)) hx hb hts i4 hown hK (cwf_C (o := 12) hW hn (by decide)) rfl 0 (by decide) kl9 rfl dX4_advance_32 ?_
    refine lv_aload_n hx hb dX4_advance_35 rfl (lv_at hl 0 rfl) ?_
    refine fx_get (ci := 4) (v := .int (0)) hx hb hts i4 hown hK (cwf_C (o := 12) hW hn (by decide)) rfl 1 (by decide) kl15 rfl dX4_advance_36 ?_
    refine fx_ild hx hb hK 0 (cwf_C (o := 13) hW hn (by decide)) rfl (by unfold vp_in; decide) dX4_advance_39 ?_
    refine lv_isub hx hb dX4_advance_40 ?_
    refine fx_put (ci := 4) (v := .int ((x.2.1 12 2) - (x.2.1 13 0))) hx hb hts i4 tyX4_ok nmX4 hown hK (cwf_C (o := 12) hW hn (by decide)) (cA_C hn (by decide)) hS rfl 2 (by decide) kl19 rfl rfl rfl (Nat.le_of_ble_eq_true rfl) dX4_advance_41 (fun H locs hat hne hS => ?_)
    have hW : cwf E bb gd ch n (sC (sC x 12 1 (0)) 12 2 ((x.2.1 12 2) - (x.2.1 13 0))) H := cwf_sC (o := 12) (k := 2) (v := (x.2.1 12 2) - (x.2.1 13 0)) hW hn (by decide) hat hne
    refine lv_aload_n hx hb dX4_advance_44 rfl (lv_at hl 0 rfl) ?_
    refine fx_get (ci := 4) (v := .ref (bb + 21 + 14 * n + 13)) hx hb hts i4 hown hK (cwf_C (o := 12) hW hn (by decide)) rfl 0 (by decide) kl9 rfl dX4_advance_45 ?_
    refine lv_aload_n hx hb dX4_advance_48 rfl (lv_at hl 0 rfl) ?_
    refine fx_get (ci := 4) (v := .int (0)) hx hb hts i4 hown hK (cwf_C (o := 12) hW hn (by decide)) rfl 1 (by decide) kl15 rfl dX4_advance_49 ?_
    refine lv_iconst (v := 0) hx hb dX4_advance_52 (by decide) ?_
    refine fx_ist hx hb hK 0 (cwf_C (o := 13) hW hn (by decide)) (cA_C hn (by decide)) hS rfl (by unfold vp_in; decide) dX4_advance_53 (fun H locs hat hne hS => ?_)
    have hW : cwf E bb gd ch n (sC (sC (sC x 12 1 (0)) 12 2 ((x.2.1 12 2) - (x.2.1 13 0))) 13 0 (0)) H := cwf_sC (o := 13) (k := 0) (v := 0) hW hn (by decide) hat hne
    exact gx_vret hx hb hr hlocks hK hf_10 hW hS dX4_advance_54
  · have hf_10 := hf.trans (if_neg c_10)
    refine lv_aload_n hx hb dX4_advance_13 rfl (lv_at hl 0 rfl) ?_
    refine fx_get (ci := 4) (v := .int (x.2.1 12 1)) hx hb hts i4 hown hK (cwf_C (o := 12) hW hn (by decide)) rfl 1 (by decide) kl15 rfl dX4_advance_14 ?_
    refine lv_iconst (v := 1) hx hb dX4_advance_17 (by decide) ?_
    refine lv_iadd hx hb dX4_advance_18 ?_
    refine lv_goto (tgt := 23) hx hb dX4_advance_19 (by decide) ?_
    refine fx_put (ci := 4) (v := .int ((x.2.1 12 1) + 1)) hx hb hts i4 tyX4_ok nmX4 hown hK (cwf_C (o := 12) hW hn (by decide)) (cA_C hn (by decide)) hS rfl 1 (by decide) kl15 rfl rfl rfl (Nat.le_of_ble_eq_true rfl) dX4_advance_23 (fun H locs hat hne hS => ?_)
    have hW : cwf E bb gd ch n (sC x 12 1 ((x.2.1 12 1) + 1)) H := cwf_sC (o := 12) (k := 1) (v := (x.2.1 12 1) + 1) hW hn (by decide) hat hne
    refine lv_aload_n hx hb dX4_advance_26 rfl (lv_at hl 0 rfl) ?_
    refine lv_dup hx hb dX4_advance_27 rfl ?_
    refine fx_get (ci := 4) (v := .int (x.2.1 12 2)) hx hb hts i4 hown hK (cwf_C (o := 12) hW hn (by decide)) rfl 2 (by decide) kl19 rfl dX4_advance_28 ?_
    refine lv_aload_n hx hb dX4_advance_31 rfl (lv_at hl 0 rfl) ?_
    refine fx_get (ci := 4) (v := .ref (bb + 21 + 14 * n + 13)) hx hb hts i4 hown hK (cwf_C (o := 12) hW hn (by decide)) rfl 0 (by decide) kl9 rfl dX4_advance_32 ?_
    refine lv_aload_n hx hb dX4_advance_35 rfl (lv_at hl 0 rfl) ?_
    refine fx_get (ci := 4) (v := .int ((x.2.1 12 1) + 1)) hx hb hts i4 hown hK (cwf_C (o := 12) hW hn (by decide)) rfl 1 (by decide) kl15 rfl dX4_advance_36 ?_
    refine fx_ild hx hb hK 0 (cwf_C (o := 13) hW hn (by decide)) rfl (vi_next (M := 3600) rfl hok.1 c_10) dX4_advance_39 ?_
    refine lv_isub hx hb dX4_advance_40 ?_
    refine fx_put (ci := 4) (v := .int ((x.2.1 12 2) - (x.2.1 13 (((x.2.1 12 1) + 1).toNatClampNeg)))) hx hb hts i4 tyX4_ok nmX4 hown hK (cwf_C (o := 12) hW hn (by decide)) (cA_C hn (by decide)) hS rfl 2 (by decide) kl19 rfl rfl rfl (Nat.le_of_ble_eq_true rfl) dX4_advance_41 (fun H locs hat hne hS => ?_)
    have hW : cwf E bb gd ch n (sC (sC x 12 1 ((x.2.1 12 1) + 1)) 12 2 ((x.2.1 12 2) - (x.2.1 13 (((x.2.1 12 1) + 1).toNatClampNeg)))) H := cwf_sC (o := 12) (k := 2) (v := (x.2.1 12 2) - (x.2.1 13 (((x.2.1 12 1) + 1).toNatClampNeg))) hW hn (by decide) hat hne
    refine lv_aload_n hx hb dX4_advance_44 rfl (lv_at hl 0 rfl) ?_
    refine fx_get (ci := 4) (v := .ref (bb + 21 + 14 * n + 13)) hx hb hts i4 hown hK (cwf_C (o := 12) hW hn (by decide)) rfl 0 (by decide) kl9 rfl dX4_advance_45 ?_
    refine lv_aload_n hx hb dX4_advance_48 rfl (lv_at hl 0 rfl) ?_
    refine fx_get (ci := 4) (v := .int ((x.2.1 12 1) + 1)) hx hb hts i4 hown hK (cwf_C (o := 12) hW hn (by decide)) rfl 1 (by decide) kl15 rfl dX4_advance_49 ?_
    refine lv_iconst (v := 0) hx hb dX4_advance_52 (by decide) ?_
    refine fx_ist hx hb hK 0 (cwf_C (o := 13) hW hn (by decide)) (cA_C hn (by decide)) hS rfl (vi_next (M := 3600) rfl hok.1 c_10) dX4_advance_53 (fun H locs hat hne hS => ?_)
    have hW : cwf E bb gd ch n (sC (sC (sC x 12 1 ((x.2.1 12 1) + 1)) 12 2 ((x.2.1 12 2) - (x.2.1 13 (((x.2.1 12 1) + 1).toNatClampNeg)))) 13 (((x.2.1 12 1) + 1).toNatClampNeg) (0)) H := cwf_sC (o := 13) (k := (((x.2.1 12 1) + 1).toNatClampNeg)) (v := 0) hW hn (by decide) hat hne
    exact gx_vret hx hb hr hlocks hK hf_10 hW hS dX4_advance_54

theorem okX4_advance {x : FS} (hok : okF x) : okF (fX4_advance x) := by
  unfold fX4_advance
  split
  · exact ⟨vi_0 (by decide), hok.2⟩
  · rename_i c; exact ⟨vi_next (M := 3600) rfl hok.1 c, hok.2⟩

def fX4_add (x : FS) : FS := (sC (sC x 13 ((x.2.1 12 1).toNatClampNeg) ((x.2.1 13 ((x.2.1 12 1).toNatClampNeg)) + 1)) 12 2 ((x.2.1 12 2) + 1))
set_option maxHeartbeats 4000000 in
set_option maxRecDepth 100000 in
theorem mX4_add (l : Launch) (E : eE) (bb : Nat) (gd : Nat → Nat → Int32) (ch : Nat → Nat → Nat → Int32) (n : Nat) (hn : n < 3) (x : FS) (hok : okF x) : Met l yX4_add wsX4_add ({ frames := 0, cells := 0, slots := 0, locals := 0 }) (gPre E (cwf E bb gd ch n x) [.ref (bb + 21 + 14 * n + 12)]) (gQv E (cwf E bb gd ch n) (fX4_add x) (cA bb)) 0 0 (cA bb) := by
  refine Met.ofW (cc := cX4_add) (maxL := 1) (ret := none) (by decide) rfl ?_
  intro p e s m args below meth c s₁ B hml hv
  obtain ⟨rfl, hW, hK⟩ := hv
  have hx := B.exec
  have hb := B.bytes
  have hr := B.returns
  have hts := atoms_spec (ws := wsX4_add) B.pre
  have hown : s.vm.findClass RX4 = some m.cls := findClass_of_methodNamed B.named
  have hlocks := B.notSynchronized
  have i4 : ∀ w ∈ wsX40, w ∈ wsX4_add := by decide +kernel
  have kl9 := hts (.fieldLink RX4 9 "DosePump$HourOfStrokes" "counts" "[I") (by decide +kernel)
  have kl15 := hts (.fieldLink RX4 15 "DosePump$HourOfStrokes" "at" "I") (by decide +kernel)
  have kl19 := hts (.fieldLink RX4 19 "DosePump$HourOfStrokes" "sum" "I") (by decide +kernel)
  have hS : va_S (cA bb) s.heap s.heap [] := va_S.rf
  have hl := lv_entry ([.ref (bb + 21 + 14 * n + 12)]) (n := 1) (Nat.le_of_ble_eq_true rfl)
  rw [lg_entry_eq]
  generalize (lg_sl ([.ref (bb + 21 + 14 * n + 12)]) ++ List.replicate (1 - (lg_sl ([.ref (bb + 21 + 14 * n + 12)])).length) Slot.unset).toArray = ls at hl ⊢
  have hl : lv_has ls 1 [(0, .ref (bb + 21 + 14 * n + 12))] := hl
  have hf : fX4_add x = ((sC (sC x 13 ((x.2.1 12 1).toNatClampNeg) ((x.2.1 13 ((x.2.1 12 1).toNatClampNeg)) + 1)) 12 2 ((x.2.1 12 2) + 1))) := rfl
  refine lv_aload_n hx hb dX4_add_0 rfl (lv_at hl 0 rfl) ?_
  refine fx_get (ci := 4) (v := .ref (bb + 21 + 14 * n + 13)) hx hb hts i4 hown hK (cwf_C (o := 12) hW hn (by decide)) rfl 0 (by decide) kl9 rfl dX4_add_1 ?_
  refine lv_aload_n hx hb dX4_add_4 rfl (lv_at hl 0 rfl) ?_
  refine fx_get (ci := 4) (v := .int (x.2.1 12 1)) hx hb hts i4 hown hK (cwf_C (o := 12) hW hn (by decide)) rfl 1 (by decide) kl15 rfl dX4_add_5 ?_
  refine lv_dup2_11 hx hb dX4_add_8 rfl rfl ?_
  refine fx_ild hx hb hK 0 (cwf_C (o := 13) hW hn (by decide)) rfl hok.1 dX4_add_9 ?_
  refine lv_iconst (v := 1) hx hb dX4_add_10 (by decide) ?_
  refine lv_iadd hx hb dX4_add_11 ?_
  refine fx_ist hx hb hK 0 (cwf_C (o := 13) hW hn (by decide)) (cA_C hn (by decide)) hS rfl hok.1 dX4_add_12 (fun H locs hat hne hS => ?_)
  have hW : cwf E bb gd ch n (sC x 13 ((x.2.1 12 1).toNatClampNeg) ((x.2.1 13 ((x.2.1 12 1).toNatClampNeg)) + 1)) H := cwf_sC (o := 13) (k := ((x.2.1 12 1).toNatClampNeg)) (v := (x.2.1 13 ((x.2.1 12 1).toNatClampNeg)) + 1) hW hn (by decide) hat hne
  refine lv_aload_n hx hb dX4_add_13 rfl (lv_at hl 0 rfl) ?_
  refine lv_dup hx hb dX4_add_14 rfl ?_
  refine fx_get (ci := 4) (v := .int (x.2.1 12 2)) hx hb hts i4 hown hK (cwf_C (o := 12) hW hn (by decide)) rfl 2 (by decide) kl19 rfl dX4_add_15 ?_
  refine lv_iconst (v := 1) hx hb dX4_add_18 (by decide) ?_
  refine lv_iadd hx hb dX4_add_19 ?_
  refine fx_put (ci := 4) (v := .int ((x.2.1 12 2) + 1)) hx hb hts i4 tyX4_ok nmX4 hown hK (cwf_C (o := 12) hW hn (by decide)) (cA_C hn (by decide)) hS rfl 2 (by decide) kl19 rfl rfl rfl (Nat.le_of_ble_eq_true rfl) dX4_add_20 (fun H locs hat hne hS => ?_)
  have hW : cwf E bb gd ch n (sC (sC x 13 ((x.2.1 12 1).toNatClampNeg) ((x.2.1 13 ((x.2.1 12 1).toNatClampNeg)) + 1)) 12 2 ((x.2.1 12 2) + 1)) H := cwf_sC (o := 12) (k := 2) (v := (x.2.1 12 2) + 1) hW hn (by decide) hat hne
  exact gx_vret hx hb hr hlocks hK hf hW hS dX4_add_23

theorem okX4_add {x : FS} (hok : okF x) : okF (fX4_add x) := hok

def fX8_clear_7 (x : FS) : FS := (sC x 7 3 (0))
set_option maxHeartbeats 4000000 in
set_option maxRecDepth 100000 in
theorem mX8_clear_7 (l : Launch) (E : eE) (bb : Nat) (gd : Nat → Nat → Int32) (ch : Nat → Nat → Nat → Int32) (n : Nat) (hn : n < 3) (x : FS) : Met l yX8_clear wsX8_clear ({ frames := 0, cells := 0, slots := 0, locals := 0 }) (gPre E (cwf E bb gd ch n x) [.ref (bb + 21 + 14 * n + 7)]) (gQv E (cwf E bb gd ch n) (fX8_clear_7 x) (cA bb)) 0 0 (cA bb) := by
  refine Met.ofW (cc := cX8_clear) (maxL := 1) (ret := none) (by decide) rfl ?_
  intro p e s m args below meth c s₁ B hml hv
  obtain ⟨rfl, hW, hK⟩ := hv
  have hx := B.exec
  have hb := B.bytes
  have hr := B.returns
  have hts := atoms_spec (ws := wsX8_clear) B.pre
  have hown : s.vm.findClass RX8 = some m.cls := findClass_of_methodNamed B.named
  have hlocks := B.notSynchronized
  have i8 : ∀ w ∈ wsX80, w ∈ wsX8_clear := by decide +kernel
  have kl23 := hts (.fieldLink RX8 23 "DosePump$Recent" "count" "I") (by decide +kernel)
  have hS : va_S (cA bb) s.heap s.heap [] := va_S.rf
  have hl := lv_entry ([.ref (bb + 21 + 14 * n + 7)]) (n := 1) (Nat.le_of_ble_eq_true rfl)
  rw [lg_entry_eq]
  generalize (lg_sl ([.ref (bb + 21 + 14 * n + 7)]) ++ List.replicate (1 - (lg_sl ([.ref (bb + 21 + 14 * n + 7)])).length) Slot.unset).toArray = ls at hl ⊢
  have hl : lv_has ls 1 [(0, .ref (bb + 21 + 14 * n + 7))] := hl
  have hf : fX8_clear_7 x = ((sC x 7 3 (0))) := rfl
  refine lv_aload_n hx hb dX8_clear_0 rfl (lv_at hl 0 rfl) ?_
  refine lv_iconst (v := 0) hx hb dX8_clear_1 (by decide) ?_
  refine fx_put (ci := 8) (v := .int (0)) hx hb hts i8 tyX8_ok nmX8 hown hK (cwf_C (o := 7) hW hn (by decide)) (cA_C hn (by decide)) hS rfl 3 (by decide) kl23 rfl rfl rfl (Nat.le_of_ble_eq_true rfl) dX8_clear_2 (fun H locs hat hne hS => ?_)
  have hW : cwf E bb gd ch n (sC x 7 3 (0)) H := cwf_sC (o := 7) (k := 3) (v := 0) hW hn (by decide) hat hne
  exact gx_vret hx hb hr hlocks hK hf hW hS dX8_clear_5

theorem okX8_clear_7 {x : FS} (hok : okF x) : okF (fX8_clear_7 x) := ⟨hok.1, hok.2.1, vi_0 (by decide), hok.2.2.2⟩

def fX8_add_7 (p1 : Int32) (x : FS) : FS := if (20 : Int32) ≤ (x.2.1 7 3) then (x) else (if (20 : Int32) ≤ ((x.2.1 7 2) + (x.2.1 7 3)) then ((sC (sC x 8 ((((x.2.1 7 2) + (x.2.1 7 3)) - 20).toNatClampNeg) (p1)) 7 3 ((x.2.1 7 3) + 1))) else ((sC (sC x 8 (((x.2.1 7 2) + (x.2.1 7 3)).toNatClampNeg) (p1)) 7 3 ((x.2.1 7 3) + 1))))
set_option maxHeartbeats 4000000 in
set_option maxRecDepth 100000 in
theorem mX8_add_7 (l : Launch) (E : eE) (bb : Nat) (gd : Nat → Nat → Int32) (ch : Nat → Nat → Nat → Int32) (n : Nat) (hn : n < 3) (x : FS) (p1 : Int32) (hok : okF x) : Met l yX8_add wsX8_add ({ frames := 0, cells := 0, slots := 0, locals := 0 }) (gPre E (cwf E bb gd ch n x) [.ref (bb + 21 + 14 * n + 7), .int (p1)]) (gQv E (cwf E bb gd ch n) (fX8_add_7 p1 x) (cA bb)) 0 0 (cA bb) := by
  refine Met.ofW (cc := cX8_add) (maxL := 3) (ret := none) (by decide) rfl ?_
  intro p e s m args below meth c s₁ B hml hv
  obtain ⟨rfl, hW, hK⟩ := hv
  have hx := B.exec
  have hb := B.bytes
  have hr := B.returns
  have hts := atoms_spec (ws := wsX8_add) B.pre
  have hown : s.vm.findClass RX8 = some m.cls := findClass_of_methodNamed B.named
  have hlocks := B.notSynchronized
  have i8 : ∀ w ∈ wsX80, w ∈ wsX8_add := by decide +kernel
  have kl19 := hts (.fieldLink RX8 19 "DosePump$Recent" "times" "[I") (by decide +kernel)
  have kl23 := hts (.fieldLink RX8 23 "DosePump$Recent" "count" "I") (by decide +kernel)
  have kl26 := hts (.fieldLink RX8 26 "DosePump$Recent" "oldest" "I") (by decide +kernel)
  have hS : va_S (cA bb) s.heap s.heap [] := va_S.rf
  have hl := lv_entry ([.ref (bb + 21 + 14 * n + 7), .int (p1)]) (n := 3) (Nat.le_of_ble_eq_true rfl)
  rw [lg_entry_eq]
  generalize (lg_sl ([.ref (bb + 21 + 14 * n + 7), .int (p1)]) ++ List.replicate (3 - (lg_sl ([.ref (bb + 21 + 14 * n + 7), .int (p1)])).length) Slot.unset).toArray = ls at hl ⊢
  have hl : lv_has ls 3 [(0, .ref (bb + 21 + 14 * n + 7)), (1, .int (p1))] := hl
  have hf : fX8_add_7 p1 x = (if (20 : Int32) ≤ (x.2.1 7 3) then (x) else (if (20 : Int32) ≤ ((x.2.1 7 2) + (x.2.1 7 3)) then ((sC (sC x 8 ((((x.2.1 7 2) + (x.2.1 7 3)) - 20).toNatClampNeg) (p1)) 7 3 ((x.2.1 7 3) + 1))) else ((sC (sC x 8 (((x.2.1 7 2) + (x.2.1 7 3)).toNatClampNeg) (p1)) 7 3 ((x.2.1 7 3) + 1))))) := rfl
  refine lv_aload_n hx hb dX8_add_0 rfl (lv_at hl 0 rfl) ?_
  refine fx_get (ci := 8) (v := .int (x.2.1 7 3)) hx hb hts i8 hown hK (cwf_C (o := 7) hW hn (by decide)) rfl 3 (by decide) kl23 rfl dX8_add_1 ?_
  refine lv_aload_n hx hb dX8_add_4 rfl (lv_at hl 0 rfl) ?_
  refine fx_get (ci := 8) (v := .ref (bb + 21 + 14 * n + 8)) hx hb hts i8 hown hK (cwf_C (o := 7) hW hn (by decide)) rfl 1 (by decide) kl19 rfl dX8_add_5 ?_
  refine fx_len (v := 20) hx hb hK 0 (cwf_C (o := 8) hW hn (by decide)) rfl rfl dX8_add_8 ?_
  refine lv_icmp_ge (tgt := 58) hx hb dX8_add_9 (by decide) (fun c_9 => ?_) (fun c_9 => ?_)
  · have hf_9 := hf.trans (if_pos c_9)
    exact gx_vret hx hb hr hlocks hK hf_9 hW hS dX8_add_58
  · have hf_9 := hf.trans (if_neg c_9)
    refine lv_aload_n hx hb dX8_add_12 rfl (lv_at hl 0 rfl) ?_
    refine fx_get (ci := 8) (v := .int (x.2.1 7 2)) hx hb hts i8 hown hK (cwf_C (o := 7) hW hn (by decide)) rfl 2 (by decide) kl26 rfl dX8_add_13 ?_
    refine lv_aload_n hx hb dX8_add_16 rfl (lv_at hl 0 rfl) ?_
    refine fx_get (ci := 8) (v := .int (x.2.1 7 3)) hx hb hts i8 hown hK (cwf_C (o := 7) hW hn (by decide)) rfl 3 (by decide) kl23 rfl dX8_add_17 ?_
    refine lv_iadd hx hb dX8_add_20 ?_
    refine lv_istore_n (lv' := [(2, .int ((x.2.1 7 2) + (x.2.1 7 3))), (0, .ref (bb + 21 + 14 * n + 7)), (1, .int (p1))]) hx hb dX8_add_21 rfl hl (by decide) rfl (fun ls hl => ?_)
    refine lv_aload_n hx hb dX8_add_22 rfl (lv_at hl 1 rfl) ?_
    refine fx_get (ci := 8) (v := .ref (bb + 21 + 14 * n + 8)) hx hb hts i8 hown hK (cwf_C (o := 7) hW hn (by decide)) rfl 1 (by decide) kl19 rfl dX8_add_23 ?_
    refine lv_iload_n hx hb dX8_add_26 rfl (lv_at hl 0 rfl) ?_
    refine lv_aload_n hx hb dX8_add_27 rfl (lv_at hl 1 rfl) ?_
    refine fx_get (ci := 8) (v := .ref (bb + 21 + 14 * n + 8)) hx hb hts i8 hown hK (cwf_C (o := 7) hW hn (by decide)) rfl 1 (by decide) kl19 rfl dX8_add_28 ?_
    refine fx_len (v := 20) hx hb hK 0 (cwf_C (o := 8) hW hn (by decide)) rfl rfl dX8_add_31 ?_
    refine lv_icmp_ge (tgt := 39) hx hb dX8_add_32 (by decide) (fun c_32 => ?_) (fun c_32 => ?_)
    · have hf_32 := hf_9.trans (if_pos c_32)
      refine lv_iload_n hx hb dX8_add_39 rfl (lv_at hl 0 rfl) ?_
      refine lv_aload_n hx hb dX8_add_40 rfl (lv_at hl 1 rfl) ?_
      refine fx_get (ci := 8) (v := .ref (bb + 21 + 14 * n + 8)) hx hb hts i8 hown hK (cwf_C (o := 7) hW hn (by decide)) rfl 1 (by decide) kl19 rfl dX8_add_41 ?_
      refine fx_len (v := 20) hx hb hK 0 (cwf_C (o := 8) hW hn (by decide)) rfl rfl dX8_add_44 ?_
      refine lv_isub hx hb dX8_add_45 ?_
      refine lv_iload_n hx hb dX8_add_46 rfl (lv_at hl 2 rfl) ?_
      refine fx_ist hx hb hK 0 (cwf_C (o := 8) hW hn (by decide)) (cA_C hn (by decide)) hS rfl (vi_ring2 (M := 20) hok.2.1 hok.2.2.1 (by decide) rfl c_9 c_32) dX8_add_47 (fun H locs hat hne hS => ?_)
      have hW : cwf E bb gd ch n (sC x 8 ((((x.2.1 7 2) + (x.2.1 7 3)) - 20).toNatClampNeg) (p1)) H := cwf_sC (o := 8) (k := ((((x.2.1 7 2) + (x.2.1 7 3)) - 20).toNatClampNeg)) (v := p1) hW hn (by decide) hat hne
      refine lv_aload_n hx hb dX8_add_48 rfl (lv_at hl 1 rfl) ?_
      refine lv_dup hx hb dX8_add_49 rfl ?_
      refine fx_get (ci := 8) (v := .int (x.2.1 7 3)) hx hb hts i8 hown hK (cwf_C (o := 7) hW hn (by decide)) rfl 3 (by decide) kl23 rfl dX8_add_50 ?_
      refine lv_iconst (v := 1) hx hb dX8_add_53 (by decide) ?_
      refine lv_iadd hx hb dX8_add_54 ?_
      refine fx_put (ci := 8) (v := .int ((x.2.1 7 3) + 1)) hx hb hts i8 tyX8_ok nmX8 hown hK (cwf_C (o := 7) hW hn (by decide)) (cA_C hn (by decide)) hS rfl 3 (by decide) kl23 rfl rfl rfl (Nat.le_of_ble_eq_true rfl) dX8_add_55 (fun H locs hat hne hS => ?_)
      have hW : cwf E bb gd ch n (sC (sC x 8 ((((x.2.1 7 2) + (x.2.1 7 3)) - 20).toNatClampNeg) (p1)) 7 3 ((x.2.1 7 3) + 1)) H := cwf_sC (o := 7) (k := 3) (v := (x.2.1 7 3) + 1) hW hn (by decide) hat hne
      exact gx_vret hx hb hr hlocks hK hf_32 hW hS dX8_add_58
    · have hf_32 := hf_9.trans (if_neg c_32)
      refine lv_iload_n hx hb dX8_add_35 rfl (lv_at hl 0 rfl) ?_
      refine lv_goto (tgt := 46) hx hb dX8_add_36 (by decide) ?_
      refine lv_iload_n hx hb dX8_add_46 rfl (lv_at hl 2 rfl) ?_
      refine fx_ist hx hb hK 0 (cwf_C (o := 8) hW hn (by decide)) (cA_C hn (by decide)) hS rfl (vi_ring1 (M := 20) hok.2.1 hok.2.2.1 (by decide) rfl c_32) dX8_add_47 (fun H locs hat hne hS => ?_)
      have hW : cwf E bb gd ch n (sC x 8 (((x.2.1 7 2) + (x.2.1 7 3)).toNatClampNeg) (p1)) H := cwf_sC (o := 8) (k := (((x.2.1 7 2) + (x.2.1 7 3)).toNatClampNeg)) (v := p1) hW hn (by decide) hat hne
      refine lv_aload_n hx hb dX8_add_48 rfl (lv_at hl 1 rfl) ?_
      refine lv_dup hx hb dX8_add_49 rfl ?_
      refine fx_get (ci := 8) (v := .int (x.2.1 7 3)) hx hb hts i8 hown hK (cwf_C (o := 7) hW hn (by decide)) rfl 3 (by decide) kl23 rfl dX8_add_50 ?_
      refine lv_iconst (v := 1) hx hb dX8_add_53 (by decide) ?_
      refine lv_iadd hx hb dX8_add_54 ?_
      refine fx_put (ci := 8) (v := .int ((x.2.1 7 3) + 1)) hx hb hts i8 tyX8_ok nmX8 hown hK (cwf_C (o := 7) hW hn (by decide)) (cA_C hn (by decide)) hS rfl 3 (by decide) kl23 rfl rfl rfl (Nat.le_of_ble_eq_true rfl) dX8_add_55 (fun H locs hat hne hS => ?_)
      have hW : cwf E bb gd ch n (sC (sC x 8 (((x.2.1 7 2) + (x.2.1 7 3)).toNatClampNeg) (p1)) 7 3 ((x.2.1 7 3) + 1)) H := cwf_sC (o := 7) (k := 3) (v := (x.2.1 7 3) + 1) hW hn (by decide) hat hne
      exact gx_vret hx hb hr hlocks hK hf_32 hW hS dX8_add_58

theorem okX8_add_7 {p1 : Int32} {x : FS} (hok : okF x) : okF (fX8_add_7 p1 x) := by
  unfold fX8_add_7
  split
  · exact hok
  · rename_i c
    split <;> exact ⟨hok.1, hok.2.1, vi_succ (M := 20) rfl hok.2.2.1 c, hok.2.2.2⟩

def fX8_forgetOld_7_L2 (p1 : Int32) : Nat → FS → Int32 → FS
  | 0, y, v2 => y
  | k9 + 1, y, v2 => if (20 : Int32) ≤ v2 then (y) else (if (y.2.1 7 3) ≤ 0 then (y) else (if (p1 - (y.2.1 8 ((y.2.1 7 2).toNatClampNeg))) < 3600 then (y) else (if (20 : Int32) ≤ ((y.2.1 7 2) + 1) then (fX8_forgetOld_7_L2 p1 k9 (sC (sC y 7 2 (0)) 7 3 ((y.2.1 7 3) - 1)) (v2 + 1)) else (fX8_forgetOld_7_L2 p1 k9 (sC (sC y 7 2 ((y.2.1 7 2) + 1)) 7 3 ((y.2.1 7 3) - 1)) (v2 + 1)))))
def fX8_forgetOld_7 (p1 : Int32) (x : FS) : FS := fX8_forgetOld_7_L2 p1 (mu32 0 20 + 1) x 0
set_option maxHeartbeats 4000000 in
set_option maxRecDepth 100000 in
theorem mX8_forgetOld_7 (l : Launch) (E : eE) (bb : Nat) (gd : Nat → Nat → Int32) (ch : Nat → Nat → Nat → Int32) (n : Nat) (hn : n < 3) (x : FS) (p1 : Int32) (hok : okF x) : Met l yX8_forgetOld wsX8_forgetOld ({ frames := 0, cells := 0, slots := 0, locals := 0 }) (gPre E (cwf E bb gd ch n x) [.ref (bb + 21 + 14 * n + 7), .int (p1)]) (gQv E (cwf E bb gd ch n) (fX8_forgetOld_7 p1 x) (cA bb)) 0 0 (cA bb) := by
  refine Met.ofW (cc := cX8_forgetOld) (maxL := 3) (ret := none) (by decide) rfl ?_
  intro p e s m args below meth c s₁ B hml hv
  obtain ⟨rfl, hW, hK⟩ := hv
  have hx := B.exec
  have hb := B.bytes
  have hr := B.returns
  have hts := atoms_spec (ws := wsX8_forgetOld) B.pre
  have hown : s.vm.findClass RX8 = some m.cls := findClass_of_methodNamed B.named
  have hlocks := B.notSynchronized
  have i8 : ∀ w ∈ wsX80, w ∈ wsX8_forgetOld := by decide +kernel
  have kl7 := hts (.fieldLink RX8 7 "DosePump$Recent" "span" "I") (by decide +kernel)
  have kl19 := hts (.fieldLink RX8 19 "DosePump$Recent" "times" "[I") (by decide +kernel)
  have kl23 := hts (.fieldLink RX8 23 "DosePump$Recent" "count" "I") (by decide +kernel)
  have kl26 := hts (.fieldLink RX8 26 "DosePump$Recent" "oldest" "I") (by decide +kernel)
  have hS : va_S (cA bb) s.heap s.heap [] := va_S.rf
  have hl := lv_entry ([.ref (bb + 21 + 14 * n + 7), .int (p1)]) (n := 3) (Nat.le_of_ble_eq_true rfl)
  rw [lg_entry_eq]
  generalize (lg_sl ([.ref (bb + 21 + 14 * n + 7), .int (p1)]) ++ List.replicate (3 - (lg_sl ([.ref (bb + 21 + 14 * n + 7), .int (p1)])).length) Slot.unset).toArray = ls at hl ⊢
  have hl : lv_has ls 3 [(0, .ref (bb + 21 + 14 * n + 7)), (1, .int (p1))] := hl
  have J2 : ∀ (k8 : Nat) (H : Heap) (locs : List Loc) (ls : Array Slot) (y : FS) (v2 : Int32), cwf E bb gd ch n y H → va_S (cA bb) s.heap H locs → lv_has ls 3 [(0, .ref (bb + 21 + 14 * n + 7)), (1, .int (p1)), (2, .int (v2))] → okF y → mu32 v2 20 < k8 → fX8_forgetOld_7 p1 x = fX8_forgetOld_7_L2 p1 k8 y v2 → W p l e (headSpec wsX8_forgetOld { frames := 0, cells := 0, slots := 0, locals := 0 }).room s m ([.ref (bb + 21 + 14 * n + 7), .int (p1)] : List Value).toArray below meth c H locs 0 0 (MQ below (gQv E (cwf E bb gd ch n) (fX8_forgetOld_7 p1 x) (cA bb)) ([.ref (bb + 21 + 14 * n + 7), .int (p1)] : List Value).toArray s 0 0 (cA bb)) (F0 m 2 ls []) := by
    intro k8
    induction k8 with
    | zero =>
      intro H locs ls y v2 hW hS hl hok hmu hf
      exact absurd hmu (by omega)
    | succ k9 ih =>
      intro H locs ls y v2 hW hS hl hok hmu hf
      replace hf : fX8_forgetOld_7 p1 x = (if (20 : Int32) ≤ v2 then (y) else (if (y.2.1 7 3) ≤ 0 then (y) else (if (p1 - (y.2.1 8 ((y.2.1 7 2).toNatClampNeg))) < 3600 then (y) else (if (20 : Int32) ≤ ((y.2.1 7 2) + 1) then (fX8_forgetOld_7_L2 p1 k9 (sC (sC y 7 2 (0)) 7 3 ((y.2.1 7 3) - 1)) (v2 + 1)) else (fX8_forgetOld_7_L2 p1 k9 (sC (sC y 7 2 ((y.2.1 7 2) + 1)) 7 3 ((y.2.1 7 3) - 1)) (v2 + 1)))))) := hf
      refine lv_iload_n hx hb dX8_forgetOld_2 rfl (lv_at hl 2 rfl) ?_
      refine lv_aload_n hx hb dX8_forgetOld_3 rfl (lv_at hl 0 rfl) ?_
      refine fx_get (ci := 8) (v := .ref (bb + 21 + 14 * n + 8)) hx hb hts i8 hown hK (cwf_C (o := 7) hW hn (by decide)) rfl 1 (by decide) kl19 rfl dX8_forgetOld_4 ?_
      refine fx_len (v := 20) hx hb hK 0 (cwf_C (o := 8) hW hn (by decide)) rfl rfl dX8_forgetOld_7 ?_
      refine lv_icmp_ge (tgt := 80) hx hb dX8_forgetOld_8 (by decide) (fun c_8 => ?_) (fun c_8 => ?_)
      · have hf_8 := hf.trans (if_pos c_8)
        exact gx_vret hx hb hr hlocks hK hf_8 hW hS dX8_forgetOld_80
      · have hf_8 := hf.trans (if_neg c_8)
        refine lv_aload_n hx hb dX8_forgetOld_11 rfl (lv_at hl 0 rfl) ?_
        refine fx_get (ci := 8) (v := .int (y.2.1 7 3)) hx hb hts i8 hown hK (cwf_C (o := 7) hW hn (by decide)) rfl 3 (by decide) kl23 rfl dX8_forgetOld_12 ?_
        refine lv_if_le (tgt := 80) hx hb dX8_forgetOld_15 (by decide) (fun c_15 => ?_) (fun c_15 => ?_)
        · have hf_15 := hf_8.trans (if_pos c_15)
          exact gx_vret hx hb hr hlocks hK hf_15 hW hS dX8_forgetOld_80
        · have hf_15 := hf_8.trans (if_neg c_15)
          refine lv_iload_n hx hb dX8_forgetOld_18 rfl (lv_at hl 1 rfl) ?_
          refine lv_aload_n hx hb dX8_forgetOld_19 rfl (lv_at hl 0 rfl) ?_
          refine fx_get (ci := 8) (v := .ref (bb + 21 + 14 * n + 8)) hx hb hts i8 hown hK (cwf_C (o := 7) hW hn (by decide)) rfl 1 (by decide) kl19 rfl dX8_forgetOld_20 ?_
          refine lv_aload_n hx hb dX8_forgetOld_23 rfl (lv_at hl 0 rfl) ?_
          refine fx_get (ci := 8) (v := .int (y.2.1 7 2)) hx hb hts i8 hown hK (cwf_C (o := 7) hW hn (by decide)) rfl 2 (by decide) kl26 rfl dX8_forgetOld_24 ?_
          refine fx_ild hx hb hK 0 (cwf_C (o := 8) hW hn (by decide)) rfl hok.2.1 dX8_forgetOld_27 ?_
          refine lv_isub hx hb dX8_forgetOld_28 ?_
          refine lv_aload_n hx hb dX8_forgetOld_29 rfl (lv_at hl 0 rfl) ?_
          refine fx_get (ci := 8) (v := .int (3600)) hx hb hts i8 hown hK (cwf_C (o := 7) hW hn (by decide)) rfl 0 (by decide) kl7 rfl dX8_forgetOld_30 ?_
          refine lv_icmp_lt (tgt := 80) hx hb dX8_forgetOld_33 (by decide) (fun c_33 => ?_) (fun c_33 => ?_)
          · have hf_33 := hf_15.trans (if_pos c_33)
            exact gx_vret hx hb hr hlocks hK hf_33 hW hS dX8_forgetOld_80
          · have hf_33 := hf_15.trans (if_neg c_33)
            refine lv_aload_n hx hb dX8_forgetOld_36 rfl (lv_at hl 0 rfl) ?_
            refine lv_aload_n hx hb dX8_forgetOld_37 rfl (lv_at hl 0 rfl) ?_
            refine fx_get (ci := 8) (v := .int (y.2.1 7 2)) hx hb hts i8 hown hK (cwf_C (o := 7) hW hn (by decide)) rfl 2 (by decide) kl26 rfl dX8_forgetOld_38 ?_
            refine lv_iconst (v := 1) hx hb dX8_forgetOld_41 (by decide) ?_
            refine lv_iadd hx hb dX8_forgetOld_42 ?_
            refine lv_aload_n hx hb dX8_forgetOld_43 rfl (lv_at hl 0 rfl) ?_
            refine fx_get (ci := 8) (v := .ref (bb + 21 + 14 * n + 8)) hx hb hts i8 hown hK (cwf_C (o := 7) hW hn (by decide)) rfl 1 (by decide) kl19 rfl dX8_forgetOld_44 ?_
            refine fx_len (v := 20) hx hb hK 0 (cwf_C (o := 8) hW hn (by decide)) rfl rfl dX8_forgetOld_47 ?_
            refine lv_icmp_ge (tgt := 60) hx hb dX8_forgetOld_48 (by decide) (fun c_48 => ?_) (fun c_48 => ?_)
            · have hf_48 := hf_33.trans (if_pos c_48)
              refine lv_iconst (v := 0) hx hb dX8_forgetOld_60 (by decide) ?_
              refine fx_put (ci := 8) (v := .int (0)) hx hb hts i8 tyX8_ok nmX8 hown hK (cwf_C (o := 7) hW hn (by decide)) (cA_C hn (by decide)) hS rfl 2 (by decide) kl26 rfl rfl rfl (Nat.le_of_ble_eq_true rfl) dX8_forgetOld_61 (fun H locs hat hne hS => ?_)
              have hW : cwf E bb gd ch n (sC y 7 2 (0)) H := cwf_sC (o := 7) (k := 2) (v := 0) hW hn (by decide) hat hne
              refine lv_aload_n hx hb dX8_forgetOld_64 rfl (lv_at hl 0 rfl) ?_
              refine lv_dup hx hb dX8_forgetOld_65 rfl ?_
              refine fx_get (ci := 8) (v := .int (y.2.1 7 3)) hx hb hts i8 hown hK (cwf_C (o := 7) hW hn (by decide)) rfl 3 (by decide) kl23 rfl dX8_forgetOld_66 ?_
              refine lv_iconst (v := 1) hx hb dX8_forgetOld_69 (by decide) ?_
              refine lv_isub hx hb dX8_forgetOld_70 ?_
              refine fx_put (ci := 8) (v := .int ((y.2.1 7 3) - 1)) hx hb hts i8 tyX8_ok nmX8 hown hK (cwf_C (o := 7) hW hn (by decide)) (cA_C hn (by decide)) hS rfl 3 (by decide) kl23 rfl rfl rfl (Nat.le_of_ble_eq_true rfl) dX8_forgetOld_71 (fun H locs hat hne hS => ?_)
              have hW : cwf E bb gd ch n (sC (sC y 7 2 (0)) 7 3 ((y.2.1 7 3) - 1)) H := cwf_sC (o := 7) (k := 3) (v := (y.2.1 7 3) - 1) hW hn (by decide) hat hne
              refine lv_iinc (v := v2 + 1) (lv' := [(2, .int (v2 + 1)), (0, .ref (bb + 21 + 14 * n + 7)), (1, .int (p1))]) hx hb dX8_forgetOld_74 hl (k := 2) rfl (by first | rfl | decide) (by decide) rfl (fun ls hl => ?_)
              refine lv_goto (tgt := 2) hx hb dX8_forgetOld_77 (by decide) ?_
              exact ih _ _ _ (sC (sC y 7 2 (0)) 7 3 ((y.2.1 7 3) - 1)) (v2 + 1) hW hS (lv_sub hl [1, 2, 0] rfl) ⟨hok.1, (vi_0 (by decide)), (vi_pred hok.2.2.1 c_15), hok.2.2.2⟩ (mu32_step c_8 hmu) hf_48
            · have hf_48 := hf_33.trans (if_neg c_48)
              refine lv_aload_n hx hb dX8_forgetOld_51 rfl (lv_at hl 0 rfl) ?_
              refine fx_get (ci := 8) (v := .int (y.2.1 7 2)) hx hb hts i8 hown hK (cwf_C (o := 7) hW hn (by decide)) rfl 2 (by decide) kl26 rfl dX8_forgetOld_52 ?_
              refine lv_iconst (v := 1) hx hb dX8_forgetOld_55 (by decide) ?_
              refine lv_iadd hx hb dX8_forgetOld_56 ?_
              refine lv_goto (tgt := 61) hx hb dX8_forgetOld_57 (by decide) ?_
              refine fx_put (ci := 8) (v := .int ((y.2.1 7 2) + 1)) hx hb hts i8 tyX8_ok nmX8 hown hK (cwf_C (o := 7) hW hn (by decide)) (cA_C hn (by decide)) hS rfl 2 (by decide) kl26 rfl rfl rfl (Nat.le_of_ble_eq_true rfl) dX8_forgetOld_61 (fun H locs hat hne hS => ?_)
              have hW : cwf E bb gd ch n (sC y 7 2 ((y.2.1 7 2) + 1)) H := cwf_sC (o := 7) (k := 2) (v := (y.2.1 7 2) + 1) hW hn (by decide) hat hne
              refine lv_aload_n hx hb dX8_forgetOld_64 rfl (lv_at hl 0 rfl) ?_
              refine lv_dup hx hb dX8_forgetOld_65 rfl ?_
              refine fx_get (ci := 8) (v := .int (y.2.1 7 3)) hx hb hts i8 hown hK (cwf_C (o := 7) hW hn (by decide)) rfl 3 (by decide) kl23 rfl dX8_forgetOld_66 ?_
              refine lv_iconst (v := 1) hx hb dX8_forgetOld_69 (by decide) ?_
              refine lv_isub hx hb dX8_forgetOld_70 ?_
              refine fx_put (ci := 8) (v := .int ((y.2.1 7 3) - 1)) hx hb hts i8 tyX8_ok nmX8 hown hK (cwf_C (o := 7) hW hn (by decide)) (cA_C hn (by decide)) hS rfl 3 (by decide) kl23 rfl rfl rfl (Nat.le_of_ble_eq_true rfl) dX8_forgetOld_71 (fun H locs hat hne hS => ?_)
              have hW : cwf E bb gd ch n (sC (sC y 7 2 ((y.2.1 7 2) + 1)) 7 3 ((y.2.1 7 3) - 1)) H := cwf_sC (o := 7) (k := 3) (v := (y.2.1 7 3) - 1) hW hn (by decide) hat hne
              refine lv_iinc (v := v2 + 1) (lv' := [(2, .int (v2 + 1)), (0, .ref (bb + 21 + 14 * n + 7)), (1, .int (p1))]) hx hb dX8_forgetOld_74 hl (k := 2) rfl (by first | rfl | decide) (by decide) rfl (fun ls hl => ?_)
              refine lv_goto (tgt := 2) hx hb dX8_forgetOld_77 (by decide) ?_
              exact ih _ _ _ (sC (sC y 7 2 ((y.2.1 7 2) + 1)) 7 3 ((y.2.1 7 3) - 1)) (v2 + 1) hW hS (lv_sub hl [1, 2, 0] rfl) ⟨hok.1, (vi_next (M := 20) rfl hok.2.1 c_48), (vi_pred hok.2.2.1 c_15), hok.2.2.2⟩ (mu32_step c_8 hmu) hf_48
  have hf : fX8_forgetOld_7 p1 x = (fX8_forgetOld_7_L2 p1 (mu32 0 20 + 1) x 0) := rfl
  refine lv_iconst (v := 0) hx hb dX8_forgetOld_0 (by decide) ?_
  refine lv_istore_n (lv' := [(2, .int (0)), (0, .ref (bb + 21 + 14 * n + 7)), (1, .int (p1))]) hx hb dX8_forgetOld_1 rfl hl (by decide) rfl (fun ls hl => ?_)
  exact J2 _ _ _ _ x 0 hW hS (lv_sub hl [1, 2, 0] rfl) hok (Nat.lt_succ_self _) hf

theorem okX8_forgetOld_7 {p1 : Int32} {x : FS} (hok : okF x) : okF (fX8_forgetOld_7 p1 x) := by
  have key : ∀ (k : Nat) (y : FS) (v : Int32), okF y → okF (fX8_forgetOld_7_L2 p1 k y v) := by
    intro k
    induction k with
    | zero => intro y v hok; exact hok
    | succ k ih =>
      intro y v hok
      unfold fX8_forgetOld_7_L2
      split
      · exact hok
      · split
        · exact hok
        · rename_i c2
          split
          · exact hok
          · split
            · exact ih _ _ ⟨hok.1, (vi_0 (by decide)), vi_pred hok.2.2.1 c2, hok.2.2.2⟩
            · rename_i c4
              exact ih _ _ ⟨hok.1, vi_next (M := 20) rfl hok.2.1 c4, vi_pred hok.2.2.1 c2, hok.2.2.2⟩
  exact key _ _ _ hok

def fX8_clear_10 (x : FS) : FS := (sC x 10 3 (0))
set_option maxHeartbeats 4000000 in
set_option maxRecDepth 100000 in
theorem mX8_clear_10 (l : Launch) (E : eE) (bb : Nat) (gd : Nat → Nat → Int32) (ch : Nat → Nat → Nat → Int32) (n : Nat) (hn : n < 3) (x : FS) : Met l yX8_clear wsX8_clear ({ frames := 0, cells := 0, slots := 0, locals := 0 }) (gPre E (cwf E bb gd ch n x) [.ref (bb + 21 + 14 * n + 10)]) (gQv E (cwf E bb gd ch n) (fX8_clear_10 x) (cA bb)) 0 0 (cA bb) := by
  refine Met.ofW (cc := cX8_clear) (maxL := 1) (ret := none) (by decide) rfl ?_
  intro p e s m args below meth c s₁ B hml hv
  obtain ⟨rfl, hW, hK⟩ := hv
  have hx := B.exec
  have hb := B.bytes
  have hr := B.returns
  have hts := atoms_spec (ws := wsX8_clear) B.pre
  have hown : s.vm.findClass RX8 = some m.cls := findClass_of_methodNamed B.named
  have hlocks := B.notSynchronized
  have i8 : ∀ w ∈ wsX80, w ∈ wsX8_clear := by decide +kernel
  have kl23 := hts (.fieldLink RX8 23 "DosePump$Recent" "count" "I") (by decide +kernel)
  have hS : va_S (cA bb) s.heap s.heap [] := va_S.rf
  have hl := lv_entry ([.ref (bb + 21 + 14 * n + 10)]) (n := 1) (Nat.le_of_ble_eq_true rfl)
  rw [lg_entry_eq]
  generalize (lg_sl ([.ref (bb + 21 + 14 * n + 10)]) ++ List.replicate (1 - (lg_sl ([.ref (bb + 21 + 14 * n + 10)])).length) Slot.unset).toArray = ls at hl ⊢
  have hl : lv_has ls 1 [(0, .ref (bb + 21 + 14 * n + 10))] := hl
  have hf : fX8_clear_10 x = ((sC x 10 3 (0))) := rfl
  refine lv_aload_n hx hb dX8_clear_0 rfl (lv_at hl 0 rfl) ?_
  refine lv_iconst (v := 0) hx hb dX8_clear_1 (by decide) ?_
  refine fx_put (ci := 8) (v := .int (0)) hx hb hts i8 tyX8_ok nmX8 hown hK (cwf_C (o := 10) hW hn (by decide)) (cA_C hn (by decide)) hS rfl 3 (by decide) kl23 rfl rfl rfl (Nat.le_of_ble_eq_true rfl) dX8_clear_2 (fun H locs hat hne hS => ?_)
  have hW : cwf E bb gd ch n (sC x 10 3 (0)) H := cwf_sC (o := 10) (k := 3) (v := 0) hW hn (by decide) hat hne
  exact gx_vret hx hb hr hlocks hK hf hW hS dX8_clear_5

theorem okX8_clear_10 {x : FS} (hok : okF x) : okF (fX8_clear_10 x) := ⟨hok.1, hok.2.1, hok.2.2.1, hok.2.2.2.1, vi_0 (by decide), hok.2.2.2.2.2⟩

def fX8_add_10 (p1 : Int32) (x : FS) : FS := if (60 : Int32) ≤ (x.2.1 10 3) then (x) else (if (60 : Int32) ≤ ((x.2.1 10 2) + (x.2.1 10 3)) then ((sC (sC x 11 ((((x.2.1 10 2) + (x.2.1 10 3)) - 60).toNatClampNeg) (p1)) 10 3 ((x.2.1 10 3) + 1))) else ((sC (sC x 11 (((x.2.1 10 2) + (x.2.1 10 3)).toNatClampNeg) (p1)) 10 3 ((x.2.1 10 3) + 1))))
set_option maxHeartbeats 4000000 in
set_option maxRecDepth 100000 in
theorem mX8_add_10 (l : Launch) (E : eE) (bb : Nat) (gd : Nat → Nat → Int32) (ch : Nat → Nat → Nat → Int32) (n : Nat) (hn : n < 3) (x : FS) (p1 : Int32) (hok : okF x) : Met l yX8_add wsX8_add ({ frames := 0, cells := 0, slots := 0, locals := 0 }) (gPre E (cwf E bb gd ch n x) [.ref (bb + 21 + 14 * n + 10), .int (p1)]) (gQv E (cwf E bb gd ch n) (fX8_add_10 p1 x) (cA bb)) 0 0 (cA bb) := by
  refine Met.ofW (cc := cX8_add) (maxL := 3) (ret := none) (by decide) rfl ?_
  intro p e s m args below meth c s₁ B hml hv
  obtain ⟨rfl, hW, hK⟩ := hv
  have hx := B.exec
  have hb := B.bytes
  have hr := B.returns
  have hts := atoms_spec (ws := wsX8_add) B.pre
  have hown : s.vm.findClass RX8 = some m.cls := findClass_of_methodNamed B.named
  have hlocks := B.notSynchronized
  have i8 : ∀ w ∈ wsX80, w ∈ wsX8_add := by decide +kernel
  have kl19 := hts (.fieldLink RX8 19 "DosePump$Recent" "times" "[I") (by decide +kernel)
  have kl23 := hts (.fieldLink RX8 23 "DosePump$Recent" "count" "I") (by decide +kernel)
  have kl26 := hts (.fieldLink RX8 26 "DosePump$Recent" "oldest" "I") (by decide +kernel)
  have hS : va_S (cA bb) s.heap s.heap [] := va_S.rf
  have hl := lv_entry ([.ref (bb + 21 + 14 * n + 10), .int (p1)]) (n := 3) (Nat.le_of_ble_eq_true rfl)
  rw [lg_entry_eq]
  generalize (lg_sl ([.ref (bb + 21 + 14 * n + 10), .int (p1)]) ++ List.replicate (3 - (lg_sl ([.ref (bb + 21 + 14 * n + 10), .int (p1)])).length) Slot.unset).toArray = ls at hl ⊢
  have hl : lv_has ls 3 [(0, .ref (bb + 21 + 14 * n + 10)), (1, .int (p1))] := hl
  have hf : fX8_add_10 p1 x = (if (60 : Int32) ≤ (x.2.1 10 3) then (x) else (if (60 : Int32) ≤ ((x.2.1 10 2) + (x.2.1 10 3)) then ((sC (sC x 11 ((((x.2.1 10 2) + (x.2.1 10 3)) - 60).toNatClampNeg) (p1)) 10 3 ((x.2.1 10 3) + 1))) else ((sC (sC x 11 (((x.2.1 10 2) + (x.2.1 10 3)).toNatClampNeg) (p1)) 10 3 ((x.2.1 10 3) + 1))))) := rfl
  refine lv_aload_n hx hb dX8_add_0 rfl (lv_at hl 0 rfl) ?_
  refine fx_get (ci := 8) (v := .int (x.2.1 10 3)) hx hb hts i8 hown hK (cwf_C (o := 10) hW hn (by decide)) rfl 3 (by decide) kl23 rfl dX8_add_1 ?_
  refine lv_aload_n hx hb dX8_add_4 rfl (lv_at hl 0 rfl) ?_
  refine fx_get (ci := 8) (v := .ref (bb + 21 + 14 * n + 11)) hx hb hts i8 hown hK (cwf_C (o := 10) hW hn (by decide)) rfl 1 (by decide) kl19 rfl dX8_add_5 ?_
  refine fx_len (v := 60) hx hb hK 0 (cwf_C (o := 11) hW hn (by decide)) rfl rfl dX8_add_8 ?_
  refine lv_icmp_ge (tgt := 58) hx hb dX8_add_9 (by decide) (fun c_9 => ?_) (fun c_9 => ?_)
  · have hf_9 := hf.trans (if_pos c_9)
    exact gx_vret hx hb hr hlocks hK hf_9 hW hS dX8_add_58
  · have hf_9 := hf.trans (if_neg c_9)
    refine lv_aload_n hx hb dX8_add_12 rfl (lv_at hl 0 rfl) ?_
    refine fx_get (ci := 8) (v := .int (x.2.1 10 2)) hx hb hts i8 hown hK (cwf_C (o := 10) hW hn (by decide)) rfl 2 (by decide) kl26 rfl dX8_add_13 ?_
    refine lv_aload_n hx hb dX8_add_16 rfl (lv_at hl 0 rfl) ?_
    refine fx_get (ci := 8) (v := .int (x.2.1 10 3)) hx hb hts i8 hown hK (cwf_C (o := 10) hW hn (by decide)) rfl 3 (by decide) kl23 rfl dX8_add_17 ?_
    refine lv_iadd hx hb dX8_add_20 ?_
    refine lv_istore_n (lv' := [(2, .int ((x.2.1 10 2) + (x.2.1 10 3))), (0, .ref (bb + 21 + 14 * n + 10)), (1, .int (p1))]) hx hb dX8_add_21 rfl hl (by decide) rfl (fun ls hl => ?_)
    refine lv_aload_n hx hb dX8_add_22 rfl (lv_at hl 1 rfl) ?_
    refine fx_get (ci := 8) (v := .ref (bb + 21 + 14 * n + 11)) hx hb hts i8 hown hK (cwf_C (o := 10) hW hn (by decide)) rfl 1 (by decide) kl19 rfl dX8_add_23 ?_
    refine lv_iload_n hx hb dX8_add_26 rfl (lv_at hl 0 rfl) ?_
    refine lv_aload_n hx hb dX8_add_27 rfl (lv_at hl 1 rfl) ?_
    refine fx_get (ci := 8) (v := .ref (bb + 21 + 14 * n + 11)) hx hb hts i8 hown hK (cwf_C (o := 10) hW hn (by decide)) rfl 1 (by decide) kl19 rfl dX8_add_28 ?_
    refine fx_len (v := 60) hx hb hK 0 (cwf_C (o := 11) hW hn (by decide)) rfl rfl dX8_add_31 ?_
    refine lv_icmp_ge (tgt := 39) hx hb dX8_add_32 (by decide) (fun c_32 => ?_) (fun c_32 => ?_)
    · have hf_32 := hf_9.trans (if_pos c_32)
      refine lv_iload_n hx hb dX8_add_39 rfl (lv_at hl 0 rfl) ?_
      refine lv_aload_n hx hb dX8_add_40 rfl (lv_at hl 1 rfl) ?_
      refine fx_get (ci := 8) (v := .ref (bb + 21 + 14 * n + 11)) hx hb hts i8 hown hK (cwf_C (o := 10) hW hn (by decide)) rfl 1 (by decide) kl19 rfl dX8_add_41 ?_
      refine fx_len (v := 60) hx hb hK 0 (cwf_C (o := 11) hW hn (by decide)) rfl rfl dX8_add_44 ?_
      refine lv_isub hx hb dX8_add_45 ?_
      refine lv_iload_n hx hb dX8_add_46 rfl (lv_at hl 2 rfl) ?_
      refine fx_ist hx hb hK 0 (cwf_C (o := 11) hW hn (by decide)) (cA_C hn (by decide)) hS rfl (vi_ring2 (M := 60) hok.2.2.2.1 hok.2.2.2.2.1 (by decide) rfl c_9 c_32) dX8_add_47 (fun H locs hat hne hS => ?_)
      have hW : cwf E bb gd ch n (sC x 11 ((((x.2.1 10 2) + (x.2.1 10 3)) - 60).toNatClampNeg) (p1)) H := cwf_sC (o := 11) (k := ((((x.2.1 10 2) + (x.2.1 10 3)) - 60).toNatClampNeg)) (v := p1) hW hn (by decide) hat hne
      refine lv_aload_n hx hb dX8_add_48 rfl (lv_at hl 1 rfl) ?_
      refine lv_dup hx hb dX8_add_49 rfl ?_
      refine fx_get (ci := 8) (v := .int (x.2.1 10 3)) hx hb hts i8 hown hK (cwf_C (o := 10) hW hn (by decide)) rfl 3 (by decide) kl23 rfl dX8_add_50 ?_
      refine lv_iconst (v := 1) hx hb dX8_add_53 (by decide) ?_
      refine lv_iadd hx hb dX8_add_54 ?_
      refine fx_put (ci := 8) (v := .int ((x.2.1 10 3) + 1)) hx hb hts i8 tyX8_ok nmX8 hown hK (cwf_C (o := 10) hW hn (by decide)) (cA_C hn (by decide)) hS rfl 3 (by decide) kl23 rfl rfl rfl (Nat.le_of_ble_eq_true rfl) dX8_add_55 (fun H locs hat hne hS => ?_)
      have hW : cwf E bb gd ch n (sC (sC x 11 ((((x.2.1 10 2) + (x.2.1 10 3)) - 60).toNatClampNeg) (p1)) 10 3 ((x.2.1 10 3) + 1)) H := cwf_sC (o := 10) (k := 3) (v := (x.2.1 10 3) + 1) hW hn (by decide) hat hne
      exact gx_vret hx hb hr hlocks hK hf_32 hW hS dX8_add_58
    · have hf_32 := hf_9.trans (if_neg c_32)
      refine lv_iload_n hx hb dX8_add_35 rfl (lv_at hl 0 rfl) ?_
      refine lv_goto (tgt := 46) hx hb dX8_add_36 (by decide) ?_
      refine lv_iload_n hx hb dX8_add_46 rfl (lv_at hl 2 rfl) ?_
      refine fx_ist hx hb hK 0 (cwf_C (o := 11) hW hn (by decide)) (cA_C hn (by decide)) hS rfl (vi_ring1 (M := 60) hok.2.2.2.1 hok.2.2.2.2.1 (by decide) rfl c_32) dX8_add_47 (fun H locs hat hne hS => ?_)
      have hW : cwf E bb gd ch n (sC x 11 (((x.2.1 10 2) + (x.2.1 10 3)).toNatClampNeg) (p1)) H := cwf_sC (o := 11) (k := (((x.2.1 10 2) + (x.2.1 10 3)).toNatClampNeg)) (v := p1) hW hn (by decide) hat hne
      refine lv_aload_n hx hb dX8_add_48 rfl (lv_at hl 1 rfl) ?_
      refine lv_dup hx hb dX8_add_49 rfl ?_
      refine fx_get (ci := 8) (v := .int (x.2.1 10 3)) hx hb hts i8 hown hK (cwf_C (o := 10) hW hn (by decide)) rfl 3 (by decide) kl23 rfl dX8_add_50 ?_
      refine lv_iconst (v := 1) hx hb dX8_add_53 (by decide) ?_
      refine lv_iadd hx hb dX8_add_54 ?_
      refine fx_put (ci := 8) (v := .int ((x.2.1 10 3) + 1)) hx hb hts i8 tyX8_ok nmX8 hown hK (cwf_C (o := 10) hW hn (by decide)) (cA_C hn (by decide)) hS rfl 3 (by decide) kl23 rfl rfl rfl (Nat.le_of_ble_eq_true rfl) dX8_add_55 (fun H locs hat hne hS => ?_)
      have hW : cwf E bb gd ch n (sC (sC x 11 (((x.2.1 10 2) + (x.2.1 10 3)).toNatClampNeg) (p1)) 10 3 ((x.2.1 10 3) + 1)) H := cwf_sC (o := 10) (k := 3) (v := (x.2.1 10 3) + 1) hW hn (by decide) hat hne
      exact gx_vret hx hb hr hlocks hK hf_32 hW hS dX8_add_58

theorem okX8_add_10 {p1 : Int32} {x : FS} (hok : okF x) : okF (fX8_add_10 p1 x) := by
  unfold fX8_add_10
  split
  · exact hok
  · rename_i c
    split <;> exact ⟨hok.1, hok.2.1, hok.2.2.1, hok.2.2.2.1, vi_succ (M := 60) rfl hok.2.2.2.2.1 c, hok.2.2.2.2.2⟩

def fX8_forgetOld_10_L2 (p1 : Int32) : Nat → FS → Int32 → FS
  | 0, y, v2 => y
  | k9 + 1, y, v2 => if (60 : Int32) ≤ v2 then (y) else (if (y.2.1 10 3) ≤ 0 then (y) else (if (p1 - (y.2.1 11 ((y.2.1 10 2).toNatClampNeg))) < 900 then (y) else (if (60 : Int32) ≤ ((y.2.1 10 2) + 1) then (fX8_forgetOld_10_L2 p1 k9 (sC (sC y 10 2 (0)) 10 3 ((y.2.1 10 3) - 1)) (v2 + 1)) else (fX8_forgetOld_10_L2 p1 k9 (sC (sC y 10 2 ((y.2.1 10 2) + 1)) 10 3 ((y.2.1 10 3) - 1)) (v2 + 1)))))
def fX8_forgetOld_10 (p1 : Int32) (x : FS) : FS := fX8_forgetOld_10_L2 p1 (mu32 0 60 + 1) x 0
set_option maxHeartbeats 4000000 in
set_option maxRecDepth 100000 in
theorem mX8_forgetOld_10 (l : Launch) (E : eE) (bb : Nat) (gd : Nat → Nat → Int32) (ch : Nat → Nat → Nat → Int32) (n : Nat) (hn : n < 3) (x : FS) (p1 : Int32) (hok : okF x) : Met l yX8_forgetOld wsX8_forgetOld ({ frames := 0, cells := 0, slots := 0, locals := 0 }) (gPre E (cwf E bb gd ch n x) [.ref (bb + 21 + 14 * n + 10), .int (p1)]) (gQv E (cwf E bb gd ch n) (fX8_forgetOld_10 p1 x) (cA bb)) 0 0 (cA bb) := by
  refine Met.ofW (cc := cX8_forgetOld) (maxL := 3) (ret := none) (by decide) rfl ?_
  intro p e s m args below meth c s₁ B hml hv
  obtain ⟨rfl, hW, hK⟩ := hv
  have hx := B.exec
  have hb := B.bytes
  have hr := B.returns
  have hts := atoms_spec (ws := wsX8_forgetOld) B.pre
  have hown : s.vm.findClass RX8 = some m.cls := findClass_of_methodNamed B.named
  have hlocks := B.notSynchronized
  have i8 : ∀ w ∈ wsX80, w ∈ wsX8_forgetOld := by decide +kernel
  have kl7 := hts (.fieldLink RX8 7 "DosePump$Recent" "span" "I") (by decide +kernel)
  have kl19 := hts (.fieldLink RX8 19 "DosePump$Recent" "times" "[I") (by decide +kernel)
  have kl23 := hts (.fieldLink RX8 23 "DosePump$Recent" "count" "I") (by decide +kernel)
  have kl26 := hts (.fieldLink RX8 26 "DosePump$Recent" "oldest" "I") (by decide +kernel)
  have hS : va_S (cA bb) s.heap s.heap [] := va_S.rf
  have hl := lv_entry ([.ref (bb + 21 + 14 * n + 10), .int (p1)]) (n := 3) (Nat.le_of_ble_eq_true rfl)
  rw [lg_entry_eq]
  generalize (lg_sl ([.ref (bb + 21 + 14 * n + 10), .int (p1)]) ++ List.replicate (3 - (lg_sl ([.ref (bb + 21 + 14 * n + 10), .int (p1)])).length) Slot.unset).toArray = ls at hl ⊢
  have hl : lv_has ls 3 [(0, .ref (bb + 21 + 14 * n + 10)), (1, .int (p1))] := hl
  have J2 : ∀ (k8 : Nat) (H : Heap) (locs : List Loc) (ls : Array Slot) (y : FS) (v2 : Int32), cwf E bb gd ch n y H → va_S (cA bb) s.heap H locs → lv_has ls 3 [(0, .ref (bb + 21 + 14 * n + 10)), (1, .int (p1)), (2, .int (v2))] → okF y → mu32 v2 60 < k8 → fX8_forgetOld_10 p1 x = fX8_forgetOld_10_L2 p1 k8 y v2 → W p l e (headSpec wsX8_forgetOld { frames := 0, cells := 0, slots := 0, locals := 0 }).room s m ([.ref (bb + 21 + 14 * n + 10), .int (p1)] : List Value).toArray below meth c H locs 0 0 (MQ below (gQv E (cwf E bb gd ch n) (fX8_forgetOld_10 p1 x) (cA bb)) ([.ref (bb + 21 + 14 * n + 10), .int (p1)] : List Value).toArray s 0 0 (cA bb)) (F0 m 2 ls []) := by
    intro k8
    induction k8 with
    | zero =>
      intro H locs ls y v2 hW hS hl hok hmu hf
      exact absurd hmu (by omega)
    | succ k9 ih =>
      intro H locs ls y v2 hW hS hl hok hmu hf
      replace hf : fX8_forgetOld_10 p1 x = (if (60 : Int32) ≤ v2 then (y) else (if (y.2.1 10 3) ≤ 0 then (y) else (if (p1 - (y.2.1 11 ((y.2.1 10 2).toNatClampNeg))) < 900 then (y) else (if (60 : Int32) ≤ ((y.2.1 10 2) + 1) then (fX8_forgetOld_10_L2 p1 k9 (sC (sC y 10 2 (0)) 10 3 ((y.2.1 10 3) - 1)) (v2 + 1)) else (fX8_forgetOld_10_L2 p1 k9 (sC (sC y 10 2 ((y.2.1 10 2) + 1)) 10 3 ((y.2.1 10 3) - 1)) (v2 + 1)))))) := hf
      refine lv_iload_n hx hb dX8_forgetOld_2 rfl (lv_at hl 2 rfl) ?_
      refine lv_aload_n hx hb dX8_forgetOld_3 rfl (lv_at hl 0 rfl) ?_
      refine fx_get (ci := 8) (v := .ref (bb + 21 + 14 * n + 11)) hx hb hts i8 hown hK (cwf_C (o := 10) hW hn (by decide)) rfl 1 (by decide) kl19 rfl dX8_forgetOld_4 ?_
      refine fx_len (v := 60) hx hb hK 0 (cwf_C (o := 11) hW hn (by decide)) rfl rfl dX8_forgetOld_7 ?_
      refine lv_icmp_ge (tgt := 80) hx hb dX8_forgetOld_8 (by decide) (fun c_8 => ?_) (fun c_8 => ?_)
      · have hf_8 := hf.trans (if_pos c_8)
        exact gx_vret hx hb hr hlocks hK hf_8 hW hS dX8_forgetOld_80
      · have hf_8 := hf.trans (if_neg c_8)
        refine lv_aload_n hx hb dX8_forgetOld_11 rfl (lv_at hl 0 rfl) ?_
        refine fx_get (ci := 8) (v := .int (y.2.1 10 3)) hx hb hts i8 hown hK (cwf_C (o := 10) hW hn (by decide)) rfl 3 (by decide) kl23 rfl dX8_forgetOld_12 ?_
        refine lv_if_le (tgt := 80) hx hb dX8_forgetOld_15 (by decide) (fun c_15 => ?_) (fun c_15 => ?_)
        · have hf_15 := hf_8.trans (if_pos c_15)
          exact gx_vret hx hb hr hlocks hK hf_15 hW hS dX8_forgetOld_80
        · have hf_15 := hf_8.trans (if_neg c_15)
          refine lv_iload_n hx hb dX8_forgetOld_18 rfl (lv_at hl 1 rfl) ?_
          refine lv_aload_n hx hb dX8_forgetOld_19 rfl (lv_at hl 0 rfl) ?_
          refine fx_get (ci := 8) (v := .ref (bb + 21 + 14 * n + 11)) hx hb hts i8 hown hK (cwf_C (o := 10) hW hn (by decide)) rfl 1 (by decide) kl19 rfl dX8_forgetOld_20 ?_
          refine lv_aload_n hx hb dX8_forgetOld_23 rfl (lv_at hl 0 rfl) ?_
          refine fx_get (ci := 8) (v := .int (y.2.1 10 2)) hx hb hts i8 hown hK (cwf_C (o := 10) hW hn (by decide)) rfl 2 (by decide) kl26 rfl dX8_forgetOld_24 ?_
          refine fx_ild hx hb hK 0 (cwf_C (o := 11) hW hn (by decide)) rfl hok.2.2.2.1 dX8_forgetOld_27 ?_
          refine lv_isub hx hb dX8_forgetOld_28 ?_
          refine lv_aload_n hx hb dX8_forgetOld_29 rfl (lv_at hl 0 rfl) ?_
          refine fx_get (ci := 8) (v := .int (900)) hx hb hts i8 hown hK (cwf_C (o := 10) hW hn (by decide)) rfl 0 (by decide) kl7 rfl dX8_forgetOld_30 ?_
          refine lv_icmp_lt (tgt := 80) hx hb dX8_forgetOld_33 (by decide) (fun c_33 => ?_) (fun c_33 => ?_)
          · have hf_33 := hf_15.trans (if_pos c_33)
            exact gx_vret hx hb hr hlocks hK hf_33 hW hS dX8_forgetOld_80
          · have hf_33 := hf_15.trans (if_neg c_33)
            refine lv_aload_n hx hb dX8_forgetOld_36 rfl (lv_at hl 0 rfl) ?_
            refine lv_aload_n hx hb dX8_forgetOld_37 rfl (lv_at hl 0 rfl) ?_
            refine fx_get (ci := 8) (v := .int (y.2.1 10 2)) hx hb hts i8 hown hK (cwf_C (o := 10) hW hn (by decide)) rfl 2 (by decide) kl26 rfl dX8_forgetOld_38 ?_
            refine lv_iconst (v := 1) hx hb dX8_forgetOld_41 (by decide) ?_
            refine lv_iadd hx hb dX8_forgetOld_42 ?_
            refine lv_aload_n hx hb dX8_forgetOld_43 rfl (lv_at hl 0 rfl) ?_
            refine fx_get (ci := 8) (v := .ref (bb + 21 + 14 * n + 11)) hx hb hts i8 hown hK (cwf_C (o := 10) hW hn (by decide)) rfl 1 (by decide) kl19 rfl dX8_forgetOld_44 ?_
            refine fx_len (v := 60) hx hb hK 0 (cwf_C (o := 11) hW hn (by decide)) rfl rfl dX8_forgetOld_47 ?_
            refine lv_icmp_ge (tgt := 60) hx hb dX8_forgetOld_48 (by decide) (fun c_48 => ?_) (fun c_48 => ?_)
            · have hf_48 := hf_33.trans (if_pos c_48)
              refine lv_iconst (v := 0) hx hb dX8_forgetOld_60 (by decide) ?_
              refine fx_put (ci := 8) (v := .int (0)) hx hb hts i8 tyX8_ok nmX8 hown hK (cwf_C (o := 10) hW hn (by decide)) (cA_C hn (by decide)) hS rfl 2 (by decide) kl26 rfl rfl rfl (Nat.le_of_ble_eq_true rfl) dX8_forgetOld_61 (fun H locs hat hne hS => ?_)
              have hW : cwf E bb gd ch n (sC y 10 2 (0)) H := cwf_sC (o := 10) (k := 2) (v := 0) hW hn (by decide) hat hne
              refine lv_aload_n hx hb dX8_forgetOld_64 rfl (lv_at hl 0 rfl) ?_
              refine lv_dup hx hb dX8_forgetOld_65 rfl ?_
              refine fx_get (ci := 8) (v := .int (y.2.1 10 3)) hx hb hts i8 hown hK (cwf_C (o := 10) hW hn (by decide)) rfl 3 (by decide) kl23 rfl dX8_forgetOld_66 ?_
              refine lv_iconst (v := 1) hx hb dX8_forgetOld_69 (by decide) ?_
              refine lv_isub hx hb dX8_forgetOld_70 ?_
              refine fx_put (ci := 8) (v := .int ((y.2.1 10 3) - 1)) hx hb hts i8 tyX8_ok nmX8 hown hK (cwf_C (o := 10) hW hn (by decide)) (cA_C hn (by decide)) hS rfl 3 (by decide) kl23 rfl rfl rfl (Nat.le_of_ble_eq_true rfl) dX8_forgetOld_71 (fun H locs hat hne hS => ?_)
              have hW : cwf E bb gd ch n (sC (sC y 10 2 (0)) 10 3 ((y.2.1 10 3) - 1)) H := cwf_sC (o := 10) (k := 3) (v := (y.2.1 10 3) - 1) hW hn (by decide) hat hne
              refine lv_iinc (v := v2 + 1) (lv' := [(2, .int (v2 + 1)), (0, .ref (bb + 21 + 14 * n + 10)), (1, .int (p1))]) hx hb dX8_forgetOld_74 hl (k := 2) rfl (by first | rfl | decide) (by decide) rfl (fun ls hl => ?_)
              refine lv_goto (tgt := 2) hx hb dX8_forgetOld_77 (by decide) ?_
              exact ih _ _ _ (sC (sC y 10 2 (0)) 10 3 ((y.2.1 10 3) - 1)) (v2 + 1) hW hS (lv_sub hl [1, 2, 0] rfl) ⟨hok.1, hok.2.1, hok.2.2.1, (vi_0 (by decide)), (vi_pred hok.2.2.2.2.1 c_15), hok.2.2.2.2.2⟩ (mu32_step c_8 hmu) hf_48
            · have hf_48 := hf_33.trans (if_neg c_48)
              refine lv_aload_n hx hb dX8_forgetOld_51 rfl (lv_at hl 0 rfl) ?_
              refine fx_get (ci := 8) (v := .int (y.2.1 10 2)) hx hb hts i8 hown hK (cwf_C (o := 10) hW hn (by decide)) rfl 2 (by decide) kl26 rfl dX8_forgetOld_52 ?_
              refine lv_iconst (v := 1) hx hb dX8_forgetOld_55 (by decide) ?_
              refine lv_iadd hx hb dX8_forgetOld_56 ?_
              refine lv_goto (tgt := 61) hx hb dX8_forgetOld_57 (by decide) ?_
              refine fx_put (ci := 8) (v := .int ((y.2.1 10 2) + 1)) hx hb hts i8 tyX8_ok nmX8 hown hK (cwf_C (o := 10) hW hn (by decide)) (cA_C hn (by decide)) hS rfl 2 (by decide) kl26 rfl rfl rfl (Nat.le_of_ble_eq_true rfl) dX8_forgetOld_61 (fun H locs hat hne hS => ?_)
              have hW : cwf E bb gd ch n (sC y 10 2 ((y.2.1 10 2) + 1)) H := cwf_sC (o := 10) (k := 2) (v := (y.2.1 10 2) + 1) hW hn (by decide) hat hne
              refine lv_aload_n hx hb dX8_forgetOld_64 rfl (lv_at hl 0 rfl) ?_
              refine lv_dup hx hb dX8_forgetOld_65 rfl ?_
              refine fx_get (ci := 8) (v := .int (y.2.1 10 3)) hx hb hts i8 hown hK (cwf_C (o := 10) hW hn (by decide)) rfl 3 (by decide) kl23 rfl dX8_forgetOld_66 ?_
              refine lv_iconst (v := 1) hx hb dX8_forgetOld_69 (by decide) ?_
              refine lv_isub hx hb dX8_forgetOld_70 ?_
              refine fx_put (ci := 8) (v := .int ((y.2.1 10 3) - 1)) hx hb hts i8 tyX8_ok nmX8 hown hK (cwf_C (o := 10) hW hn (by decide)) (cA_C hn (by decide)) hS rfl 3 (by decide) kl23 rfl rfl rfl (Nat.le_of_ble_eq_true rfl) dX8_forgetOld_71 (fun H locs hat hne hS => ?_)
              have hW : cwf E bb gd ch n (sC (sC y 10 2 ((y.2.1 10 2) + 1)) 10 3 ((y.2.1 10 3) - 1)) H := cwf_sC (o := 10) (k := 3) (v := (y.2.1 10 3) - 1) hW hn (by decide) hat hne
              refine lv_iinc (v := v2 + 1) (lv' := [(2, .int (v2 + 1)), (0, .ref (bb + 21 + 14 * n + 10)), (1, .int (p1))]) hx hb dX8_forgetOld_74 hl (k := 2) rfl (by first | rfl | decide) (by decide) rfl (fun ls hl => ?_)
              refine lv_goto (tgt := 2) hx hb dX8_forgetOld_77 (by decide) ?_
              exact ih _ _ _ (sC (sC y 10 2 ((y.2.1 10 2) + 1)) 10 3 ((y.2.1 10 3) - 1)) (v2 + 1) hW hS (lv_sub hl [1, 2, 0] rfl) ⟨hok.1, hok.2.1, hok.2.2.1, (vi_next (M := 60) rfl hok.2.2.2.1 c_48), (vi_pred hok.2.2.2.2.1 c_15), hok.2.2.2.2.2⟩ (mu32_step c_8 hmu) hf_48
  have hf : fX8_forgetOld_10 p1 x = (fX8_forgetOld_10_L2 p1 (mu32 0 60 + 1) x 0) := rfl
  refine lv_iconst (v := 0) hx hb dX8_forgetOld_0 (by decide) ?_
  refine lv_istore_n (lv' := [(2, .int (0)), (0, .ref (bb + 21 + 14 * n + 10)), (1, .int (p1))]) hx hb dX8_forgetOld_1 rfl hl (by decide) rfl (fun ls hl => ?_)
  exact J2 _ _ _ _ x 0 hW hS (lv_sub hl [1, 2, 0] rfl) hok (Nat.lt_succ_self _) hf

theorem okX8_forgetOld_10 {p1 : Int32} {x : FS} (hok : okF x) : okF (fX8_forgetOld_10 p1 x) := by
  have key : ∀ (k : Nat) (y : FS) (v : Int32), okF y → okF (fX8_forgetOld_10_L2 p1 k y v) := by
    intro k
    induction k with
    | zero => intro y v hok; exact hok
    | succ k ih =>
      intro y v hok
      unfold fX8_forgetOld_10_L2
      split
      · exact hok
      · split
        · exact hok
        · rename_i c2
          split
          · exact hok
          · split
            · exact ih _ _ ⟨hok.1, hok.2.1, hok.2.2.1, (vi_0 (by decide)), vi_pred hok.2.2.2.2.1 c2, hok.2.2.2.2.2⟩
            · rename_i c4
              exact ih _ _ ⟨hok.1, hok.2.1, hok.2.2.1, vi_next (M := 60) rfl hok.2.2.2.1 c4, vi_pred hok.2.2.2.2.1 c2, hok.2.2.2.2.2⟩
  exact key _ _ _ hok
