/-! the reference: notes, alarms, runs -/
theorem okX11_link {T B : Nat} {p1 : Int32} {x : RS} (hok : okR T B x) : okR T B (fX11_link p1 x) := hok
theorem okX11_clear {T B : Nat} {p1 : Int32} {x : RS} (hok : okR T B x) : okR T B (fX11_clear p1 x) := okR_sR rfl (okR_sR rfl (okR_sR rfl hok))
theorem okX11_go {T B : Nat} {p1 p2 : Int32} {x : RS} (hc : vp_in p1 3) (hv : 6 ≤ p2 → vp_in (x.1 15 p1.toNatClampNeg) 16) (hok : okR T B x) : okR T B (fX11_go p1 p2 x) := okX11_clear (okR_s13 (vi_lt hc) hv hok)

theorem mayrun_ge {p1 : Int32} {x : RS} (h : ¬ fX11_mayRun p1 x = 0) : 6 ≤ x.1 13 p1.toNatClampNeg := by
  unfold fX11_mayRun at h
  split at h
  · rename_i c; rw [c]; decide
  · split at h
    · rename_i c; rw [c]; decide
    · exact absurd rfl h

def fX11_note (p1 : Int32) (p2 : Int32) (p3 : Int32) (x : RS) : RS := (fX11_link p3 (fX11_link p2 (fX11_link p1 (fX11_link (x.1 0 45) (sR (sR (sR (sR (sR x 45 (((4 : Int32) * ((x.1 0 50) - (x.1 0 50) / 64 * 64)).toNatClampNeg) (x.1 0 45)) 45 ((((4 : Int32) * ((x.1 0 50) - (x.1 0 50) / 64 * 64)) + 1).toNatClampNeg) (p1)) 45 ((((4 : Int32) * ((x.1 0 50) - (x.1 0 50) / 64 * 64)) + 2).toNatClampNeg) (p2)) 45 ((((4 : Int32) * ((x.1 0 50) - (x.1 0 50) / 64 * 64)) + 3).toNatClampNeg) (p3)) 0 50 ((x.1 0 50) + 1))))))
set_option maxHeartbeats 4000000 in
set_option maxRecDepth 100000 in
theorem mX11_note (l : Launch) (E : eE) (rr : Nat) (x : RS) (p1 : Int32) (p2 : Int32) (p3 : Int32) (tg : Nat) (bg : Nat) (hok : okR tg (bg + 1) x) : Met l yX11_note wsX11_note ({ frames := 1, cells := 0, slots := 0, locals := 23 }) (gPre E (rw_ E rr x) [.ref (rr + 0), .int (p1), .int (p2), .int (p3)]) (gQv E (rw_ E rr) (fX11_note p1 p2 p3 x) (rA rr)) 0 0 (rA rr) := by
  refine Met.ofW (cc := cX11_note) (maxL := 5) (ret := none) (by decide) rfl ?_
  intro p e s m args below meth c s₁ B hml hv
  obtain ⟨rfl, hW, hK⟩ := hv
  have hx := B.exec
  have hb := B.bytes
  have hr := B.returns
  have hts := atoms_spec (ws := wsX11_note) B.pre
  have hown : s.vm.findClass RX11 = some m.cls := findClass_of_methodNamed B.named
  have hlocks := B.notSynchronized
  have i11 : ∀ w ∈ wsX110, w ∈ wsX11_note := by decide +kernel
  have kl152 := hts (.fieldLink RX11 152 "DosePumpModel" "log" "[I") (by decide +kernel)
  have kl164 := hts (.fieldLink RX11 164 "DosePumpModel" "entries" "I") (by decide +kernel)
  have kl167 := hts (.fieldLink RX11 167 "DosePumpModel" "time" "I") (by decide +kernel)
  have hS : va_S (rA rr) s.heap s.heap [] := va_S.rf
  have hl := lv_entry ([.ref (rr + 0), .int (p1), .int (p2), .int (p3)]) (n := 5) (Nat.le_of_ble_eq_true rfl)
  rw [lg_entry_eq]
  generalize (lg_sl ([.ref (rr + 0), .int (p1), .int (p2), .int (p3)]) ++ List.replicate (5 - (lg_sl ([.ref (rr + 0), .int (p1), .int (p2), .int (p3)])).length) Slot.unset).toArray = ls at hl ⊢
  have hl : lv_has ls 5 [(0, .ref (rr + 0)), (1, .int (p1)), (2, .int (p2)), (3, .int (p3))] := hl
  have hf : fX11_note p1 p2 p3 x = ((fX11_link p3 (fX11_link p2 (fX11_link p1 (fX11_link (x.1 0 45) (sR (sR (sR (sR (sR x 45 (((4 : Int32) * ((x.1 0 50) - (x.1 0 50) / 64 * 64)).toNatClampNeg) (x.1 0 45)) 45 ((((4 : Int32) * ((x.1 0 50) - (x.1 0 50) / 64 * 64)) + 1).toNatClampNeg) (p1)) 45 ((((4 : Int32) * ((x.1 0 50) - (x.1 0 50) / 64 * 64)) + 2).toNatClampNeg) (p2)) 45 ((((4 : Int32) * ((x.1 0 50) - (x.1 0 50) / 64 * 64)) + 3).toNatClampNeg) (p3)) 0 50 ((x.1 0 50) + 1))))))) := rfl
  refine lv_iconst (v := 4) hx hb dX11_note_0 (by decide) ?_
  refine lv_aload_n hx hb dX11_note_1 rfl (lv_at hl 0 rfl) ?_
  refine fx_get (ci := 11) (v := .int (x.1 0 50)) hx hb hts i11 hown hK (rwc_0 hW) rfl 50 (by decide) kl164 rfl dX11_note_2 ?_
  refine lv_bipush (v := 64) hx hb dX11_note_5 (by decide) ?_
  refine lv_irem hx hb dX11_note_7 (by decide) ?_
  refine lv_imul hx hb dX11_note_8 ?_
  refine lv_istore (lv' := [(4, .int ((4 : Int32) * ((x.1 0 50) - (x.1 0 50) / 64 * 64))), (0, .ref (rr + 0)), (1, .int (p1)), (2, .int (p2)), (3, .int (p3))]) hx hb dX11_note_9 hl (by decide) rfl (fun ls hl => ?_)
  refine lv_aload_n hx hb dX11_note_11 rfl (lv_at hl 1 rfl) ?_
  refine fx_get (ci := 11) (v := .ref (rr + 45)) hx hb hts i11 hown hK (rwc_0 hW) rfl 51 (by decide) kl152 rfl dX11_note_12 ?_
  refine lv_iload hx hb dX11_note_15 (lv_at hl 0 rfl) ?_
  refine lv_aload_n hx hb dX11_note_17 rfl (lv_at hl 1 rfl) ?_
  refine fx_get (ci := 11) (v := .int (x.1 0 45)) hx hb hts i11 hown hK (rwc_0 hW) rfl 45 (by decide) kl167 rfl dX11_note_18 ?_
  refine fx_ist hx hb hK 0 (rwc_45 hW) (rA_o (o := 45) (by decide)) hS rfl (vi_log0 hok.2.1.1) dX11_note_21 (fun H locs hat hne hS => ?_)
  have hW : rw_ E rr (sR x 45 (((4 : Int32) * ((x.1 0 50) - (x.1 0 50) / 64 * 64)).toNatClampNeg) (x.1 0 45)) H := rws_45 (k := (((4 : Int32) * ((x.1 0 50) - (x.1 0 50) / 64 * 64)).toNatClampNeg)) (v := x.1 0 45) hW hat hne
  refine lv_aload_n hx hb dX11_note_22 rfl (lv_at hl 1 rfl) ?_
  refine fx_get (ci := 11) (v := .ref (rr + 45)) hx hb hts i11 hown hK (rwc_0 hW) rfl 51 (by decide) kl152 rfl dX11_note_23 ?_
  refine lv_iload hx hb dX11_note_26 (lv_at hl 0 rfl) ?_
  refine lv_iconst (v := 1) hx hb dX11_note_28 (by decide) ?_
  refine lv_iadd hx hb dX11_note_29 ?_
  refine lv_iload_n hx hb dX11_note_30 rfl (lv_at hl 2 rfl) ?_
  refine fx_ist hx hb hK 0 (rwc_45 hW) (rA_o (o := 45) (by decide)) hS rfl (vi_logk (by unfold vp_in; decide) hok.2.1.1) dX11_note_31 (fun H locs hat hne hS => ?_)
  have hW : rw_ E rr (sR (sR x 45 (((4 : Int32) * ((x.1 0 50) - (x.1 0 50) / 64 * 64)).toNatClampNeg) (x.1 0 45)) 45 ((((4 : Int32) * ((x.1 0 50) - (x.1 0 50) / 64 * 64)) + 1).toNatClampNeg) (p1)) H := rws_45 (k := ((((4 : Int32) * ((x.1 0 50) - (x.1 0 50) / 64 * 64)) + 1).toNatClampNeg)) (v := p1) hW hat hne
  refine lv_aload_n hx hb dX11_note_32 rfl (lv_at hl 1 rfl) ?_
  refine fx_get (ci := 11) (v := .ref (rr + 45)) hx hb hts i11 hown hK (rwc_0 hW) rfl 51 (by decide) kl152 rfl dX11_note_33 ?_
  refine lv_iload hx hb dX11_note_36 (lv_at hl 0 rfl) ?_
  refine lv_iconst (v := 2) hx hb dX11_note_38 (by decide) ?_
  refine lv_iadd hx hb dX11_note_39 ?_
  refine lv_iload_n hx hb dX11_note_40 rfl (lv_at hl 3 rfl) ?_
  refine fx_ist hx hb hK 0 (rwc_45 hW) (rA_o (o := 45) (by decide)) hS rfl (vi_logk (by unfold vp_in; decide) hok.2.1.1) dX11_note_41 (fun H locs hat hne hS => ?_)
  have hW : rw_ E rr (sR (sR (sR x 45 (((4 : Int32) * ((x.1 0 50) - (x.1 0 50) / 64 * 64)).toNatClampNeg) (x.1 0 45)) 45 ((((4 : Int32) * ((x.1 0 50) - (x.1 0 50) / 64 * 64)) + 1).toNatClampNeg) (p1)) 45 ((((4 : Int32) * ((x.1 0 50) - (x.1 0 50) / 64 * 64)) + 2).toNatClampNeg) (p2)) H := rws_45 (k := ((((4 : Int32) * ((x.1 0 50) - (x.1 0 50) / 64 * 64)) + 2).toNatClampNeg)) (v := p2) hW hat hne
  refine lv_aload_n hx hb dX11_note_42 rfl (lv_at hl 1 rfl) ?_
  refine fx_get (ci := 11) (v := .ref (rr + 45)) hx hb hts i11 hown hK (rwc_0 hW) rfl 51 (by decide) kl152 rfl dX11_note_43 ?_
  refine lv_iload hx hb dX11_note_46 (lv_at hl 0 rfl) ?_
  refine lv_iconst (v := 3) hx hb dX11_note_48 (by decide) ?_
  refine lv_iadd hx hb dX11_note_49 ?_
  refine lv_iload_n hx hb dX11_note_50 rfl (lv_at hl 4 rfl) ?_
  refine fx_ist hx hb hK 0 (rwc_45 hW) (rA_o (o := 45) (by decide)) hS rfl (vi_logk (by unfold vp_in; decide) hok.2.1.1) dX11_note_51 (fun H locs hat hne hS => ?_)
  have hW : rw_ E rr (sR (sR (sR (sR x 45 (((4 : Int32) * ((x.1 0 50) - (x.1 0 50) / 64 * 64)).toNatClampNeg) (x.1 0 45)) 45 ((((4 : Int32) * ((x.1 0 50) - (x.1 0 50) / 64 * 64)) + 1).toNatClampNeg) (p1)) 45 ((((4 : Int32) * ((x.1 0 50) - (x.1 0 50) / 64 * 64)) + 2).toNatClampNeg) (p2)) 45 ((((4 : Int32) * ((x.1 0 50) - (x.1 0 50) / 64 * 64)) + 3).toNatClampNeg) (p3)) H := rws_45 (k := ((((4 : Int32) * ((x.1 0 50) - (x.1 0 50) / 64 * 64)) + 3).toNatClampNeg)) (v := p3) hW hat hne
  refine lv_aload_n hx hb dX11_note_52 rfl (lv_at hl 1 rfl) ?_
  refine lv_dup hx hb dX11_note_53 rfl ?_
  refine fx_get (ci := 11) (v := .int (x.1 0 50)) hx hb hts i11 hown hK (rwc_0 hW) rfl 50 (by decide) kl164 rfl dX11_note_54 ?_
  refine lv_iconst (v := 1) hx hb dX11_note_57 (by decide) ?_
  refine lv_iadd hx hb dX11_note_58 ?_
  refine fx_put (ci := 11) (v := .int ((x.1 0 50) + 1)) hx hb hts i11 tyX11_ok nmX11 hown hK (rwc_0 hW) (rA_o (o := 0) (by decide)) hS rfl 50 (by decide) kl164 rfl rfl rfl (Nat.le_of_ble_eq_true rfl) dX11_note_59 (fun H locs hat hne hS => ?_)
  have hW : rw_ E rr (sR (sR (sR (sR (sR x 45 (((4 : Int32) * ((x.1 0 50) - (x.1 0 50) / 64 * 64)).toNatClampNeg) (x.1 0 45)) 45 ((((4 : Int32) * ((x.1 0 50) - (x.1 0 50) / 64 * 64)) + 1).toNatClampNeg) (p1)) 45 ((((4 : Int32) * ((x.1 0 50) - (x.1 0 50) / 64 * 64)) + 2).toNatClampNeg) (p2)) 45 ((((4 : Int32) * ((x.1 0 50) - (x.1 0 50) / 64 * 64)) + 3).toNatClampNeg) (p3)) 0 50 ((x.1 0 50) + 1)) H := rwf_50 (v := (x.1 0 50) + 1) hW hat hne
  refine lv_aload_n hx hb dX11_note_62 rfl (lv_at hl 1 rfl) ?_
  refine lv_aload_n hx hb dX11_note_63 rfl (lv_at hl 1 rfl) ?_
  refine fx_get (ci := 11) (v := .int (x.1 0 45)) hx hb hts i11 hown hK (rwc_0 hW) rfl 45 (by decide) kl167 rfl dX11_note_64 ?_
  refine gx_v (rest := []) ⟨hx, hb, hml, hown, hts⟩ (mX11_link l E rr (sR (sR (sR (sR (sR x 45 (((4 : Int32) * ((x.1 0 50) - (x.1 0 50) / 64 * 64)).toNatClampNeg) (x.1 0 45)) 45 ((((4 : Int32) * ((x.1 0 50) - (x.1 0 50) / 64 * 64)) + 1).toNatClampNeg) (p1)) 45 ((((4 : Int32) * ((x.1 0 50) - (x.1 0 50) / 64 * 64)) + 2).toNatClampNeg) (p2)) 45 ((((4 : Int32) * ((x.1 0 50) - (x.1 0 50) / 64 * 64)) + 3).toNatClampNeg) (p3)) 0 50 ((x.1 0 50) + 1)) (x.1 0 45)) (cwV 1 hts gX11_note_X11_link rfl rfl rfl (by decide +kernel) ⟨Nat.le_of_ble_eq_true rfl, Nat.le_of_ble_eq_true rfl⟩) hW hK (fx_recv hK (rwc_0 hW) rfl) rfl hl.1 rfl (Nat.le_of_ble_eq_true rfl) dX11_note_67 ⟨Nat.le_of_ble_eq_true rfl, Nat.le_of_ble_eq_true rfl⟩ hS (fun _ h => h) (fun u1 H locs e1 hW hS => ?_)
  have e1 : fX11_link (x.1 0 45) (sR (sR (sR (sR (sR x 45 (((4 : Int32) * ((x.1 0 50) - (x.1 0 50) / 64 * 64)).toNatClampNeg) (x.1 0 45)) 45 ((((4 : Int32) * ((x.1 0 50) - (x.1 0 50) / 64 * 64)) + 1).toNatClampNeg) (p1)) 45 ((((4 : Int32) * ((x.1 0 50) - (x.1 0 50) / 64 * 64)) + 2).toNatClampNeg) (p2)) 45 ((((4 : Int32) * ((x.1 0 50) - (x.1 0 50) / 64 * 64)) + 3).toNatClampNeg) (p3)) 0 50 ((x.1 0 50) + 1)) = u1 := e1
  try rw [e1] at hf
  have hk1 : okR tg bg u1 := e1 ▸ (okX11_link (okR_ent (okR_sR rfl (okR_sR rfl (okR_sR rfl (okR_sR rfl hok))))))
  refine lv_aload_n hx hb dX11_note_70 rfl (lv_at hl 1 rfl) ?_
  refine lv_iload_n hx hb dX11_note_71 rfl (lv_at hl 2 rfl) ?_
  refine gx_v (rest := []) ⟨hx, hb, hml, hown, hts⟩ (mX11_link l E rr u1 p1) (cwV 1 hts gX11_note_X11_link rfl rfl rfl (by decide +kernel) ⟨Nat.le_of_ble_eq_true rfl, Nat.le_of_ble_eq_true rfl⟩) hW hK (fx_recv hK (rwc_0 hW) rfl) rfl hl.1 rfl (Nat.le_of_ble_eq_true rfl) dX11_note_72 ⟨Nat.le_of_ble_eq_true rfl, Nat.le_of_ble_eq_true rfl⟩ hS (fun _ h => h) (fun u2 H locs e2 hW hS => ?_)
  have e2 : fX11_link p1 u1 = u2 := e2
  try rw [e2] at hf
  have hk2 : okR tg bg u2 := e2 ▸ (okX11_link hk1)
  refine lv_aload_n hx hb dX11_note_75 rfl (lv_at hl 1 rfl) ?_
  refine lv_iload_n hx hb dX11_note_76 rfl (lv_at hl 3 rfl) ?_
  refine gx_v (rest := []) ⟨hx, hb, hml, hown, hts⟩ (mX11_link l E rr u2 p2) (cwV 1 hts gX11_note_X11_link rfl rfl rfl (by decide +kernel) ⟨Nat.le_of_ble_eq_true rfl, Nat.le_of_ble_eq_true rfl⟩) hW hK (fx_recv hK (rwc_0 hW) rfl) rfl hl.1 rfl (Nat.le_of_ble_eq_true rfl) dX11_note_77 ⟨Nat.le_of_ble_eq_true rfl, Nat.le_of_ble_eq_true rfl⟩ hS (fun _ h => h) (fun u3 H locs e3 hW hS => ?_)
  have e3 : fX11_link p2 u2 = u3 := e3
  try rw [e3] at hf
  have hk3 : okR tg bg u3 := e3 ▸ (okX11_link hk2)
  refine lv_aload_n hx hb dX11_note_80 rfl (lv_at hl 1 rfl) ?_
  refine lv_iload_n hx hb dX11_note_81 rfl (lv_at hl 4 rfl) ?_
  refine gx_v (rest := []) ⟨hx, hb, hml, hown, hts⟩ (mX11_link l E rr u3 p3) (cwV 1 hts gX11_note_X11_link rfl rfl rfl (by decide +kernel) ⟨Nat.le_of_ble_eq_true rfl, Nat.le_of_ble_eq_true rfl⟩) hW hK (fx_recv hK (rwc_0 hW) rfl) rfl hl.1 rfl (Nat.le_of_ble_eq_true rfl) dX11_note_82 ⟨Nat.le_of_ble_eq_true rfl, Nat.le_of_ble_eq_true rfl⟩ hS (fun _ h => h) (fun u4 H locs e4 hW hS => ?_)
  have e4 : fX11_link p3 u3 = u4 := e4
  try rw [e4] at hf
  have hk4 : okR tg bg u4 := e4 ▸ (okX11_link hk3)
  exact gx_vret hx hb hr hlocks hK hf hW hS dX11_note_85
theorem okX11_note {tg bg : Nat} {p1 : Int32} {p2 : Int32} {p3 : Int32} {x : RS} (hok : okR tg (bg + 1) x) : okR tg bg (fX11_note p1 p2 p3 x) := by unfold fX11_note; exact (okX11_link (okX11_link (okX11_link (okX11_link (okR_ent (okR_sR rfl (okR_sR rfl (okR_sR rfl (okR_sR rfl hok)))))))))

def fX11_isDrug (p1 : Int32) (x : RS) : Int32 := if (fX11_isIn p1.toInt64 0 15 x) = 0 then (0) else (if (x.1 1 p1.toNatClampNeg) = 0 then (0) else (1))
set_option maxHeartbeats 4000000 in
set_option maxRecDepth 100000 in
theorem mX11_isDrug (l : Launch) (E : eE) (rr : Nat) (x : RS) (p1 : Int32) : Met l yX11_isDrug wsX11_isDrug ({ frames := 1, cells := 0, slots := 0, locals := 25 }) (gPre E (rw_ E rr x) [.ref (rr + 0), .int (p1)]) (gQi E (fun _ : Unit => rw_ E rr x) ((), fX11_isDrug p1 x) (rA rr)) 0 0 (rA rr) := by
  refine Met.ofW (cc := cX11_isDrug) (maxL := 2) (ret := (some .boolean)) (by decide) rfl ?_
  intro p e s m args below meth c s₁ B hml hv
  obtain ⟨rfl, hW, hK⟩ := hv
  have hx := B.exec
  have hb := B.bytes
  have hr := B.returns
  have hts := atoms_spec (ws := wsX11_isDrug) B.pre
  have hown : s.vm.findClass RX11 = some m.cls := findClass_of_methodNamed B.named
  have hlocks := B.notSynchronized
  have i11 : ∀ w ∈ wsX110, w ∈ wsX11_isDrug := by decide +kernel
  have kl7 := hts (.fieldLink RX11 7 "DosePumpModel" "is" "[Z") (by decide +kernel)
  have hS : va_S (rA rr) s.heap s.heap [] := va_S.rf
  have hl := lv_entry ([.ref (rr + 0), .int (p1)]) (n := 2) (Nat.le_of_ble_eq_true rfl)
  rw [lg_entry_eq]
  generalize (lg_sl ([.ref (rr + 0), .int (p1)]) ++ List.replicate (2 - (lg_sl ([.ref (rr + 0), .int (p1)])).length) Slot.unset).toArray = ls at hl ⊢
  have hl : lv_has ls 2 [(0, .ref (rr + 0)), (1, .int (p1))] := hl
  have hf : fX11_isDrug p1 x = (if (fX11_isIn p1.toInt64 0 15 x) = 0 then (0) else (if (x.1 1 p1.toNatClampNeg) = 0 then (0) else (1))) := rfl
  refine lv_iload_n hx hb dX11_isDrug_0 rfl (lv_at hl 1 rfl) ?_
  refine lv_i2l (v := p1.toInt64) hx hb dX11_isDrug_1 rfl ?_
  refine lv_lconst (v := 0) hx hb dX11_isDrug_2 (by decide) ?_
  refine lv_ldc2 hx hb hown (hts (.constantLong RX11 182 (15)) (by decide +kernel)) dX11_isDrug_3 ?_
  refine gx_si (rest := []) ⟨hx, hb, hml, hown, hts⟩ (mX11_isIn l E rr x p1.toInt64 0 15) (va_cwS 3 hts gX11_isDrug_X11_isIn rfl rfl rfl (by decide +kernel) ⟨Nat.le_of_ble_eq_true rfl, Nat.le_of_ble_eq_true rfl⟩) hW hK rfl hl.1 rfl (Nat.le_of_ble_eq_true rfl) dX11_isDrug_6 ⟨Nat.le_of_ble_eq_true rfl, Nat.le_of_ble_eq_true rfl⟩ hS (fun _ h => h) (fun _ r1 H locs _ e1 hW hS => ?_)
  have e1 : fX11_isIn p1.toInt64 0 15 x = r1 := e1
  try rw [e1] at hf
  refine lv_if_eq (tgt := 25) hx hb dX11_isDrug_9 (by decide) (fun c_9 => ?_) (fun c_9 => ?_)
  · have hf_9 := hf.trans (if_pos c_9)
    refine lv_iconst (v := 0) hx hb dX11_isDrug_25 (by decide) ?_
    exact gx_iret hx hb hr (by decide) hlocks hK (congrArg (Prod.mk ()) hf_9) (u := ()) (v := 0) hW hS dX11_isDrug_26
  · have hf_9 := hf.trans (if_neg c_9)
    refine lv_aload_n hx hb dX11_isDrug_12 rfl (lv_at hl 0 rfl) ?_
    refine fx_get (ci := 11) (v := .ref (rr + 1)) hx hb hts i11 hown hK (rwc_0 hW) rfl 1 (by decide) kl7 rfl dX11_isDrug_13 ?_
    refine lv_iload_n hx hb dX11_isDrug_16 rfl (lv_at hl 1 rfl) ?_
    refine fx_zld hx hb hK 1 (rwc_1 hW) rfl (isin_in (a := p1) (c := 15) (x := x) rfl (by rw [e1]; exact c_9)) dX11_isDrug_17 ?_
    refine lv_if_eq (tgt := 25) hx hb dX11_isDrug_18 (by decide) (fun c_18 => ?_) (fun c_18 => ?_)
    · have hf_18 := hf_9.trans (if_pos c_18)
      refine lv_iconst (v := 0) hx hb dX11_isDrug_25 (by decide) ?_
      exact gx_iret hx hb hr (by decide) hlocks hK (congrArg (Prod.mk ()) hf_18) (u := ()) (v := 0) hW hS dX11_isDrug_26
    · have hf_18 := hf_9.trans (if_neg c_18)
      refine lv_iconst (v := 1) hx hb dX11_isDrug_21 (by decide) ?_
      refine lv_goto (tgt := 26) hx hb dX11_isDrug_22 (by decide) ?_
      exact gx_iret hx hb hr (by decide) hlocks hK (congrArg (Prod.mk ()) hf_18) (u := ()) (v := 1) hW hS dX11_isDrug_26

def fX11_latch (p1 : Int32) (p2 : Int32) (x : RS) : RS := if (((x.1 28 p1.toNatClampNeg) >>> (p2 &&& 31)) &&& 1) = 1 then (x) else (if (4 : Int32) < p2 then ((fX11_note 7 p1 p2 (sR (sR x 28 p1.toNatClampNeg ((x.1 28 p1.toNatClampNeg) ||| ((1 : Int32) <<< (p2 &&& 31)))) 0 49 (0)))) else (if ((fX11_note 7 p1 p2 (sR (sR x 28 p1.toNatClampNeg ((x.1 28 p1.toNatClampNeg) ||| ((1 : Int32) <<< (p2 &&& 31)))) 0 49 (0))).1 13 p1.toNatClampNeg) = 7 then ((sR (sR (fX11_note 7 p1 p2 (sR (sR x 28 p1.toNatClampNeg ((x.1 28 p1.toNatClampNeg) ||| ((1 : Int32) <<< (p2 &&& 31)))) 0 49 (0))) 13 p1.toNatClampNeg (8)) 20 p1.toNatClampNeg (0))) else ((fX11_note 7 p1 p2 (sR (sR x 28 p1.toNatClampNeg ((x.1 28 p1.toNatClampNeg) ||| ((1 : Int32) <<< (p2 &&& 31)))) 0 49 (0))))))
set_option maxHeartbeats 4000000 in
set_option maxRecDepth 100000 in
theorem mX11_latch (l : Launch) (E : eE) (rr : Nat) (x : RS) (p1 : Int32) (p2 : Int32) (hc : vp_in p1 3) (ha : vp_in p2 7) (h4 : p2 = 4 → vp_in (x.1 15 p1.toNatClampNeg) 16) (tg : Nat) (bg : Nat) (hok : okR tg bg x) : Met l yX11_latch wsX11_latch ({ frames := 2, cells := 0, slots := 0, locals := 47 }) (gPre E (rw_ E rr x) [.ref (rr + 0), .int (p1), .int (p2)]) (gQv E (rw_ E rr) (fX11_latch p1 p2 x) (rA rr)) 0 0 (rA rr) := by
  refine Met.ofW (cc := cX11_latch) (maxL := 3) (ret := none) (by decide) rfl ?_
  intro p e s m args below meth c s₁ B hml hv
  obtain ⟨rfl, hW, hK⟩ := hv
  have hx := B.exec
  have hb := B.bytes
  have hr := B.returns
  have hts := atoms_spec (ws := wsX11_latch) B.pre
  have hown : s.vm.findClass RX11 = some m.cls := findClass_of_methodNamed B.named
  have hlocks := B.notSynchronized
  have i11 : ∀ w ∈ wsX110, w ∈ wsX11_latch := by decide +kernel
  have kl47 := hts (.fieldLink RX11 47 "DosePumpModel" "phase" "[I") (by decide +kernel)
  have kl68 := hts (.fieldLink RX11 68 "DosePumpModel" "bolusLeft" "[I") (by decide +kernel)
  have kl92 := hts (.fieldLink RX11 92 "DosePumpModel" "alarms" "[I") (by decide +kernel)
  have kl265 := hts (.fieldLink RX11 265 "DosePumpModel" "silentTo" "I") (by decide +kernel)
  have hS : va_S (rA rr) s.heap s.heap [] := va_S.rf
  have hl := lv_entry ([.ref (rr + 0), .int (p1), .int (p2)]) (n := 3) (Nat.le_of_ble_eq_true rfl)
  rw [lg_entry_eq]
  generalize (lg_sl ([.ref (rr + 0), .int (p1), .int (p2)]) ++ List.replicate (3 - (lg_sl ([.ref (rr + 0), .int (p1), .int (p2)])).length) Slot.unset).toArray = ls at hl ⊢
  have hl : lv_has ls 3 [(0, .ref (rr + 0)), (1, .int (p1)), (2, .int (p2))] := hl
  have hf : fX11_latch p1 p2 x = (if (((x.1 28 p1.toNatClampNeg) >>> (p2 &&& 31)) &&& 1) = 1 then (x) else (if (4 : Int32) < p2 then ((fX11_note 7 p1 p2 (sR (sR x 28 p1.toNatClampNeg ((x.1 28 p1.toNatClampNeg) ||| ((1 : Int32) <<< (p2 &&& 31)))) 0 49 (0)))) else (if ((fX11_note 7 p1 p2 (sR (sR x 28 p1.toNatClampNeg ((x.1 28 p1.toNatClampNeg) ||| ((1 : Int32) <<< (p2 &&& 31)))) 0 49 (0))).1 13 p1.toNatClampNeg) = 7 then ((sR (sR (fX11_note 7 p1 p2 (sR (sR x 28 p1.toNatClampNeg ((x.1 28 p1.toNatClampNeg) ||| ((1 : Int32) <<< (p2 &&& 31)))) 0 49 (0))) 13 p1.toNatClampNeg (8)) 20 p1.toNatClampNeg (0))) else ((fX11_note 7 p1 p2 (sR (sR x 28 p1.toNatClampNeg ((x.1 28 p1.toNatClampNeg) ||| ((1 : Int32) <<< (p2 &&& 31)))) 0 49 (0))))))) := rfl
  refine lv_aload_n hx hb dX11_latch_0 rfl (lv_at hl 0 rfl) ?_
  refine fx_get (ci := 11) (v := .ref (rr + 28)) hx hb hts i11 hown hK (rwc_0 hW) rfl 28 (by decide) kl92 rfl dX11_latch_1 ?_
  refine lv_iload_n hx hb dX11_latch_4 rfl (lv_at hl 1 rfl) ?_
  refine fx_ild hx hb hK 0 (rwc_28 hW) rfl hc dX11_latch_5 ?_
  refine lv_iload_n hx hb dX11_latch_6 rfl (lv_at hl 2 rfl) ?_
  refine lv_ishr hx hb dX11_latch_7 ?_
  refine lv_iconst (v := 1) hx hb dX11_latch_8 (by decide) ?_
  refine lv_iand hx hb dX11_latch_9 ?_
  refine lv_iconst (v := 1) hx hb dX11_latch_10 (by decide) ?_
  refine lv_icmp_ne (tgt := 15) hx hb dX11_latch_11 (by decide) (fun c_11 => ?_) (fun c_11 => ?_)
  · have hf_11 := hf.trans (if_neg c_11)
    refine lv_aload_n hx hb dX11_latch_15 rfl (lv_at hl 0 rfl) ?_
    refine fx_get (ci := 11) (v := .ref (rr + 28)) hx hb hts i11 hown hK (rwc_0 hW) rfl 28 (by decide) kl92 rfl dX11_latch_16 ?_
    refine lv_iload_n hx hb dX11_latch_19 rfl (lv_at hl 1 rfl) ?_
    refine lv_dup2_11 hx hb dX11_latch_20 rfl rfl ?_
    refine fx_ild hx hb hK 0 (rwc_28 hW) rfl hc dX11_latch_21 ?_
    refine lv_iconst (v := 1) hx hb dX11_latch_22 (by decide) ?_
    refine lv_iload_n hx hb dX11_latch_23 rfl (lv_at hl 2 rfl) ?_
    refine lv_ishl hx hb dX11_latch_24 ?_
    refine lv_ior hx hb dX11_latch_25 ?_
    refine fx_ist hx hb hK 0 (rwc_28 hW) (rA_o (o := 28) (by decide)) hS rfl hc dX11_latch_26 (fun H locs hat hne hS => ?_)
    have hW : rw_ E rr (sR x 28 p1.toNatClampNeg ((x.1 28 p1.toNatClampNeg) ||| ((1 : Int32) <<< (p2 &&& 31)))) H := rws_28 (k := p1.toNatClampNeg) (v := (x.1 28 p1.toNatClampNeg) ||| ((1 : Int32) <<< (p2 &&& 31))) hW hat hne
    refine lv_aload_n hx hb dX11_latch_27 rfl (lv_at hl 0 rfl) ?_
    refine lv_iconst (v := 0) hx hb dX11_latch_28 (by decide) ?_
    refine fx_put (ci := 11) (v := .int (0)) hx hb hts i11 tyX11_ok nmX11 hown hK (rwc_0 hW) (rA_o (o := 0) (by decide)) hS rfl 49 (by decide) kl265 rfl rfl rfl (Nat.le_of_ble_eq_true rfl) dX11_latch_29 (fun H locs hat hne hS => ?_)
    have hW : rw_ E rr (sR (sR x 28 p1.toNatClampNeg ((x.1 28 p1.toNatClampNeg) ||| ((1 : Int32) <<< (p2 &&& 31)))) 0 49 (0)) H := rwf_49 (v := 0) hW hat hne
    refine lv_aload_n hx hb dX11_latch_32 rfl (lv_at hl 0 rfl) ?_
    refine lv_bipush (v := 7) hx hb dX11_latch_33 (by decide) ?_
    refine lv_iload_n hx hb dX11_latch_35 rfl (lv_at hl 1 rfl) ?_
    refine lv_iload_n hx hb dX11_latch_36 rfl (lv_at hl 2 rfl) ?_
    refine gx_v (rest := []) ⟨hx, hb, hml, hown, hts⟩ (mX11_note l E rr (sR (sR x 28 p1.toNatClampNeg ((x.1 28 p1.toNatClampNeg) ||| ((1 : Int32) <<< (p2 &&& 31)))) 0 49 (0)) 7 p1 p2 _ _ (okR_sR rfl (okR_al hc ha c_11 h4 hok))) (cwV 3 hts gX11_latch_X11_note rfl rfl rfl (by decide +kernel) ⟨Nat.le_of_ble_eq_true rfl, Nat.le_of_ble_eq_true rfl⟩) hW hK (fx_recv hK (rwc_0 hW) rfl) rfl hl.1 rfl (Nat.le_of_ble_eq_true rfl) dX11_latch_37 ⟨Nat.le_of_ble_eq_true rfl, Nat.le_of_ble_eq_true rfl⟩ hS (fun _ h => h) (fun u1 H locs e1 hW hS => ?_)
    have e1 : fX11_note 7 p1 p2 (sR (sR x 28 p1.toNatClampNeg ((x.1 28 p1.toNatClampNeg) ||| ((1 : Int32) <<< (p2 &&& 31)))) 0 49 (0)) = u1 := e1
    try rw [e1] at hf_11
    have hk1 : okR tg bg u1 := e1 ▸ (okX11_note (okR_sR rfl (okR_al hc ha c_11 h4 hok)))
    refine lv_iload_n hx hb dX11_latch_40 rfl (lv_at hl 2 rfl) ?_
    refine lv_iconst (v := 4) hx hb dX11_latch_41 (by decide) ?_
    refine lv_icmp_gt (tgt := 56) hx hb dX11_latch_42 (by decide) (fun c_42 => ?_) (fun c_42 => ?_)
    · have hf_42 := hf_11.trans (if_pos c_42)
      exact gx_vret hx hb hr hlocks hK hf_42 hW hS dX11_latch_56
    · have hf_42 := hf_11.trans (if_neg c_42)
      refine lv_aload_n hx hb dX11_latch_45 rfl (lv_at hl 0 rfl) ?_
      refine fx_get (ci := 11) (v := .ref (rr + 13)) hx hb hts i11 hown hK (rwc_0 hW) rfl 13 (by decide) kl47 rfl dX11_latch_46 ?_
      refine lv_iload_n hx hb dX11_latch_49 rfl (lv_at hl 1 rfl) ?_
      refine fx_ild hx hb hK 0 (rwc_13 hW) rfl hc dX11_latch_50 ?_
      refine lv_bipush (v := 7) hx hb dX11_latch_51 (by decide) ?_
      refine lv_icmp_eq (tgt := 57) hx hb dX11_latch_53 (by decide) (fun c_53 => ?_) (fun c_53 => ?_)
      · have hf_53 := hf_42.trans (if_pos c_53)
        refine lv_aload_n hx hb dX11_latch_57 rfl (lv_at hl 0 rfl) ?_
        refine fx_get (ci := 11) (v := .ref (rr + 13)) hx hb hts i11 hown hK (rwc_0 hW) rfl 13 (by decide) kl47 rfl dX11_latch_58 ?_
        refine lv_iload_n hx hb dX11_latch_61 rfl (lv_at hl 1 rfl) ?_
        refine lv_bipush (v := 8) hx hb dX11_latch_62 (by decide) ?_
        refine fx_ist hx hb hK 0 (rwc_13 hW) (rA_o (o := 13) (by decide)) hS rfl hc dX11_latch_64 (fun H locs hat hne hS => ?_)
        have hW : rw_ E rr (sR u1 13 p1.toNatClampNeg (8)) H := rws_13 (k := p1.toNatClampNeg) (v := 8) hW hat hne
        refine lv_aload_n hx hb dX11_latch_65 rfl (lv_at hl 0 rfl) ?_
        refine fx_get (ci := 11) (v := .ref (rr + 20)) hx hb hts i11 hown hK (rwc_0 hW) rfl 20 (by decide) kl68 rfl dX11_latch_66 ?_
        refine lv_iload_n hx hb dX11_latch_69 rfl (lv_at hl 1 rfl) ?_
        refine lv_iconst (v := 0) hx hb dX11_latch_70 (by decide) ?_
        refine fx_ist hx hb hK 0 (rwc_20 hW) (rA_o (o := 20) (by decide)) hS rfl hc dX11_latch_71 (fun H locs hat hne hS => ?_)
        have hW : rw_ E rr (sR (sR u1 13 p1.toNatClampNeg (8)) 20 p1.toNatClampNeg (0)) H := rws_20 (k := p1.toNatClampNeg) (v := 0) hW hat hne
        exact gx_vret hx hb hr hlocks hK hf_53 hW hS dX11_latch_72
      · have hf_53 := hf_42.trans (if_neg c_53)
        exact gx_vret hx hb hr hlocks hK hf_53 hW hS dX11_latch_56
  · have hf_11 := hf.trans (if_pos c_11)
    exact gx_vret hx hb hr hlocks hK hf_11 hW hS dX11_latch_14
theorem okX11_latch {tg bg : Nat} {p1 : Int32} {p2 : Int32} {x : RS} (hc : vp_in p1 3) (ha : vp_in p2 7) (h4 : p2 = 4 → vp_in (x.1 15 p1.toNatClampNeg) 16) (hok : okR tg bg x) : okR tg bg (fX11_latch p1 p2 x) := by unfold fX11_latch; exact (okR_ite (fun c_11 => hok) (fun c_11 => (okR_ite (fun c_42 => (okX11_note (okR_sR rfl (okR_al hc ha c_11 h4 hok)))) (fun c_42 => (okR_ite (fun c_53 => (okR_sR rfl (okR_s13 (vi_lt hc) (fun _ => okR_pv (okX11_note (okR_sR rfl (okR_al hc ha c_11 h4 hok))) (vi_lt hc) (Or.inl (by rw [c_53]; decide))) (okX11_note (okR_sR rfl (okR_al hc ha c_11 h4 hok)))))) (fun c_53 => (okX11_note (okR_sR rfl (okR_al hc ha c_11 h4 hok)))))))))

def fX11_drop (p1 : Int32) (x : RS) : RS := (fX11_go p1 ((fX11_note 9 p1 (x.1 13 p1.toNatClampNeg) x).1 14 p1.toNatClampNeg) (fX11_note 9 p1 (x.1 13 p1.toNatClampNeg) x))
set_option maxHeartbeats 4000000 in
set_option maxRecDepth 100000 in
theorem mX11_drop (l : Launch) (E : eE) (rr : Nat) (x : RS) (p1 : Int32) (hc : vp_in p1 3) (tg : Nat) (bg : Nat) (hok : okR tg (bg + 1) x) : Met l yX11_drop wsX11_drop ({ frames := 2, cells := 0, slots := 0, locals := 47 }) (gPre E (rw_ E rr x) [.ref (rr + 0), .int (p1)]) (gQv E (rw_ E rr) (fX11_drop p1 x) (rA rr)) 0 0 (rA rr) := by
  refine Met.ofW (cc := cX11_drop) (maxL := 2) (ret := none) (by decide) rfl ?_
  intro p e s m args below meth c s₁ B hml hv
  obtain ⟨rfl, hW, hK⟩ := hv
  have hx := B.exec
  have hb := B.bytes
  have hr := B.returns
  have hts := atoms_spec (ws := wsX11_drop) B.pre
  have hown : s.vm.findClass RX11 = some m.cls := findClass_of_methodNamed B.named
  have hlocks := B.notSynchronized
  have i11 : ∀ w ∈ wsX110, w ∈ wsX11_drop := by decide +kernel
  have kl47 := hts (.fieldLink RX11 47 "DosePumpModel" "phase" "[I") (by decide +kernel)
  have kl50 := hts (.fieldLink RX11 50 "DosePumpModel" "from" "[I") (by decide +kernel)
  have hS : va_S (rA rr) s.heap s.heap [] := va_S.rf
  have hl := lv_entry ([.ref (rr + 0), .int (p1)]) (n := 2) (Nat.le_of_ble_eq_true rfl)
  rw [lg_entry_eq]
  generalize (lg_sl ([.ref (rr + 0), .int (p1)]) ++ List.replicate (2 - (lg_sl ([.ref (rr + 0), .int (p1)])).length) Slot.unset).toArray = ls at hl ⊢
  have hl : lv_has ls 2 [(0, .ref (rr + 0)), (1, .int (p1))] := hl
  have hf : fX11_drop p1 x = ((fX11_go p1 ((fX11_note 9 p1 (x.1 13 p1.toNatClampNeg) x).1 14 p1.toNatClampNeg) (fX11_note 9 p1 (x.1 13 p1.toNatClampNeg) x))) := rfl
  refine lv_aload_n hx hb dX11_drop_0 rfl (lv_at hl 0 rfl) ?_
  refine lv_bipush (v := 9) hx hb dX11_drop_1 (by decide) ?_
  refine lv_iload_n hx hb dX11_drop_3 rfl (lv_at hl 1 rfl) ?_
  refine lv_aload_n hx hb dX11_drop_4 rfl (lv_at hl 0 rfl) ?_
  refine fx_get (ci := 11) (v := .ref (rr + 13)) hx hb hts i11 hown hK (rwc_0 hW) rfl 13 (by decide) kl47 rfl dX11_drop_5 ?_
  refine lv_iload_n hx hb dX11_drop_8 rfl (lv_at hl 1 rfl) ?_
  refine fx_ild hx hb hK 0 (rwc_13 hW) rfl hc dX11_drop_9 ?_
  refine gx_v (rest := []) ⟨hx, hb, hml, hown, hts⟩ (mX11_note l E rr x 9 p1 (x.1 13 p1.toNatClampNeg) _ _ hok) (cwV 3 hts gX11_drop_X11_note rfl rfl rfl (by decide +kernel) ⟨Nat.le_of_ble_eq_true rfl, Nat.le_of_ble_eq_true rfl⟩) hW hK (fx_recv hK (rwc_0 hW) rfl) rfl hl.1 rfl (Nat.le_of_ble_eq_true rfl) dX11_drop_10 ⟨Nat.le_of_ble_eq_true rfl, Nat.le_of_ble_eq_true rfl⟩ hS (fun _ h => h) (fun u1 H locs e1 hW hS => ?_)
  have e1 : fX11_note 9 p1 (x.1 13 p1.toNatClampNeg) x = u1 := e1
  try rw [e1] at hf
  have hk1 : okR tg bg u1 := e1 ▸ (okX11_note hok)
  refine lv_aload_n hx hb dX11_drop_13 rfl (lv_at hl 0 rfl) ?_
  refine lv_iload_n hx hb dX11_drop_14 rfl (lv_at hl 1 rfl) ?_
  refine lv_aload_n hx hb dX11_drop_15 rfl (lv_at hl 0 rfl) ?_
  refine fx_get (ci := 11) (v := .ref (rr + 14)) hx hb hts i11 hown hK (rwc_0 hW) rfl 14 (by decide) kl50 rfl dX11_drop_16 ?_
  refine lv_iload_n hx hb dX11_drop_19 rfl (lv_at hl 1 rfl) ?_
  refine fx_ild hx hb hK 0 (rwc_14 hW) rfl hc dX11_drop_20 ?_
  refine gx_v (rest := []) ⟨hx, hb, hml, hown, hts⟩ (mX11_go l E rr u1 p1 (u1.1 14 p1.toNatClampNeg) hc) (cwV 2 hts gX11_drop_X11_go rfl rfl rfl (by decide +kernel) ⟨Nat.le_of_ble_eq_true rfl, Nat.le_of_ble_eq_true rfl⟩) hW hK (fx_recv hK (rwc_0 hW) rfl) rfl hl.1 rfl (Nat.le_of_ble_eq_true rfl) dX11_drop_21 ⟨Nat.le_of_ble_eq_true rfl, Nat.le_of_ble_eq_true rfl⟩ hS (fun _ h => h) (fun u2 H locs e2 hW hS => ?_)
  have e2 : fX11_go p1 (u1.1 14 p1.toNatClampNeg) u1 = u2 := e2
  try rw [e2] at hf
  have hk2 : okR tg bg u2 := e2 ▸ (okX11_go hc (fun h => okR_pv hk1 (vi_lt hc) (Or.inr (Or.inl h))) hk1)
  exact gx_vret hx hb hr hlocks hK hf hW hS dX11_drop_24
theorem okX11_drop {tg bg : Nat} {p1 : Int32} {x : RS} (hc : vp_in p1 3) (hok : okR tg (bg + 1) x) : okR tg bg (fX11_drop p1 x) := by unfold fX11_drop; exact (okX11_go hc (fun h => okR_pv (okX11_note hok) (vi_lt hc) (Or.inr (Or.inl h))) (okX11_note hok))

def fX11_run (p1 : Int32) (x : RS) : RS × Int32 := if (fX11_mayRun p1 x) = 0 then ((x, 0)) else (((fX11_note 3 p1 (x.1 16 p1.toNatClampNeg) (sR (sR x 13 p1.toNatClampNeg (7)) 29 p1.toNatClampNeg (0))), 1))
set_option maxHeartbeats 4000000 in
set_option maxRecDepth 100000 in
theorem mX11_run (l : Launch) (E : eE) (rr : Nat) (x : RS) (p1 : Int32) (hc : vp_in p1 3) (tg : Nat) (bg : Nat) (hok : okR tg (bg + 1) x) : Met l yX11_run wsX11_run ({ frames := 2, cells := 0, slots := 0, locals := 47 }) (gPre E (rw_ E rr x) [.ref (rr + 0), .int (p1)]) (gQi E (rw_ E rr) (fX11_run p1 x) (rA rr)) 0 0 (rA rr) := by
  refine Met.ofW (cc := cX11_run) (maxL := 2) (ret := (some .boolean)) (by decide) rfl ?_
  intro p e s m args below meth c s₁ B hml hv
  obtain ⟨rfl, hW, hK⟩ := hv
  have hx := B.exec
  have hb := B.bytes
  have hr := B.returns
  have hts := atoms_spec (ws := wsX11_run) B.pre
  have hown : s.vm.findClass RX11 = some m.cls := findClass_of_methodNamed B.named
  have hlocks := B.notSynchronized
  have i11 : ∀ w ∈ wsX110, w ∈ wsX11_run := by decide +kernel
  have kl47 := hts (.fieldLink RX11 47 "DosePumpModel" "phase" "[I") (by decide +kernel)
  have kl56 := hts (.fieldLink RX11 56 "DosePumpModel" "rate" "[I") (by decide +kernel)
  have kl95 := hts (.fieldLink RX11 95 "DosePumpModel" "relay" "[Z") (by decide +kernel)
  have hS : va_S (rA rr) s.heap s.heap [] := va_S.rf
  have hl := lv_entry ([.ref (rr + 0), .int (p1)]) (n := 2) (Nat.le_of_ble_eq_true rfl)
  rw [lg_entry_eq]
  generalize (lg_sl ([.ref (rr + 0), .int (p1)]) ++ List.replicate (2 - (lg_sl ([.ref (rr + 0), .int (p1)])).length) Slot.unset).toArray = ls at hl ⊢
  have hl : lv_has ls 2 [(0, .ref (rr + 0)), (1, .int (p1))] := hl
  have hf : fX11_run p1 x = (if (fX11_mayRun p1 x) = 0 then ((x, 0)) else (((fX11_note 3 p1 (x.1 16 p1.toNatClampNeg) (sR (sR x 13 p1.toNatClampNeg (7)) 29 p1.toNatClampNeg (0))), 1))) := rfl
  refine lv_aload_n hx hb dX11_run_0 rfl (lv_at hl 0 rfl) ?_
  refine lv_iload_n hx hb dX11_run_1 rfl (lv_at hl 1 rfl) ?_
  refine gx_i (rest := []) ⟨hx, hb, hml, hown, hts⟩ (mX11_mayRun l E rr x p1 hc) (cwV 1 hts gX11_run_X11_mayRun rfl rfl rfl (by decide +kernel) ⟨Nat.le_of_ble_eq_true rfl, Nat.le_of_ble_eq_true rfl⟩) hW hK (fx_recv hK (rwc_0 hW) rfl) rfl hl.1 rfl (Nat.le_of_ble_eq_true rfl) dX11_run_2 ⟨Nat.le_of_ble_eq_true rfl, Nat.le_of_ble_eq_true rfl⟩ hS (fun _ h => h) (fun _ r1 H locs _ e1 hW hS => ?_)
  have e1 : fX11_mayRun p1 x = r1 := e1
  try rw [e1] at hf
  refine lv_if_ne (tgt := 10) hx hb dX11_run_5 (by decide) (fun c_5 => ?_) (fun c_5 => ?_)
  · have hf_5 := hf.trans (if_neg c_5)
    refine lv_aload_n hx hb dX11_run_10 rfl (lv_at hl 0 rfl) ?_
    refine fx_get (ci := 11) (v := .ref (rr + 13)) hx hb hts i11 hown hK (rwc_0 hW) rfl 13 (by decide) kl47 rfl dX11_run_11 ?_
    refine lv_iload_n hx hb dX11_run_14 rfl (lv_at hl 1 rfl) ?_
    refine lv_bipush (v := 7) hx hb dX11_run_15 (by decide) ?_
    refine fx_ist hx hb hK 0 (rwc_13 hW) (rA_o (o := 13) (by decide)) hS rfl hc dX11_run_17 (fun H locs hat hne hS => ?_)
    have hW : rw_ E rr (sR x 13 p1.toNatClampNeg (7)) H := rws_13 (k := p1.toNatClampNeg) (v := 7) hW hat hne
    refine lv_aload_n hx hb dX11_run_18 rfl (lv_at hl 0 rfl) ?_
    refine fx_get (ci := 11) (v := .ref (rr + 29)) hx hb hts i11 hown hK (rwc_0 hW) rfl 29 (by decide) kl95 rfl dX11_run_19 ?_
    refine lv_iload_n hx hb dX11_run_22 rfl (lv_at hl 1 rfl) ?_
    refine lv_iconst (v := 0) hx hb dX11_run_23 (by decide) ?_
    refine fx_zst hx hb hK 1 (rwc_29 hW) (rA_o (o := 29) (by decide)) hS rfl (by decide) hc dX11_run_24 (fun H locs hat hne hS => ?_)
    have hW : rw_ E rr (sR (sR x 13 p1.toNatClampNeg (7)) 29 p1.toNatClampNeg (0)) H := rws_29 (k := p1.toNatClampNeg) (v := 0) hW hat hne
    refine lv_aload_n hx hb dX11_run_25 rfl (lv_at hl 0 rfl) ?_
    refine lv_iconst (v := 3) hx hb dX11_run_26 (by decide) ?_
    refine lv_iload_n hx hb dX11_run_27 rfl (lv_at hl 1 rfl) ?_
    refine lv_aload_n hx hb dX11_run_28 rfl (lv_at hl 0 rfl) ?_
    refine fx_get (ci := 11) (v := .ref (rr + 16)) hx hb hts i11 hown hK (rwc_0 hW) rfl 16 (by decide) kl56 rfl dX11_run_29 ?_
    refine lv_iload_n hx hb dX11_run_32 rfl (lv_at hl 1 rfl) ?_
    refine fx_ild hx hb hK 0 (rwc_16 hW) rfl hc dX11_run_33 ?_
    refine gx_v (rest := []) ⟨hx, hb, hml, hown, hts⟩ (mX11_note l E rr (sR (sR x 13 p1.toNatClampNeg (7)) 29 p1.toNatClampNeg (0)) 3 p1 (x.1 16 p1.toNatClampNeg) _ _ (okR_sR rfl (okR_s13 (vi_lt hc) (fun _ => okR_pv hok (vi_lt hc) (Or.inl (mayrun_ge (by rw [e1]; exact c_5)))) hok))) (cwV 3 hts gX11_run_X11_note rfl rfl rfl (by decide +kernel) ⟨Nat.le_of_ble_eq_true rfl, Nat.le_of_ble_eq_true rfl⟩) hW hK (fx_recv hK (rwc_0 hW) rfl) rfl hl.1 rfl (Nat.le_of_ble_eq_true rfl) dX11_run_34 ⟨Nat.le_of_ble_eq_true rfl, Nat.le_of_ble_eq_true rfl⟩ hS (fun _ h => h) (fun u2 H locs e2 hW hS => ?_)
    have e2 : fX11_note 3 p1 (x.1 16 p1.toNatClampNeg) (sR (sR x 13 p1.toNatClampNeg (7)) 29 p1.toNatClampNeg (0)) = u2 := e2
    try rw [e2] at hf_5
    have hk2 : okR tg bg u2 := e2 ▸ (okX11_note (okR_sR rfl (okR_s13 (vi_lt hc) (fun _ => okR_pv hok (vi_lt hc) (Or.inl (mayrun_ge (by rw [e1]; exact c_5)))) hok)))
    refine lv_iconst (v := 1) hx hb dX11_run_37 (by decide) ?_
    exact gx_iret hx hb hr (by decide) hlocks hK hf_5 hW hS dX11_run_38
  · have hf_5 := hf.trans (if_pos c_5)
    refine lv_iconst (v := 0) hx hb dX11_run_8 (by decide) ?_
    exact gx_iret hx hb hr (by decide) hlocks hK hf_5 hW hS dX11_run_9
theorem okX11_run {tg bg : Nat} {p1 : Int32} {x : RS} (hc : vp_in p1 3) (hok : okR tg (bg + 1) x) : okR tg bg (fX11_run p1 x).1 := by unfold fX11_run; exact (okR_ite1 (fun c_5 => (okR_le (k := 1) hok)) (fun c_5 => (okX11_note (okR_sR rfl (okR_s13 (vi_lt hc) (fun _ => okR_pv hok (vi_lt hc) (Or.inl (mayrun_ge c_5))) hok)))))

def fX11_stop (p1 : Int32) (x : RS) : RS × Int32 := if (x.1 13 p1.toNatClampNeg) = 7 then (((fX11_note 4 p1 (x.1 18 p1.toNatClampNeg) (sR (sR x 13 p1.toNatClampNeg (8)) 20 p1.toNatClampNeg (0))), 1)) else (if (fX11_isEntry p1 x) = 0 then ((x, 0)) else (((fX11_drop p1 x), 1)))
set_option maxHeartbeats 4000000 in
set_option maxRecDepth 100000 in
theorem mX11_stop (l : Launch) (E : eE) (rr : Nat) (x : RS) (p1 : Int32) (hc : vp_in p1 3) (tg : Nat) (bg : Nat) (hok : okR tg (bg + 1) x) : Met l yX11_stop wsX11_stop ({ frames := 3, cells := 0, slots := 0, locals := 68 }) (gPre E (rw_ E rr x) [.ref (rr + 0), .int (p1)]) (gQi E (rw_ E rr) (fX11_stop p1 x) (rA rr)) 0 0 (rA rr) := by
  refine Met.ofW (cc := cX11_stop) (maxL := 2) (ret := (some .boolean)) (by decide) rfl ?_
  intro p e s m args below meth c s₁ B hml hv
  obtain ⟨rfl, hW, hK⟩ := hv
  have hx := B.exec
  have hb := B.bytes
  have hr := B.returns
  have hts := atoms_spec (ws := wsX11_stop) B.pre
  have hown : s.vm.findClass RX11 = some m.cls := findClass_of_methodNamed B.named
  have hlocks := B.notSynchronized
  have i11 : ∀ w ∈ wsX110, w ∈ wsX11_stop := by decide +kernel
  have kl47 := hts (.fieldLink RX11 47 "DosePumpModel" "phase" "[I") (by decide +kernel)
  have kl62 := hts (.fieldLink RX11 62 "DosePumpModel" "made" "[I") (by decide +kernel)
  have kl68 := hts (.fieldLink RX11 68 "DosePumpModel" "bolusLeft" "[I") (by decide +kernel)
  have hS : va_S (rA rr) s.heap s.heap [] := va_S.rf
  have hl := lv_entry ([.ref (rr + 0), .int (p1)]) (n := 2) (Nat.le_of_ble_eq_true rfl)
  rw [lg_entry_eq]
  generalize (lg_sl ([.ref (rr + 0), .int (p1)]) ++ List.replicate (2 - (lg_sl ([.ref (rr + 0), .int (p1)])).length) Slot.unset).toArray = ls at hl ⊢
  have hl : lv_has ls 2 [(0, .ref (rr + 0)), (1, .int (p1))] := hl
  have hf : fX11_stop p1 x = (if (x.1 13 p1.toNatClampNeg) = 7 then (((fX11_note 4 p1 (x.1 18 p1.toNatClampNeg) (sR (sR x 13 p1.toNatClampNeg (8)) 20 p1.toNatClampNeg (0))), 1)) else (if (fX11_isEntry p1 x) = 0 then ((x, 0)) else (((fX11_drop p1 x), 1)))) := rfl
  refine lv_aload_n hx hb dX11_stop_0 rfl (lv_at hl 0 rfl) ?_
  refine fx_get (ci := 11) (v := .ref (rr + 13)) hx hb hts i11 hown hK (rwc_0 hW) rfl 13 (by decide) kl47 rfl dX11_stop_1 ?_
  refine lv_iload_n hx hb dX11_stop_4 rfl (lv_at hl 1 rfl) ?_
  refine fx_ild hx hb hK 0 (rwc_13 hW) rfl hc dX11_stop_5 ?_
  refine lv_bipush (v := 7) hx hb dX11_stop_6 (by decide) ?_
  refine lv_icmp_ne (tgt := 40) hx hb dX11_stop_8 (by decide) (fun c_8 => ?_) (fun c_8 => ?_)
  · have hf_8 := hf.trans (if_neg c_8)
    refine lv_aload_n hx hb dX11_stop_40 rfl (lv_at hl 0 rfl) ?_
    refine lv_iload_n hx hb dX11_stop_41 rfl (lv_at hl 1 rfl) ?_
    refine gx_i (rest := []) ⟨hx, hb, hml, hown, hts⟩ (mX11_isEntry l E rr x p1 hc) (cwV 1 hts gX11_stop_X11_isEntry rfl rfl rfl (by decide +kernel) ⟨Nat.le_of_ble_eq_true rfl, Nat.le_of_ble_eq_true rfl⟩) hW hK (fx_recv hK (rwc_0 hW) rfl) rfl hl.1 rfl (Nat.le_of_ble_eq_true rfl) dX11_stop_42 ⟨Nat.le_of_ble_eq_true rfl, Nat.le_of_ble_eq_true rfl⟩ hS (fun _ h => h) (fun _ r1 H locs _ e1 hW hS => ?_)
    have e1 : fX11_isEntry p1 x = r1 := e1
    try rw [e1] at hf_8
    refine lv_if_ne (tgt := 50) hx hb dX11_stop_45 (by decide) (fun c_45 => ?_) (fun c_45 => ?_)
    · have hf_45 := hf_8.trans (if_neg c_45)
      refine lv_aload_n hx hb dX11_stop_50 rfl (lv_at hl 0 rfl) ?_
      refine lv_iload_n hx hb dX11_stop_51 rfl (lv_at hl 1 rfl) ?_
      refine gx_v (rest := []) ⟨hx, hb, hml, hown, hts⟩ (mX11_drop l E rr x p1 hc _ _ hok) (cwV 1 hts gX11_stop_X11_drop rfl rfl rfl (by decide +kernel) ⟨Nat.le_of_ble_eq_true rfl, Nat.le_of_ble_eq_true rfl⟩) hW hK (fx_recv hK (rwc_0 hW) rfl) rfl hl.1 rfl (Nat.le_of_ble_eq_true rfl) dX11_stop_52 ⟨Nat.le_of_ble_eq_true rfl, Nat.le_of_ble_eq_true rfl⟩ hS (fun _ h => h) (fun u2 H locs e2 hW hS => ?_)
      have e2 : fX11_drop p1 x = u2 := e2
      try rw [e2] at hf_45
      have hk2 : okR tg bg u2 := e2 ▸ (okX11_drop hc hok)
      refine lv_iconst (v := 1) hx hb dX11_stop_55 (by decide) ?_
      exact gx_iret hx hb hr (by decide) hlocks hK hf_45 hW hS dX11_stop_56
    · have hf_45 := hf_8.trans (if_pos c_45)
      refine lv_iconst (v := 0) hx hb dX11_stop_48 (by decide) ?_
      exact gx_iret hx hb hr (by decide) hlocks hK hf_45 hW hS dX11_stop_49
  · have hf_8 := hf.trans (if_pos c_8)
    refine lv_aload_n hx hb dX11_stop_11 rfl (lv_at hl 0 rfl) ?_
    refine fx_get (ci := 11) (v := .ref (rr + 13)) hx hb hts i11 hown hK (rwc_0 hW) rfl 13 (by decide) kl47 rfl dX11_stop_12 ?_
    refine lv_iload_n hx hb dX11_stop_15 rfl (lv_at hl 1 rfl) ?_
    refine lv_bipush (v := 8) hx hb dX11_stop_16 (by decide) ?_
    refine fx_ist hx hb hK 0 (rwc_13 hW) (rA_o (o := 13) (by decide)) hS rfl hc dX11_stop_18 (fun H locs hat hne hS => ?_)
    have hW : rw_ E rr (sR x 13 p1.toNatClampNeg (8)) H := rws_13 (k := p1.toNatClampNeg) (v := 8) hW hat hne
    refine lv_aload_n hx hb dX11_stop_19 rfl (lv_at hl 0 rfl) ?_
    refine fx_get (ci := 11) (v := .ref (rr + 20)) hx hb hts i11 hown hK (rwc_0 hW) rfl 20 (by decide) kl68 rfl dX11_stop_20 ?_
    refine lv_iload_n hx hb dX11_stop_23 rfl (lv_at hl 1 rfl) ?_
    refine lv_iconst (v := 0) hx hb dX11_stop_24 (by decide) ?_
    refine fx_ist hx hb hK 0 (rwc_20 hW) (rA_o (o := 20) (by decide)) hS rfl hc dX11_stop_25 (fun H locs hat hne hS => ?_)
    have hW : rw_ E rr (sR (sR x 13 p1.toNatClampNeg (8)) 20 p1.toNatClampNeg (0)) H := rws_20 (k := p1.toNatClampNeg) (v := 0) hW hat hne
    refine lv_aload_n hx hb dX11_stop_26 rfl (lv_at hl 0 rfl) ?_
    refine lv_iconst (v := 4) hx hb dX11_stop_27 (by decide) ?_
    refine lv_iload_n hx hb dX11_stop_28 rfl (lv_at hl 1 rfl) ?_
    refine lv_aload_n hx hb dX11_stop_29 rfl (lv_at hl 0 rfl) ?_
    refine fx_get (ci := 11) (v := .ref (rr + 18)) hx hb hts i11 hown hK (rwc_0 hW) rfl 18 (by decide) kl62 rfl dX11_stop_30 ?_
    refine lv_iload_n hx hb dX11_stop_33 rfl (lv_at hl 1 rfl) ?_
    refine fx_ild hx hb hK 0 (rwc_18 hW) rfl hc dX11_stop_34 ?_
    refine gx_v (rest := []) ⟨hx, hb, hml, hown, hts⟩ (mX11_note l E rr (sR (sR x 13 p1.toNatClampNeg (8)) 20 p1.toNatClampNeg (0)) 4 p1 (x.1 18 p1.toNatClampNeg) _ _ (okR_sR rfl (okR_s13 (vi_lt hc) (fun _ => okR_pv hok (vi_lt hc) (Or.inl (by rw [c_8]; decide))) hok))) (cwV 3 hts gX11_stop_X11_note rfl rfl rfl (by decide +kernel) ⟨Nat.le_of_ble_eq_true rfl, Nat.le_of_ble_eq_true rfl⟩) hW hK (fx_recv hK (rwc_0 hW) rfl) rfl hl.1 rfl (Nat.le_of_ble_eq_true rfl) dX11_stop_35 ⟨Nat.le_of_ble_eq_true rfl, Nat.le_of_ble_eq_true rfl⟩ hS (fun _ h => h) (fun u3 H locs e3 hW hS => ?_)
    have e3 : fX11_note 4 p1 (x.1 18 p1.toNatClampNeg) (sR (sR x 13 p1.toNatClampNeg (8)) 20 p1.toNatClampNeg (0)) = u3 := e3
    try rw [e3] at hf_8
    have hk3 : okR tg bg u3 := e3 ▸ (okX11_note (okR_sR rfl (okR_s13 (vi_lt hc) (fun _ => okR_pv hok (vi_lt hc) (Or.inl (by rw [c_8]; decide))) hok)))
    refine lv_iconst (v := 1) hx hb dX11_stop_38 (by decide) ?_
    exact gx_iret hx hb hr (by decide) hlocks hK hf_8 hW hS dX11_stop_39
theorem okX11_stop {tg bg : Nat} {p1 : Int32} {x : RS} (hc : vp_in p1 3) (hok : okR tg (bg + 1) x) : okR tg bg (fX11_stop p1 x).1 := by unfold fX11_stop; exact (okR_ite1 (fun c_8 => (okX11_note (okR_sR rfl (okR_s13 (vi_lt hc) (fun _ => okR_pv hok (vi_lt hc) (Or.inl (by rw [c_8]; decide))) hok)))) (fun c_8 => (okR_ite1 (fun c_45 => (okR_le (k := 1) hok)) (fun c_45 => (okX11_drop hc hok)))))

def fX11_begin_J33 (p1 : Int32) (y : RS) : RS × Int32 := ((sR (fX11_go p1 1 (sR y 14 p1.toNatClampNeg (y.1 13 p1.toNatClampNeg))) 29 p1.toNatClampNeg (0)), 1)
def fX11_begin (p1 : Int32) (x : RS) : RS × Int32 := if (x.1 13 p1.toNatClampNeg) = 0 then (fX11_begin_J33 p1 x) else (if (x.1 13 p1.toNatClampNeg) = 6 then (fX11_begin_J33 p1 x) else (if (x.1 13 p1.toNatClampNeg) = 8 then (fX11_begin_J33 p1 x) else ((x, 0))))
set_option maxHeartbeats 4000000 in
set_option maxRecDepth 100000 in
theorem mX11_begin (l : Launch) (E : eE) (rr : Nat) (x : RS) (p1 : Int32) (hc : vp_in p1 3) (tg : Nat) (bg : Nat) (hok : okR tg bg x) : Met l yX11_begin wsX11_begin ({ frames := 2, cells := 0, slots := 0, locals := 43 }) (gPre E (rw_ E rr x) [.ref (rr + 0), .int (p1)]) (gQi E (rw_ E rr) (fX11_begin p1 x) (rA rr)) 0 0 (rA rr) := by
  refine Met.ofW (cc := cX11_begin) (maxL := 2) (ret := (some .boolean)) (by decide) rfl ?_
  intro p e s m args below meth c s₁ B hml hv
  obtain ⟨rfl, hW, hK⟩ := hv
  have hx := B.exec
  have hb := B.bytes
  have hr := B.returns
  have hts := atoms_spec (ws := wsX11_begin) B.pre
  have hown : s.vm.findClass RX11 = some m.cls := findClass_of_methodNamed B.named
  have hlocks := B.notSynchronized
  have i11 : ∀ w ∈ wsX110, w ∈ wsX11_begin := by decide +kernel
  have kl47 := hts (.fieldLink RX11 47 "DosePumpModel" "phase" "[I") (by decide +kernel)
  have kl50 := hts (.fieldLink RX11 50 "DosePumpModel" "from" "[I") (by decide +kernel)
  have kl95 := hts (.fieldLink RX11 95 "DosePumpModel" "relay" "[Z") (by decide +kernel)
  have hS : va_S (rA rr) s.heap s.heap [] := va_S.rf
  have hl := lv_entry ([.ref (rr + 0), .int (p1)]) (n := 2) (Nat.le_of_ble_eq_true rfl)
  rw [lg_entry_eq]
  generalize (lg_sl ([.ref (rr + 0), .int (p1)]) ++ List.replicate (2 - (lg_sl ([.ref (rr + 0), .int (p1)])).length) Slot.unset).toArray = ls at hl ⊢
  have hl : lv_has ls 2 [(0, .ref (rr + 0)), (1, .int (p1))] := hl
  have J33 : ∀ (H : Heap) (locs : List Loc) (ls : Array Slot) (y : RS), rw_ E rr y H → va_S (rA rr) s.heap H locs → lv_has ls 2 [(0, .ref (rr + 0)), (1, .int (p1))] → okR tg bg y → fX11_begin p1 x = fX11_begin_J33 p1 y → W p l e (headSpec wsX11_begin { frames := 2, cells := 0, slots := 0, locals := 43 }).room s m ([.ref (rr + 0), .int (p1)] : List Value).toArray below meth c H locs 0 0 (MQ below (gQi E (rw_ E rr) (fX11_begin p1 x) (rA rr)) ([.ref (rr + 0), .int (p1)] : List Value).toArray s 0 0 (rA rr)) (F0 m 33 ls []) := by
    intro H locs ls y hW hS hl hok hf
    replace hf : fX11_begin p1 x = (((sR (fX11_go p1 1 (sR y 14 p1.toNatClampNeg (y.1 13 p1.toNatClampNeg))) 29 p1.toNatClampNeg (0)), 1)) := hf
    refine lv_aload_n hx hb dX11_begin_33 rfl (lv_at hl 0 rfl) ?_
    refine fx_get (ci := 11) (v := .ref (rr + 14)) hx hb hts i11 hown hK (rwc_0 hW) rfl 14 (by decide) kl50 rfl dX11_begin_34 ?_
    refine lv_iload_n hx hb dX11_begin_37 rfl (lv_at hl 1 rfl) ?_
    refine lv_aload_n hx hb dX11_begin_38 rfl (lv_at hl 0 rfl) ?_
    refine fx_get (ci := 11) (v := .ref (rr + 13)) hx hb hts i11 hown hK (rwc_0 hW) rfl 13 (by decide) kl47 rfl dX11_begin_39 ?_
    refine lv_iload_n hx hb dX11_begin_42 rfl (lv_at hl 1 rfl) ?_
    refine fx_ild hx hb hK 0 (rwc_13 hW) rfl hc dX11_begin_43 ?_
    refine fx_ist hx hb hK 0 (rwc_14 hW) (rA_o (o := 14) (by decide)) hS rfl hc dX11_begin_44 (fun H locs hat hne hS => ?_)
    have hW : rw_ E rr (sR y 14 p1.toNatClampNeg (y.1 13 p1.toNatClampNeg)) H := rws_14 (k := p1.toNatClampNeg) (v := y.1 13 p1.toNatClampNeg) hW hat hne
    refine lv_aload_n hx hb dX11_begin_45 rfl (lv_at hl 0 rfl) ?_
    refine lv_iload_n hx hb dX11_begin_46 rfl (lv_at hl 1 rfl) ?_
    refine lv_iconst (v := 1) hx hb dX11_begin_47 (by decide) ?_
    refine gx_v (rest := []) ⟨hx, hb, hml, hown, hts⟩ (mX11_go l E rr (sR y 14 p1.toNatClampNeg (y.1 13 p1.toNatClampNeg)) p1 1 hc) (cwV 2 hts gX11_begin_X11_go rfl rfl rfl (by decide +kernel) ⟨Nat.le_of_ble_eq_true rfl, Nat.le_of_ble_eq_true rfl⟩) hW hK (fx_recv hK (rwc_0 hW) rfl) rfl hl.1 rfl (Nat.le_of_ble_eq_true rfl) dX11_begin_48 ⟨Nat.le_of_ble_eq_true rfl, Nat.le_of_ble_eq_true rfl⟩ hS (fun _ h => h) (fun u1 H locs e1 hW hS => ?_)
    have e1 : fX11_go p1 1 (sR y 14 p1.toNatClampNeg (y.1 13 p1.toNatClampNeg)) = u1 := e1
    try rw [e1] at hf
    have hk1 : okR tg bg u1 := e1 ▸ (okX11_go hc (fun h => absurd h (by decide)) (okR_s14 (vi_lt hc) (fun h => okR_pv hok (vi_lt hc) (Or.inl h)) hok))
    refine lv_aload_n hx hb dX11_begin_51 rfl (lv_at hl 0 rfl) ?_
    refine fx_get (ci := 11) (v := .ref (rr + 29)) hx hb hts i11 hown hK (rwc_0 hW) rfl 29 (by decide) kl95 rfl dX11_begin_52 ?_
    refine lv_iload_n hx hb dX11_begin_55 rfl (lv_at hl 1 rfl) ?_
    refine lv_iconst (v := 0) hx hb dX11_begin_56 (by decide) ?_
    refine fx_zst hx hb hK 1 (rwc_29 hW) (rA_o (o := 29) (by decide)) hS rfl (by decide) hc dX11_begin_57 (fun H locs hat hne hS => ?_)
    have hW : rw_ E rr (sR u1 29 p1.toNatClampNeg (0)) H := rws_29 (k := p1.toNatClampNeg) (v := 0) hW hat hne
    refine lv_iconst (v := 1) hx hb dX11_begin_58 (by decide) ?_
    exact gx_iret hx hb hr (by decide) hlocks hK hf hW hS dX11_begin_59
  have hf : fX11_begin p1 x = (if (x.1 13 p1.toNatClampNeg) = 0 then (fX11_begin_J33 p1 x) else (if (x.1 13 p1.toNatClampNeg) = 6 then (fX11_begin_J33 p1 x) else (if (x.1 13 p1.toNatClampNeg) = 8 then (fX11_begin_J33 p1 x) else ((x, 0))))) := rfl
  refine lv_aload_n hx hb dX11_begin_0 rfl (lv_at hl 0 rfl) ?_
  refine fx_get (ci := 11) (v := .ref (rr + 13)) hx hb hts i11 hown hK (rwc_0 hW) rfl 13 (by decide) kl47 rfl dX11_begin_1 ?_
  refine lv_iload_n hx hb dX11_begin_4 rfl (lv_at hl 1 rfl) ?_
  refine fx_ild hx hb hK 0 (rwc_13 hW) rfl hc dX11_begin_5 ?_
  refine lv_if_eq (tgt := 33) hx hb dX11_begin_6 (by decide) (fun c_6 => ?_) (fun c_6 => ?_)
  · have hf_6 := hf.trans (if_pos c_6)
    exact J33 _ _ _ x hW hS (lv_sub hl [0, 1] rfl) hok hf_6
  · have hf_6 := hf.trans (if_neg c_6)
    refine lv_aload_n hx hb dX11_begin_9 rfl (lv_at hl 0 rfl) ?_
    refine fx_get (ci := 11) (v := .ref (rr + 13)) hx hb hts i11 hown hK (rwc_0 hW) rfl 13 (by decide) kl47 rfl dX11_begin_10 ?_
    refine lv_iload_n hx hb dX11_begin_13 rfl (lv_at hl 1 rfl) ?_
    refine fx_ild hx hb hK 0 (rwc_13 hW) rfl hc dX11_begin_14 ?_
    refine lv_bipush (v := 6) hx hb dX11_begin_15 (by decide) ?_
    refine lv_icmp_eq (tgt := 33) hx hb dX11_begin_17 (by decide) (fun c_17 => ?_) (fun c_17 => ?_)
    · have hf_17 := hf_6.trans (if_pos c_17)
      exact J33 _ _ _ x hW hS (lv_sub hl [0, 1] rfl) hok hf_17
    · have hf_17 := hf_6.trans (if_neg c_17)
      refine lv_aload_n hx hb dX11_begin_20 rfl (lv_at hl 0 rfl) ?_
      refine fx_get (ci := 11) (v := .ref (rr + 13)) hx hb hts i11 hown hK (rwc_0 hW) rfl 13 (by decide) kl47 rfl dX11_begin_21 ?_
      refine lv_iload_n hx hb dX11_begin_24 rfl (lv_at hl 1 rfl) ?_
      refine fx_ild hx hb hK 0 (rwc_13 hW) rfl hc dX11_begin_25 ?_
      refine lv_bipush (v := 8) hx hb dX11_begin_26 (by decide) ?_
      refine lv_icmp_eq (tgt := 33) hx hb dX11_begin_28 (by decide) (fun c_28 => ?_) (fun c_28 => ?_)
      · have hf_28 := hf_17.trans (if_pos c_28)
        exact J33 _ _ _ x hW hS (lv_sub hl [0, 1] rfl) hok hf_28
      · have hf_28 := hf_17.trans (if_neg c_28)
        refine lv_iconst (v := 0) hx hb dX11_begin_31 (by decide) ?_
        exact gx_iret hx hb hr (by decide) hlocks hK hf_28 hW hS dX11_begin_32
theorem okX11_begin_J33 {tg bg : Nat} {p1 : Int32} {y : RS} (hc : vp_in p1 3) (hok : okR tg bg y) : okR tg bg (fX11_begin_J33 p1 y).1 := by unfold fX11_begin_J33; exact (okR_sR rfl (okX11_go hc (fun h => absurd h (by decide)) (okR_s14 (vi_lt hc) (fun h => okR_pv hok (vi_lt hc) (Or.inl h)) hok)))
theorem okX11_begin {tg bg : Nat} {p1 : Int32} {x : RS} (hc : vp_in p1 3) (hok : okR tg bg x) : okR tg bg (fX11_begin p1 x).1 := by unfold fX11_begin; exact (okR_ite1 (fun c_6 => (okX11_begin_J33 hc hok)) (fun c_6 => (okR_ite1 (fun c_17 => (okX11_begin_J33 hc hok)) (fun c_17 => (okR_ite1 (fun c_28 => (okX11_begin_J33 hc hok)) (fun c_28 => hok))))))

def fX11_lines_J51 (p1 : Int32) (y : RS) (w0 : Int32) : RS := if (3 : Int32) ≤ ((sR y 26 p1.toNatClampNeg (w0)).1 26 p1.toNatClampNeg) then ((fX11_latch p1 1 (sR (sR (sR y 26 p1.toNatClampNeg (w0)) 26 p1.toNatClampNeg (0)) 25 p1.toNatClampNeg (0)))) else ((sR y 26 p1.toNatClampNeg (w0)))
def fX11_lines (p1 : Int32) (x : RS) : RS := if ((sR x 25 p1.toNatClampNeg ((fX11_most 0 ((x.1 25 p1.toNatClampNeg) - (x.1 22 p1.toNatClampNeg)) x))).1 25 p1.toNatClampNeg) < 100 then (fX11_lines_J51 p1 (sR x 25 p1.toNatClampNeg ((fX11_most 0 ((x.1 25 p1.toNatClampNeg) - (x.1 22 p1.toNatClampNeg)) x))) 0) else (fX11_lines_J51 p1 (sR x 25 p1.toNatClampNeg ((fX11_most 0 ((x.1 25 p1.toNatClampNeg) - (x.1 22 p1.toNatClampNeg)) x))) ((x.1 26 p1.toNatClampNeg) + 1))
set_option maxHeartbeats 4000000 in
set_option maxRecDepth 100000 in
theorem mX11_lines (l : Launch) (E : eE) (rr : Nat) (x : RS) (p1 : Int32) (hc : vp_in p1 3) (tg : Nat) (bg : Nat) (hok : okR tg bg x) : Met l yX11_lines wsX11_lines ({ frames := 3, cells := 0, slots := 0, locals := 69 }) (gPre E (rw_ E rr x) [.ref (rr + 0), .int (p1)]) (gQv E (rw_ E rr) (fX11_lines p1 x) (rA rr)) 0 0 (rA rr) := by
  refine Met.ofW (cc := cX11_lines) (maxL := 2) (ret := none) (by decide) rfl ?_
  intro p e s m args below meth c s₁ B hml hv
  obtain ⟨rfl, hW, hK⟩ := hv
  have hx := B.exec
  have hb := B.bytes
  have hr := B.returns
  have hts := atoms_spec (ws := wsX11_lines) B.pre
  have hown : s.vm.findClass RX11 = some m.cls := findClass_of_methodNamed B.named
  have hlocks := B.notSynchronized
  have i11 : ∀ w ∈ wsX110, w ∈ wsX11_lines := by decide +kernel
  have kl74 := hts (.fieldLink RX11 74 "DosePumpModel" "flow" "[I") (by decide +kernel)
  have kl83 := hts (.fieldLink RX11 83 "DosePumpModel" "pressure" "[I") (by decide +kernel)
  have kl86 := hts (.fieldLink RX11 86 "DosePumpModel" "pressed" "[I") (by decide +kernel)
  have hS : va_S (rA rr) s.heap s.heap [] := va_S.rf
  have hl := lv_entry ([.ref (rr + 0), .int (p1)]) (n := 2) (Nat.le_of_ble_eq_true rfl)
  rw [lg_entry_eq]
  generalize (lg_sl ([.ref (rr + 0), .int (p1)]) ++ List.replicate (2 - (lg_sl ([.ref (rr + 0), .int (p1)])).length) Slot.unset).toArray = ls at hl ⊢
  have hl : lv_has ls 2 [(0, .ref (rr + 0)), (1, .int (p1))] := hl
  have J51 : ∀ (H : Heap) (locs : List Loc) (ls : Array Slot) (y : RS) (w0 : Int32), rw_ E rr y H → va_S (rA rr) s.heap H locs → lv_has ls 2 [(0, .ref (rr + 0)), (1, .int (p1))] → okR tg bg y → fX11_lines p1 x = fX11_lines_J51 p1 y w0 → W p l e (headSpec wsX11_lines { frames := 3, cells := 0, slots := 0, locals := 69 }).room s m ([.ref (rr + 0), .int (p1)] : List Value).toArray below meth c H locs 0 0 (MQ below (gQv E (rw_ E rr) (fX11_lines p1 x) (rA rr)) ([.ref (rr + 0), .int (p1)] : List Value).toArray s 0 0 (rA rr)) (F0 m 51 ls [.int (w0), .int (p1), .ref (rr + 26)]) := by
    intro H locs ls y w0 hW hS hl hok hf
    replace hf : fX11_lines p1 x = (if (3 : Int32) ≤ ((sR y 26 p1.toNatClampNeg (w0)).1 26 p1.toNatClampNeg) then ((fX11_latch p1 1 (sR (sR (sR y 26 p1.toNatClampNeg (w0)) 26 p1.toNatClampNeg (0)) 25 p1.toNatClampNeg (0)))) else ((sR y 26 p1.toNatClampNeg (w0)))) := hf
    refine fx_ist hx hb hK 0 (rwc_26 hW) (rA_o (o := 26) (by decide)) hS rfl hc dX11_lines_51 (fun H locs hat hne hS => ?_)
    have hW : rw_ E rr (sR y 26 p1.toNatClampNeg (w0)) H := rws_26 (k := p1.toNatClampNeg) (v := w0) hW hat hne
    refine lv_aload_n hx hb dX11_lines_52 rfl (lv_at hl 0 rfl) ?_
    refine fx_get (ci := 11) (v := .ref (rr + 26)) hx hb hts i11 hown hK (rwc_0 hW) rfl 26 (by decide) kl86 rfl dX11_lines_53 ?_
    refine lv_iload_n hx hb dX11_lines_56 rfl (lv_at hl 1 rfl) ?_
    refine fx_ild hx hb hK 0 (rwc_26 hW) rfl hc dX11_lines_57 ?_
    refine lv_iconst (v := 3) hx hb dX11_lines_58 (by decide) ?_
    refine lv_icmp_ge (tgt := 63) hx hb dX11_lines_59 (by decide) (fun c_59 => ?_) (fun c_59 => ?_)
    · have hf_59 := hf.trans (if_pos c_59)
      refine lv_aload_n hx hb dX11_lines_63 rfl (lv_at hl 0 rfl) ?_
      refine fx_get (ci := 11) (v := .ref (rr + 26)) hx hb hts i11 hown hK (rwc_0 hW) rfl 26 (by decide) kl86 rfl dX11_lines_64 ?_
      refine lv_iload_n hx hb dX11_lines_67 rfl (lv_at hl 1 rfl) ?_
      refine lv_iconst (v := 0) hx hb dX11_lines_68 (by decide) ?_
      refine fx_ist hx hb hK 0 (rwc_26 hW) (rA_o (o := 26) (by decide)) hS rfl hc dX11_lines_69 (fun H locs hat hne hS => ?_)
      have hW : rw_ E rr (sR (sR y 26 p1.toNatClampNeg (w0)) 26 p1.toNatClampNeg (0)) H := rws_26 (k := p1.toNatClampNeg) (v := 0) hW hat hne
      refine lv_aload_n hx hb dX11_lines_70 rfl (lv_at hl 0 rfl) ?_
      refine fx_get (ci := 11) (v := .ref (rr + 25)) hx hb hts i11 hown hK (rwc_0 hW) rfl 25 (by decide) kl83 rfl dX11_lines_71 ?_
      refine lv_iload_n hx hb dX11_lines_74 rfl (lv_at hl 1 rfl) ?_
      refine lv_iconst (v := 0) hx hb dX11_lines_75 (by decide) ?_
      refine fx_ist hx hb hK 0 (rwc_25 hW) (rA_o (o := 25) (by decide)) hS rfl hc dX11_lines_76 (fun H locs hat hne hS => ?_)
      have hW : rw_ E rr (sR (sR (sR y 26 p1.toNatClampNeg (w0)) 26 p1.toNatClampNeg (0)) 25 p1.toNatClampNeg (0)) H := rws_25 (k := p1.toNatClampNeg) (v := 0) hW hat hne
      refine lv_aload_n hx hb dX11_lines_77 rfl (lv_at hl 0 rfl) ?_
      refine lv_iload_n hx hb dX11_lines_78 rfl (lv_at hl 1 rfl) ?_
      refine lv_iconst (v := 1) hx hb dX11_lines_79 (by decide) ?_
      refine gx_v (rest := []) ⟨hx, hb, hml, hown, hts⟩ (mX11_latch l E rr (sR (sR (sR y 26 p1.toNatClampNeg (w0)) 26 p1.toNatClampNeg (0)) 25 p1.toNatClampNeg (0)) p1 1 hc (by unfold vp_in; decide) (fun h => absurd h (by decide)) _ _ hok) (cwV 2 hts gX11_lines_X11_latch rfl rfl rfl (by decide +kernel) ⟨Nat.le_of_ble_eq_true rfl, Nat.le_of_ble_eq_true rfl⟩) hW hK (fx_recv hK (rwc_0 hW) rfl) rfl hl.1 rfl (Nat.le_of_ble_eq_true rfl) dX11_lines_80 ⟨Nat.le_of_ble_eq_true rfl, Nat.le_of_ble_eq_true rfl⟩ hS (fun _ h => h) (fun u2 H locs e2 hW hS => ?_)
      have e2 : fX11_latch p1 1 (sR (sR (sR y 26 p1.toNatClampNeg (w0)) 26 p1.toNatClampNeg (0)) 25 p1.toNatClampNeg (0)) = u2 := e2
      try rw [e2] at hf_59
      have hk2 : okR tg bg u2 := e2 ▸ (okX11_latch hc (by unfold vp_in; decide) (fun h => absurd h (by decide)) hok)
      exact gx_vret hx hb hr hlocks hK hf_59 hW hS dX11_lines_83
    · have hf_59 := hf.trans (if_neg c_59)
      exact gx_vret hx hb hr hlocks hK hf_59 hW hS dX11_lines_62
  have hf : fX11_lines p1 x = (if ((sR x 25 p1.toNatClampNeg ((fX11_most 0 ((x.1 25 p1.toNatClampNeg) - (x.1 22 p1.toNatClampNeg)) x))).1 25 p1.toNatClampNeg) < 100 then (fX11_lines_J51 p1 (sR x 25 p1.toNatClampNeg ((fX11_most 0 ((x.1 25 p1.toNatClampNeg) - (x.1 22 p1.toNatClampNeg)) x))) 0) else (fX11_lines_J51 p1 (sR x 25 p1.toNatClampNeg ((fX11_most 0 ((x.1 25 p1.toNatClampNeg) - (x.1 22 p1.toNatClampNeg)) x))) ((x.1 26 p1.toNatClampNeg) + 1))) := rfl
  refine lv_aload_n hx hb dX11_lines_0 rfl (lv_at hl 0 rfl) ?_
  refine fx_get (ci := 11) (v := .ref (rr + 25)) hx hb hts i11 hown hK (rwc_0 hW) rfl 25 (by decide) kl83 rfl dX11_lines_1 ?_
  refine lv_iload_n hx hb dX11_lines_4 rfl (lv_at hl 1 rfl) ?_
  refine lv_iconst (v := 0) hx hb dX11_lines_5 (by decide) ?_
  refine lv_aload_n hx hb dX11_lines_6 rfl (lv_at hl 0 rfl) ?_
  refine fx_get (ci := 11) (v := .ref (rr + 25)) hx hb hts i11 hown hK (rwc_0 hW) rfl 25 (by decide) kl83 rfl dX11_lines_7 ?_
  refine lv_iload_n hx hb dX11_lines_10 rfl (lv_at hl 1 rfl) ?_
  refine fx_ild hx hb hK 0 (rwc_25 hW) rfl hc dX11_lines_11 ?_
  refine lv_aload_n hx hb dX11_lines_12 rfl (lv_at hl 0 rfl) ?_
  refine fx_get (ci := 11) (v := .ref (rr + 22)) hx hb hts i11 hown hK (rwc_0 hW) rfl 22 (by decide) kl74 rfl dX11_lines_13 ?_
  refine lv_iload_n hx hb dX11_lines_16 rfl (lv_at hl 1 rfl) ?_
  refine fx_ild hx hb hK 0 (rwc_22 hW) rfl hc dX11_lines_17 ?_
  refine lv_isub hx hb dX11_lines_18 ?_
  refine gx_si (rest := [.int (p1), .ref (rr + 25)]) ⟨hx, hb, hml, hown, hts⟩ (mX11_most l E rr x 0 ((x.1 25 p1.toNatClampNeg) - (x.1 22 p1.toNatClampNeg))) (va_cwS 2 hts gX11_lines_X11_most rfl rfl rfl (by decide +kernel) ⟨Nat.le_of_ble_eq_true rfl, Nat.le_of_ble_eq_true rfl⟩) hW hK rfl hl.1 rfl (Nat.le_of_ble_eq_true rfl) dX11_lines_19 ⟨Nat.le_of_ble_eq_true rfl, Nat.le_of_ble_eq_true rfl⟩ hS (fun _ h => h) (fun _ r1 H locs _ e1 hW hS => ?_)
  have e1 : fX11_most 0 ((x.1 25 p1.toNatClampNeg) - (x.1 22 p1.toNatClampNeg)) x = r1 := e1
  try rw [e1] at hf
  refine fx_ist hx hb hK 0 (rwc_25 hW) (rA_o (o := 25) (by decide)) hS rfl hc dX11_lines_22 (fun H locs hat hne hS => ?_)
  have hW : rw_ E rr (sR x 25 p1.toNatClampNeg (r1)) H := rws_25 (k := p1.toNatClampNeg) (v := r1) hW hat hne
  refine lv_aload_n hx hb dX11_lines_23 rfl (lv_at hl 0 rfl) ?_
  refine fx_get (ci := 11) (v := .ref (rr + 26)) hx hb hts i11 hown hK (rwc_0 hW) rfl 26 (by decide) kl86 rfl dX11_lines_24 ?_
  refine lv_iload_n hx hb dX11_lines_27 rfl (lv_at hl 1 rfl) ?_
  refine lv_aload_n hx hb dX11_lines_28 rfl (lv_at hl 0 rfl) ?_
  refine fx_get (ci := 11) (v := .ref (rr + 25)) hx hb hts i11 hown hK (rwc_0 hW) rfl 25 (by decide) kl83 rfl dX11_lines_29 ?_
  refine lv_iload_n hx hb dX11_lines_32 rfl (lv_at hl 1 rfl) ?_
  refine fx_ild hx hb hK 0 (rwc_25 hW) rfl hc dX11_lines_33 ?_
  refine lv_bipush (v := 100) hx hb dX11_lines_34 (by decide) ?_
  refine lv_icmp_lt (tgt := 50) hx hb dX11_lines_36 (by decide) (fun c_36 => ?_) (fun c_36 => ?_)
  · have hf_36 := hf.trans (if_pos c_36)
    refine lv_iconst (v := 0) hx hb dX11_lines_50 (by decide) ?_
    exact J51 _ _ _ (sR x 25 p1.toNatClampNeg (r1)) 0 hW hS (lv_sub hl [0, 1] rfl) hok hf_36
  · have hf_36 := hf.trans (if_neg c_36)
    refine lv_aload_n hx hb dX11_lines_39 rfl (lv_at hl 0 rfl) ?_
    refine fx_get (ci := 11) (v := .ref (rr + 26)) hx hb hts i11 hown hK (rwc_0 hW) rfl 26 (by decide) kl86 rfl dX11_lines_40 ?_
    refine lv_iload_n hx hb dX11_lines_43 rfl (lv_at hl 1 rfl) ?_
    refine fx_ild hx hb hK 0 (rwc_26 hW) rfl hc dX11_lines_44 ?_
    refine lv_iconst (v := 1) hx hb dX11_lines_45 (by decide) ?_
    refine lv_iadd hx hb dX11_lines_46 ?_
    refine lv_goto (tgt := 51) hx hb dX11_lines_47 (by decide) ?_
    exact J51 _ _ _ (sR x 25 p1.toNatClampNeg (r1)) ((x.1 26 p1.toNatClampNeg) + 1) hW hS (lv_sub hl [0, 1] rfl) hok hf_36
theorem okX11_lines_J51 {tg bg : Nat} {p1 : Int32} {y : RS} {w0 : Int32} (hc : vp_in p1 3) (hok : okR tg bg y) : okR tg bg (fX11_lines_J51 p1 y w0) := by unfold fX11_lines_J51; exact (okR_ite (fun c_59 => (okX11_latch hc (by unfold vp_in; decide) (fun h => absurd h (by decide)) (okR_sR rfl (okR_sR rfl (okR_sR rfl hok))))) (fun c_59 => (okR_sR rfl hok)))
theorem okX11_lines {tg bg : Nat} {p1 : Int32} {x : RS} (hc : vp_in p1 3) (hok : okR tg bg x) : okR tg bg (fX11_lines p1 x) := by unfold fX11_lines; exact (okR_ite (fun c_36 => (okX11_lines_J51 hc (okR_sR rfl hok))) (fun c_36 => (okX11_lines_J51 hc (okR_sR rfl hok))))
