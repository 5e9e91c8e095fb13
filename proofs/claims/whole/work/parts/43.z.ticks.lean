/-! the reference's ticks, told of every number -/
set_option maxHeartbeats 4000000 in
set_option maxRecDepth 100000 in
theorem mX11_ticks_c (l : Launch) (E : eE) (rr : Nat) (x : RS) (p1 : Int32) (tg : Nat) (bg : Nat) (hok : ¬ fX11_isIn p1.toInt64 0 600 x = 0 → okR (tg + (mu32 0 p1 + 1)) (bg + 8 * (mu32 0 p1 + 1)) x) : Met l yX11_ticks wsX11_ticks ({ frames := 6, cells := 0, slots := 0, locals := 140 }) (gPre E (rw_ E rr x) [.ref (rr + 0), .int (p1)]) (gQi E (rw_ E rr) (fX11_ticks p1 x) (rA rr)) 0 0 (rA rr) := by
  refine Met.ofW (cc := cX11_ticks) (maxL := 4) (ret := (some .int)) (by decide) rfl ?_
  intro p e s m args below meth c s₁ B hml hv
  obtain ⟨rfl, hW, hK⟩ := hv
  have hx := B.exec
  have hb := B.bytes
  have hr := B.returns
  have hts := atoms_spec (ws := wsX11_ticks) B.pre
  have hown : s.vm.findClass RX11 = some m.cls := findClass_of_methodNamed B.named
  have hlocks := B.notSynchronized
  have i11 : ∀ w ∈ wsX110, w ∈ wsX11_ticks := by decide +kernel
  have kl159 := hts (.fieldLink RX11 159 "DosePumpModel" "thrown" "I") (by decide +kernel)
  have hS : va_S (rA rr) s.heap s.heap [] := va_S.rf
  have hl := lv_entry ([.ref (rr + 0), .int (p1)]) (n := 4) (Nat.le_of_ble_eq_true rfl)
  rw [lg_entry_eq]
  generalize (lg_sl ([.ref (rr + 0), .int (p1)]) ++ List.replicate (4 - (lg_sl ([.ref (rr + 0), .int (p1)])).length) Slot.unset).toArray = ls at hl ⊢
  have hl : lv_has ls 4 [(0, .ref (rr + 0)), (1, .int (p1))] := hl
  have J34 : ∀ (k8 : Nat) (H : Heap) (locs : List Loc) (ls : Array Slot) (y : RS) (v2 : Int32) (v3 : Int32), rw_ E rr y H → va_S (rA rr) s.heap H locs → lv_has ls 4 [(0, .ref (rr + 0)), (1, .int (p1)), (2, .int (v2)), (3, .int (v3))] → okR (tg + k8) (bg + 8 * k8) y → mu32 v3 p1 < k8 → fX11_ticks p1 x = fX11_ticks_L34 p1 k8 y v2 v3 → W p l e (headSpec wsX11_ticks { frames := 6, cells := 0, slots := 0, locals := 140 }).room s m ([.ref (rr + 0), .int (p1)] : List Value).toArray below meth c H locs 0 0 (MQ below (gQi E (rw_ E rr) (fX11_ticks p1 x) (rA rr)) ([.ref (rr + 0), .int (p1)] : List Value).toArray s 0 0 (rA rr)) (F0 m 34 ls []) := by
    intro k8
    induction k8 with
    | zero =>
      intro H locs ls y v2 v3 hW hS hl hok hmu hf
      exact absurd hmu (by omega)
    | succ k9 ih =>
      intro H locs ls y v2 v3 hW hS hl hok hmu hf
      have hok : okR ((tg + k9) + 1) ((bg + 8 * k9) + 8) y := hok
      replace hf : fX11_ticks p1 x = (if p1 ≤ v3 then ((y, v2)) else (fX11_ticks_L34 p1 k9 (fX11_tick y).1 (v2 + ((fX11_tick y).2)) (v3 + 1))) := hf
      refine lv_iload_n hx hb dX11_ticks_34 rfl (lv_at hl 3 rfl) ?_
      refine lv_iload_n hx hb dX11_ticks_35 rfl (lv_at hl 1 rfl) ?_
      refine lv_icmp_ge (tgt := 52) hx hb dX11_ticks_36 (by decide) (fun c_36 => ?_) (fun c_36 => ?_)
      · have hf_36 := hf.trans (if_pos c_36)
        refine lv_iload_n hx hb dX11_ticks_52 rfl (lv_at hl 2 rfl) ?_
        exact gx_iret hx hb hr rfl hlocks hK hf_36 hW hS dX11_ticks_53
      · have hf_36 := hf.trans (if_neg c_36)
        refine lv_iload_n hx hb dX11_ticks_39 rfl (lv_at hl 2 rfl) ?_
        refine lv_aload_n hx hb dX11_ticks_40 rfl (lv_at hl 0 rfl) ?_
        refine gx_i (rest := [.int (v2)]) ⟨hx, hb, hml, hown, hts⟩ (mX11_tick l E rr y _ _ hok) (cwV 0 hts gX11_ticks_X11_tick rfl rfl rfl (by decide +kernel) ⟨Nat.le_of_ble_eq_true rfl, Nat.le_of_ble_eq_true rfl⟩) hW hK (fx_recv hK (rwc_0 hW) rfl) rfl hl.1 rfl (Nat.le_of_ble_eq_true rfl) dX11_ticks_41 ⟨Nat.le_of_ble_eq_true rfl, Nat.le_of_ble_eq_true rfl⟩ hS (fun _ h => h) (fun u2 r2 H locs e2 e2r hW hS => ?_)
        have e2 : (fX11_tick y).1 = u2 := e2
        have e2r : (fX11_tick y).2 = r2 := e2r
        try rw [e2] at hf_36
        try rw [e2r] at hf_36
        have hk2 : okR (tg + k9) (bg + 8 * k9) u2 := e2 ▸ (okX11_tick hok)
        refine lv_iadd hx hb dX11_ticks_44 ?_
        refine lv_istore_n (lv' := [(2, .int (v2 + r2)), (0, .ref (rr + 0)), (1, .int (p1)), (3, .int (v3))]) hx hb dX11_ticks_45 rfl hl (by decide) rfl (fun ls hl => ?_)
        refine lv_iinc (v := v3 + 1) (lv' := [(3, .int (v3 + 1)), (2, .int (v2 + r2)), (0, .ref (rr + 0)), (1, .int (p1))]) hx hb dX11_ticks_46 hl (k := 3) rfl (by first | rfl | decide) (by decide) rfl (fun ls hl => ?_)
        refine lv_goto (tgt := 34) hx hb dX11_ticks_49 (by decide) ?_
        exact ih _ _ _ u2 (v2 + r2) (v3 + 1) hW hS (lv_sub hl [2, 3, 1, 0] rfl) hk2 (mu32_step c_36 hmu) hf_36
  have hf : fX11_ticks p1 x = (if (fX11_isIn p1.toInt64 0 600 x) = 0 then (((sR x 0 0 (1)), 0)) else (fX11_ticks_L34 p1 (mu32 0 p1 + 1) (sR x 0 0 (0)) 0 0)) := rfl
  refine lv_aload_n hx hb dX11_ticks_0 rfl (lv_at hl 0 rfl) ?_
  refine lv_iload_n hx hb dX11_ticks_1 rfl (lv_at hl 1 rfl) ?_
  refine lv_i2l (v := p1.toInt64) hx hb dX11_ticks_2 rfl ?_
  refine lv_lconst (v := 0) hx hb dX11_ticks_3 (by decide) ?_
  refine lv_ldc2 hx hb hown (hts (.constantLong RX11 305 (600)) (by decide +kernel)) dX11_ticks_4 ?_
  refine gx_si (rest := [.ref (rr + 0)]) ⟨hx, hb, hml, hown, hts⟩ (mX11_isIn l E rr x p1.toInt64 0 600) (va_cwS 3 hts gX11_ticks_X11_isIn rfl rfl rfl (by decide +kernel) ⟨Nat.le_of_ble_eq_true rfl, Nat.le_of_ble_eq_true rfl⟩) hW hK rfl hl.1 rfl (Nat.le_of_ble_eq_true rfl) dX11_ticks_7 ⟨Nat.le_of_ble_eq_true rfl, Nat.le_of_ble_eq_true rfl⟩ hS (fun _ h => h) (fun _ r1 H locs _ e1 hW hS => ?_)
  have e1 : fX11_isIn p1.toInt64 0 600 x = r1 := e1
  try rw [e1] at hf
  refine lv_if_eq (tgt := 17) hx hb dX11_ticks_10 (by decide) (fun c_10 => ?_) (fun c_10 => ?_)
  · have hf_10 := hf.trans (if_pos c_10)
    refine lv_iconst (v := 1) hx hb dX11_ticks_17 (by decide) ?_
    refine fx_put (ci := 11) (v := .int (1)) hx hb hts i11 tyX11_ok nmX11 hown hK (rwc_0 hW) (rA_o (o := 0) (by decide)) hS rfl 0 (by decide) kl159 rfl rfl rfl (Nat.le_of_ble_eq_true rfl) dX11_ticks_18 (fun H locs hat hne hS => ?_)
    have hW : rw_ E rr (sR x 0 0 (1)) H := rwf_0 (v := 1) hW hat hne
    refine lv_aload_n hx hb dX11_ticks_21 rfl (lv_at hl 0 rfl) ?_
    refine fx_get (ci := 11) (v := .int (1)) hx hb hts i11 hown hK (rwc_0 hW) rfl 0 (by decide) kl159 rfl dX11_ticks_22 ?_
    refine lv_if_le (tgt := 30) hx hb dX11_ticks_25 (by decide) (fun c9 => absurd c9 (by decide)) (fun c9 => ?_)
    refine lv_iconst (v := 0) hx hb dX11_ticks_28 (by decide) ?_
    exact gx_iret hx hb hr rfl hlocks hK hf_10 hW hS dX11_ticks_29
  · have hf_10 := hf.trans (if_neg c_10)
    refine lv_iconst (v := 0) hx hb dX11_ticks_13 (by decide) ?_
    refine lv_goto (tgt := 18) hx hb dX11_ticks_14 (by decide) ?_
    refine fx_put (ci := 11) (v := .int (0)) hx hb hts i11 tyX11_ok nmX11 hown hK (rwc_0 hW) (rA_o (o := 0) (by decide)) hS rfl 0 (by decide) kl159 rfl rfl rfl (Nat.le_of_ble_eq_true rfl) dX11_ticks_18 (fun H locs hat hne hS => ?_)
    have hW : rw_ E rr (sR x 0 0 (0)) H := rwf_0 (v := 0) hW hat hne
    refine lv_aload_n hx hb dX11_ticks_21 rfl (lv_at hl 0 rfl) ?_
    refine fx_get (ci := 11) (v := .int (0)) hx hb hts i11 hown hK (rwc_0 hW) rfl 0 (by decide) kl159 rfl dX11_ticks_22 ?_
    refine lv_if_le (tgt := 30) hx hb dX11_ticks_25 (by decide) (fun c9 => ?_) (fun c9 => absurd c9 (by decide))
    refine lv_iconst (v := 0) hx hb dX11_ticks_30 (by decide) ?_
    refine lv_istore_n (lv' := [(2, .int (0)), (0, .ref (rr + 0)), (1, .int (p1))]) hx hb dX11_ticks_31 rfl hl (by decide) rfl (fun ls hl => ?_)
    refine lv_iconst (v := 0) hx hb dX11_ticks_32 (by decide) ?_
    refine lv_istore_n (lv' := [(3, .int (0)), (2, .int (0)), (0, .ref (rr + 0)), (1, .int (p1))]) hx hb dX11_ticks_33 rfl hl (by decide) rfl (fun ls hl => ?_)
    exact J34 _ _ _ _ (sR x 0 0 (0)) 0 0 hW hS (lv_sub hl [2, 3, 1, 0] rfl) (hok (by rw [e1]; exact c_10)) (Nat.lt_succ_self _) hf_10
