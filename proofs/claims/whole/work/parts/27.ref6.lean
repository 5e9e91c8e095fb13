/-! the reference: a bolus, a key that is pressed -/
theorem boX11_clearKey {p1 : Int32} {x : RS} : (fX11_clearKey p1 x).2 = 0 ∨ (fX11_clearKey p1 x).2 = 1 := by
  unfold fX11_clearKey
  (repeat' split) <;> first | exact Or.inl rfl | exact Or.inr rfl

theorem boX11_begin {p1 : Int32} {x : RS} : (fX11_begin p1 x).2 = 0 ∨ (fX11_begin p1 x).2 = 1 := by
  unfold fX11_begin fX11_begin_J33
  (repeat' split) <;> first | exact Or.inl rfl | exact Or.inr rfl

theorem boX11_run {p1 : Int32} {x : RS} : (fX11_run p1 x).2 = 0 ∨ (fX11_run p1 x).2 = 1 := by
  unfold fX11_run
  (repeat' split) <;> first | exact Or.inl rfl | exact Or.inr rfl

theorem boX11_stop {p1 : Int32} {x : RS} : (fX11_stop p1 x).2 = 0 ∨ (fX11_stop p1 x).2 = 1 := by
  unfold fX11_stop
  (repeat' split) <;> first | exact Or.inl rfl | exact Or.inr rfl

theorem boX11_acknowledge {p1 : Int32} {x : RS} : (fX11_acknowledge p1 x).2 = 0 ∨ (fX11_acknowledge p1 x).2 = 1 := by
  have key : ∀ (k : Nat) (y : RS) (v w : Int32), (v = 0 ∨ v = 1) → ((fX11_acknowledge_L4 p1 k y v w).2 = 0 ∨ (fX11_acknowledge_L4 p1 k y v w).2 = 1) := by
    intro k
    induction k with
    | zero => intro y v w _; exact Or.inl rfl
    | succ k ih =>
      intro y v w h
      unfold fX11_acknowledge_L4
      (repeat' split) <;> first | exact h | exact ih _ _ _ h | exact ih _ _ _ (Or.inr rfl)
  exact key _ _ _ _ (Or.inl rfl)

def fX11_beginBolus (p1 : Int32) (x : RS) : RS × Int32 := if (x.1 13 p1.toNatClampNeg) = 7 then (if (x.1 9 ((x.1 15 p1.toNatClampNeg).toNatClampNeg)) ≤ 0 then (((fX11_note 6 p1 0 x), 0)) else (if (x.1 20 p1.toNatClampNeg) = 0 then (if (x.1 21 p1.toNatClampNeg) < 0 then (if (x.1 12 ((x.1 15 p1.toNatClampNeg).toNatClampNeg)) ≤ (x.1 36 p1.toNatClampNeg) then (((fX11_note 6 p1 0 x), 0)) else (((fX11_note 5 p1 ((sR x 20 p1.toNatClampNeg (x.1 9 ((x.1 15 p1.toNatClampNeg).toNatClampNeg))).1 20 p1.toNatClampNeg) (sR (sR (sR (sR x 20 p1.toNatClampNeg (x.1 9 ((x.1 15 p1.toNatClampNeg).toNatClampNeg))) 21 p1.toNatClampNeg (x.1 0 45)) 33 ((((3600 : Int32) * p1) + ((x.1 0 45) - (x.1 0 45) / 3600 * 3600)).toNatClampNeg) ((x.1 33 ((((3600 : Int32) * p1) + ((x.1 0 45) - (x.1 0 45) / 3600 * 3600)).toNatClampNeg)) + 1)) 36 p1.toNatClampNeg ((x.1 36 p1.toNatClampNeg) + 1))), 1))) else (if ((x.1 0 45) - (x.1 21 p1.toNatClampNeg)) < (x.1 11 ((x.1 15 p1.toNatClampNeg).toNatClampNeg)) then (((fX11_note 6 p1 0 x), 0)) else (if (x.1 12 ((x.1 15 p1.toNatClampNeg).toNatClampNeg)) ≤ (x.1 36 p1.toNatClampNeg) then (((fX11_note 6 p1 0 x), 0)) else (((fX11_note 5 p1 ((sR x 20 p1.toNatClampNeg (x.1 9 ((x.1 15 p1.toNatClampNeg).toNatClampNeg))).1 20 p1.toNatClampNeg) (sR (sR (sR (sR x 20 p1.toNatClampNeg (x.1 9 ((x.1 15 p1.toNatClampNeg).toNatClampNeg))) 21 p1.toNatClampNeg (x.1 0 45)) 33 ((((3600 : Int32) * p1) + ((x.1 0 45) - (x.1 0 45) / 3600 * 3600)).toNatClampNeg) ((x.1 33 ((((3600 : Int32) * p1) + ((x.1 0 45) - (x.1 0 45) / 3600 * 3600)).toNatClampNeg)) + 1)) 36 p1.toNatClampNeg ((x.1 36 p1.toNatClampNeg) + 1))), 1))))) else (((fX11_note 6 p1 0 x), 0)))) else ((x, 0))
set_option maxHeartbeats 4000000 in
set_option maxRecDepth 100000 in
theorem mX11_beginBolus (l : Launch) (E : eE) (rr : Nat) (x : RS) (p1 : Int32) (hc : vp_in p1 3) (tg : Nat) (bg : Nat) (hok : okR tg (bg + 1) x) : Met l yX11_beginBolus wsX11_beginBolus ({ frames := 2, cells := 0, slots := 0, locals := 47 }) (gPre E (rw_ E rr x) [.ref (rr + 0), .int (p1)]) (gQi E (rw_ E rr) (fX11_beginBolus p1 x) (rA rr)) 0 0 (rA rr) := by
  refine Met.ofW (cc := cX11_beginBolus) (maxL := 4) (ret := (some .boolean)) (by decide) rfl ?_
  intro p e s m args below meth c s₁ B hml hv
  obtain ⟨rfl, hW, hK⟩ := hv
  have hx := B.exec
  have hb := B.bytes
  have hr := B.returns
  have hts := atoms_spec (ws := wsX11_beginBolus) B.pre
  have hown : s.vm.findClass RX11 = some m.cls := findClass_of_methodNamed B.named
  have hlocks := B.notSynchronized
  have i11 : ∀ w ∈ wsX110, w ∈ wsX11_beginBolus := by decide +kernel
  have kl35 := hts (.fieldLink RX11 35 "DosePumpModel" "bolus" "[I") (by decide +kernel)
  have kl41 := hts (.fieldLink RX11 41 "DosePumpModel" "lockout" "[I") (by decide +kernel)
  have kl44 := hts (.fieldLink RX11 44 "DosePumpModel" "many" "[I") (by decide +kernel)
  have kl47 := hts (.fieldLink RX11 47 "DosePumpModel" "phase" "[I") (by decide +kernel)
  have kl53 := hts (.fieldLink RX11 53 "DosePumpModel" "program" "[I") (by decide +kernel)
  have kl68 := hts (.fieldLink RX11 68 "DosePumpModel" "bolusLeft" "[I") (by decide +kernel)
  have kl71 := hts (.fieldLink RX11 71 "DosePumpModel" "latestBolus" "[I") (by decide +kernel)
  have kl107 := hts (.fieldLink RX11 107 "DosePumpModel" "begun" "[I") (by decide +kernel)
  have kl116 := hts (.fieldLink RX11 116 "DosePumpModel" "begunInHour" "[I") (by decide +kernel)
  have kl167 := hts (.fieldLink RX11 167 "DosePumpModel" "time" "I") (by decide +kernel)
  have hS : va_S (rA rr) s.heap s.heap [] := va_S.rf
  have hl := lv_entry ([.ref (rr + 0), .int (p1)]) (n := 4) (Nat.le_of_ble_eq_true rfl)
  rw [lg_entry_eq]
  generalize (lg_sl ([.ref (rr + 0), .int (p1)]) ++ List.replicate (4 - (lg_sl ([.ref (rr + 0), .int (p1)])).length) Slot.unset).toArray = ls at hl ⊢
  have hl : lv_has ls 4 [(0, .ref (rr + 0)), (1, .int (p1))] := hl
  have hf : fX11_beginBolus p1 x = (if (x.1 13 p1.toNatClampNeg) = 7 then (if (x.1 9 ((x.1 15 p1.toNatClampNeg).toNatClampNeg)) ≤ 0 then (((fX11_note 6 p1 0 x), 0)) else (if (x.1 20 p1.toNatClampNeg) = 0 then (if (x.1 21 p1.toNatClampNeg) < 0 then (if (x.1 12 ((x.1 15 p1.toNatClampNeg).toNatClampNeg)) ≤ (x.1 36 p1.toNatClampNeg) then (((fX11_note 6 p1 0 x), 0)) else (((fX11_note 5 p1 ((sR x 20 p1.toNatClampNeg (x.1 9 ((x.1 15 p1.toNatClampNeg).toNatClampNeg))).1 20 p1.toNatClampNeg) (sR (sR (sR (sR x 20 p1.toNatClampNeg (x.1 9 ((x.1 15 p1.toNatClampNeg).toNatClampNeg))) 21 p1.toNatClampNeg (x.1 0 45)) 33 ((((3600 : Int32) * p1) + ((x.1 0 45) - (x.1 0 45) / 3600 * 3600)).toNatClampNeg) ((x.1 33 ((((3600 : Int32) * p1) + ((x.1 0 45) - (x.1 0 45) / 3600 * 3600)).toNatClampNeg)) + 1)) 36 p1.toNatClampNeg ((x.1 36 p1.toNatClampNeg) + 1))), 1))) else (if ((x.1 0 45) - (x.1 21 p1.toNatClampNeg)) < (x.1 11 ((x.1 15 p1.toNatClampNeg).toNatClampNeg)) then (((fX11_note 6 p1 0 x), 0)) else (if (x.1 12 ((x.1 15 p1.toNatClampNeg).toNatClampNeg)) ≤ (x.1 36 p1.toNatClampNeg) then (((fX11_note 6 p1 0 x), 0)) else (((fX11_note 5 p1 ((sR x 20 p1.toNatClampNeg (x.1 9 ((x.1 15 p1.toNatClampNeg).toNatClampNeg))).1 20 p1.toNatClampNeg) (sR (sR (sR (sR x 20 p1.toNatClampNeg (x.1 9 ((x.1 15 p1.toNatClampNeg).toNatClampNeg))) 21 p1.toNatClampNeg (x.1 0 45)) 33 ((((3600 : Int32) * p1) + ((x.1 0 45) - (x.1 0 45) / 3600 * 3600)).toNatClampNeg) ((x.1 33 ((((3600 : Int32) * p1) + ((x.1 0 45) - (x.1 0 45) / 3600 * 3600)).toNatClampNeg)) + 1)) 36 p1.toNatClampNeg ((x.1 36 p1.toNatClampNeg) + 1))), 1))))) else (((fX11_note 6 p1 0 x), 0)))) else ((x, 0))) := rfl
  refine lv_aload_n hx hb dX11_beginBolus_0 rfl (lv_at hl 0 rfl) ?_
  refine fx_get (ci := 11) (v := .ref (rr + 13)) hx hb hts i11 hown hK (rwc_0 hW) rfl 13 (by decide) kl47 rfl dX11_beginBolus_1 ?_
  refine lv_iload_n hx hb dX11_beginBolus_4 rfl (lv_at hl 1 rfl) ?_
  refine fx_ild hx hb hK 0 (rwc_13 hW) rfl hc dX11_beginBolus_5 ?_
  refine lv_bipush (v := 7) hx hb dX11_beginBolus_6 (by decide) ?_
  refine lv_icmp_eq (tgt := 13) hx hb dX11_beginBolus_8 (by decide) (fun c_8 => ?_) (fun c_8 => ?_)
  · have hf_8 := hf.trans (if_pos c_8)
    refine lv_aload_n hx hb dX11_beginBolus_13 rfl (lv_at hl 0 rfl) ?_
    refine fx_get (ci := 11) (v := .ref (rr + 15)) hx hb hts i11 hown hK (rwc_0 hW) rfl 15 (by decide) kl53 rfl dX11_beginBolus_14 ?_
    refine lv_iload_n hx hb dX11_beginBolus_17 rfl (lv_at hl 1 rfl) ?_
    refine fx_ild hx hb hK 0 (rwc_15 hW) rfl hc dX11_beginBolus_18 ?_
    refine lv_istore_n (lv' := [(2, .int (x.1 15 p1.toNatClampNeg)), (0, .ref (rr + 0)), (1, .int (p1))]) hx hb dX11_beginBolus_19 rfl hl (by decide) rfl (fun ls hl => ?_)
    refine lv_aload_n hx hb dX11_beginBolus_20 rfl (lv_at hl 1 rfl) ?_
    refine fx_get (ci := 11) (v := .ref (rr + 9)) hx hb hts i11 hown hK (rwc_0 hW) rfl 9 (by decide) kl35 rfl dX11_beginBolus_21 ?_
    refine lv_iload_n hx hb dX11_beginBolus_24 rfl (lv_at hl 0 rfl) ?_
    refine fx_ild hx hb hK 0 (rwc_9 hW) rfl (okR_pv (x := x) hok (vi_lt hc) (Or.inl (by rw [c_8]; decide))) dX11_beginBolus_25 ?_
    refine lv_if_le (tgt := 86) hx hb dX11_beginBolus_26 (by decide) (fun c_26 => ?_) (fun c_26 => ?_)
    · have hf_26 := hf_8.trans (if_pos c_26)
      refine lv_iconst (v := 0) hx hb dX11_beginBolus_86 (by decide) ?_
      refine lv_istore_n (lv' := [(3, .int (0)), (2, .int (x.1 15 p1.toNatClampNeg)), (0, .ref (rr + 0)), (1, .int (p1))]) hx hb dX11_beginBolus_87 rfl hl (by decide) rfl (fun ls hl => ?_)
      refine lv_iload_n hx hb dX11_beginBolus_88 rfl (lv_at hl 0 rfl) ?_
      refine lv_if_ne (tgt := 102) hx hb dX11_beginBolus_89 (by decide) (fun c9 => absurd c9 (by decide)) (fun c9 => ?_)
      refine lv_aload_n hx hb dX11_beginBolus_92 rfl (lv_at hl 2 rfl) ?_
      refine lv_bipush (v := 6) hx hb dX11_beginBolus_93 (by decide) ?_
      refine lv_iload_n hx hb dX11_beginBolus_95 rfl (lv_at hl 3 rfl) ?_
      refine lv_iconst (v := 0) hx hb dX11_beginBolus_96 (by decide) ?_
      refine gx_v (rest := []) ⟨hx, hb, hml, hown, hts⟩ (mX11_note l E rr x 6 p1 0 _ _ hok) (cwV 3 hts gX11_beginBolus_X11_note rfl rfl rfl (by decide +kernel) ⟨Nat.le_of_ble_eq_true rfl, Nat.le_of_ble_eq_true rfl⟩) hW hK (fx_recv hK (rwc_0 hW) rfl) rfl hl.1 rfl (Nat.le_of_ble_eq_true rfl) dX11_beginBolus_97 ⟨Nat.le_of_ble_eq_true rfl, Nat.le_of_ble_eq_true rfl⟩ hS (fun _ h => h) (fun u1 H locs e1 hW hS => ?_)
      have e1 : fX11_note 6 p1 0 x = u1 := e1
      try rw [e1] at hf_26
      have hk1 : okR tg bg u1 := e1 ▸ (okX11_note hok)
      refine lv_iconst (v := 0) hx hb dX11_beginBolus_100 (by decide) ?_
      exact gx_iret hx hb hr (by decide) hlocks hK hf_26 hW hS dX11_beginBolus_101
    · have hf_26 := hf_8.trans (if_neg c_26)
      refine lv_aload_n hx hb dX11_beginBolus_29 rfl (lv_at hl 1 rfl) ?_
      refine fx_get (ci := 11) (v := .ref (rr + 20)) hx hb hts i11 hown hK (rwc_0 hW) rfl 20 (by decide) kl68 rfl dX11_beginBolus_30 ?_
      refine lv_iload_n hx hb dX11_beginBolus_33 rfl (lv_at hl 2 rfl) ?_
      refine fx_ild hx hb hK 0 (rwc_20 hW) rfl hc dX11_beginBolus_34 ?_
      refine lv_if_ne (tgt := 86) hx hb dX11_beginBolus_35 (by decide) (fun c_35 => ?_) (fun c_35 => ?_)
      · have hf_35 := hf_26.trans (if_neg c_35)
        refine lv_iconst (v := 0) hx hb dX11_beginBolus_86 (by decide) ?_
        refine lv_istore_n (lv' := [(3, .int (0)), (2, .int (x.1 15 p1.toNatClampNeg)), (0, .ref (rr + 0)), (1, .int (p1))]) hx hb dX11_beginBolus_87 rfl hl (by decide) rfl (fun ls hl => ?_)
        refine lv_iload_n hx hb dX11_beginBolus_88 rfl (lv_at hl 0 rfl) ?_
        refine lv_if_ne (tgt := 102) hx hb dX11_beginBolus_89 (by decide) (fun c9 => absurd c9 (by decide)) (fun c9 => ?_)
        refine lv_aload_n hx hb dX11_beginBolus_92 rfl (lv_at hl 2 rfl) ?_
        refine lv_bipush (v := 6) hx hb dX11_beginBolus_93 (by decide) ?_
        refine lv_iload_n hx hb dX11_beginBolus_95 rfl (lv_at hl 3 rfl) ?_
        refine lv_iconst (v := 0) hx hb dX11_beginBolus_96 (by decide) ?_
        refine gx_v (rest := []) ⟨hx, hb, hml, hown, hts⟩ (mX11_note l E rr x 6 p1 0 _ _ hok) (cwV 3 hts gX11_beginBolus_X11_note rfl rfl rfl (by decide +kernel) ⟨Nat.le_of_ble_eq_true rfl, Nat.le_of_ble_eq_true rfl⟩) hW hK (fx_recv hK (rwc_0 hW) rfl) rfl hl.1 rfl (Nat.le_of_ble_eq_true rfl) dX11_beginBolus_97 ⟨Nat.le_of_ble_eq_true rfl, Nat.le_of_ble_eq_true rfl⟩ hS (fun _ h => h) (fun u2 H locs e2 hW hS => ?_)
        have e2 : fX11_note 6 p1 0 x = u2 := e2
        try rw [e2] at hf_35
        have hk2 : okR tg bg u2 := e2 ▸ (okX11_note hok)
        refine lv_iconst (v := 0) hx hb dX11_beginBolus_100 (by decide) ?_
        exact gx_iret hx hb hr (by decide) hlocks hK hf_35 hW hS dX11_beginBolus_101
      · have hf_35 := hf_26.trans (if_pos c_35)
        refine lv_aload_n hx hb dX11_beginBolus_38 rfl (lv_at hl 1 rfl) ?_
        refine fx_get (ci := 11) (v := .ref (rr + 21)) hx hb hts i11 hown hK (rwc_0 hW) rfl 21 (by decide) kl71 rfl dX11_beginBolus_39 ?_
        refine lv_iload_n hx hb dX11_beginBolus_42 rfl (lv_at hl 2 rfl) ?_
        refine fx_ild hx hb hK 0 (rwc_21 hW) rfl hc dX11_beginBolus_43 ?_
        refine lv_if_lt (tgt := 67) hx hb dX11_beginBolus_44 (by decide) (fun c_44 => ?_) (fun c_44 => ?_)
        · have hf_44 := hf_35.trans (if_pos c_44)
          refine lv_aload_n hx hb dX11_beginBolus_67 rfl (lv_at hl 1 rfl) ?_
          refine fx_get (ci := 11) (v := .ref (rr + 36)) hx hb hts i11 hown hK (rwc_0 hW) rfl 36 (by decide) kl116 rfl dX11_beginBolus_68 ?_
          refine lv_iload_n hx hb dX11_beginBolus_71 rfl (lv_at hl 2 rfl) ?_
          refine fx_ild hx hb hK 0 (rwc_36 hW) rfl hc dX11_beginBolus_72 ?_
          refine lv_aload_n hx hb dX11_beginBolus_73 rfl (lv_at hl 1 rfl) ?_
          refine fx_get (ci := 11) (v := .ref (rr + 12)) hx hb hts i11 hown hK (rwc_0 hW) rfl 12 (by decide) kl44 rfl dX11_beginBolus_74 ?_
          refine lv_iload_n hx hb dX11_beginBolus_77 rfl (lv_at hl 0 rfl) ?_
          refine fx_ild hx hb hK 0 (rwc_12 hW) rfl (okR_pv (x := x) hok (vi_lt hc) (Or.inl (by rw [c_8]; decide))) dX11_beginBolus_78 ?_
          refine lv_icmp_ge (tgt := 86) hx hb dX11_beginBolus_79 (by decide) (fun c_79 => ?_) (fun c_79 => ?_)
          · have hf_79 := hf_44.trans (if_pos c_79)
            refine lv_iconst (v := 0) hx hb dX11_beginBolus_86 (by decide) ?_
            refine lv_istore_n (lv' := [(3, .int (0)), (2, .int (x.1 15 p1.toNatClampNeg)), (0, .ref (rr + 0)), (1, .int (p1))]) hx hb dX11_beginBolus_87 rfl hl (by decide) rfl (fun ls hl => ?_)
            refine lv_iload_n hx hb dX11_beginBolus_88 rfl (lv_at hl 0 rfl) ?_
            refine lv_if_ne (tgt := 102) hx hb dX11_beginBolus_89 (by decide) (fun c9 => absurd c9 (by decide)) (fun c9 => ?_)
            refine lv_aload_n hx hb dX11_beginBolus_92 rfl (lv_at hl 2 rfl) ?_
            refine lv_bipush (v := 6) hx hb dX11_beginBolus_93 (by decide) ?_
            refine lv_iload_n hx hb dX11_beginBolus_95 rfl (lv_at hl 3 rfl) ?_
            refine lv_iconst (v := 0) hx hb dX11_beginBolus_96 (by decide) ?_
            refine gx_v (rest := []) ⟨hx, hb, hml, hown, hts⟩ (mX11_note l E rr x 6 p1 0 _ _ hok) (cwV 3 hts gX11_beginBolus_X11_note rfl rfl rfl (by decide +kernel) ⟨Nat.le_of_ble_eq_true rfl, Nat.le_of_ble_eq_true rfl⟩) hW hK (fx_recv hK (rwc_0 hW) rfl) rfl hl.1 rfl (Nat.le_of_ble_eq_true rfl) dX11_beginBolus_97 ⟨Nat.le_of_ble_eq_true rfl, Nat.le_of_ble_eq_true rfl⟩ hS (fun _ h => h) (fun u3 H locs e3 hW hS => ?_)
            have e3 : fX11_note 6 p1 0 x = u3 := e3
            try rw [e3] at hf_79
            have hk3 : okR tg bg u3 := e3 ▸ (okX11_note hok)
            refine lv_iconst (v := 0) hx hb dX11_beginBolus_100 (by decide) ?_
            exact gx_iret hx hb hr (by decide) hlocks hK hf_79 hW hS dX11_beginBolus_101
          · have hf_79 := hf_44.trans (if_neg c_79)
            refine lv_iconst (v := 1) hx hb dX11_beginBolus_82 (by decide) ?_
            refine lv_goto (tgt := 87) hx hb dX11_beginBolus_83 (by decide) ?_
            refine lv_istore_n (lv' := [(3, .int (1)), (2, .int (x.1 15 p1.toNatClampNeg)), (0, .ref (rr + 0)), (1, .int (p1))]) hx hb dX11_beginBolus_87 rfl hl (by decide) rfl (fun ls hl => ?_)
            refine lv_iload_n hx hb dX11_beginBolus_88 rfl (lv_at hl 0 rfl) ?_
            refine lv_if_ne (tgt := 102) hx hb dX11_beginBolus_89 (by decide) (fun c9 => ?_) (fun c9 => absurd c9 (by decide))
            refine lv_aload_n hx hb dX11_beginBolus_102 rfl (lv_at hl 2 rfl) ?_
            refine fx_get (ci := 11) (v := .ref (rr + 20)) hx hb hts i11 hown hK (rwc_0 hW) rfl 20 (by decide) kl68 rfl dX11_beginBolus_103 ?_
            refine lv_iload_n hx hb dX11_beginBolus_106 rfl (lv_at hl 3 rfl) ?_
            refine lv_aload_n hx hb dX11_beginBolus_107 rfl (lv_at hl 2 rfl) ?_
            refine fx_get (ci := 11) (v := .ref (rr + 9)) hx hb hts i11 hown hK (rwc_0 hW) rfl 9 (by decide) kl35 rfl dX11_beginBolus_108 ?_
            refine lv_iload_n hx hb dX11_beginBolus_111 rfl (lv_at hl 1 rfl) ?_
            refine fx_ild hx hb hK 0 (rwc_9 hW) rfl (okR_pv (x := x) hok (vi_lt hc) (Or.inl (by rw [c_8]; decide))) dX11_beginBolus_112 ?_
            refine fx_ist hx hb hK 0 (rwc_20 hW) (rA_o (o := 20) (by decide)) hS rfl hc dX11_beginBolus_113 (fun H locs hat hne hS => ?_)
            have hW : rw_ E rr (sR x 20 p1.toNatClampNeg (x.1 9 ((x.1 15 p1.toNatClampNeg).toNatClampNeg))) H := rws_20 (k := p1.toNatClampNeg) (v := x.1 9 ((x.1 15 p1.toNatClampNeg).toNatClampNeg)) hW hat hne
            refine lv_aload_n hx hb dX11_beginBolus_114 rfl (lv_at hl 2 rfl) ?_
            refine fx_get (ci := 11) (v := .ref (rr + 21)) hx hb hts i11 hown hK (rwc_0 hW) rfl 21 (by decide) kl71 rfl dX11_beginBolus_115 ?_
            refine lv_iload_n hx hb dX11_beginBolus_118 rfl (lv_at hl 3 rfl) ?_
            refine lv_aload_n hx hb dX11_beginBolus_119 rfl (lv_at hl 2 rfl) ?_
            refine fx_get (ci := 11) (v := .int (x.1 0 45)) hx hb hts i11 hown hK (rwc_0 hW) rfl 45 (by decide) kl167 rfl dX11_beginBolus_120 ?_
            refine fx_ist hx hb hK 0 (rwc_21 hW) (rA_o (o := 21) (by decide)) hS rfl hc dX11_beginBolus_123 (fun H locs hat hne hS => ?_)
            have hW : rw_ E rr (sR (sR x 20 p1.toNatClampNeg (x.1 9 ((x.1 15 p1.toNatClampNeg).toNatClampNeg))) 21 p1.toNatClampNeg (x.1 0 45)) H := rws_21 (k := p1.toNatClampNeg) (v := x.1 0 45) hW hat hne
            refine lv_aload_n hx hb dX11_beginBolus_124 rfl (lv_at hl 2 rfl) ?_
            refine fx_get (ci := 11) (v := .ref (rr + 33)) hx hb hts i11 hown hK (rwc_0 hW) rfl 33 (by decide) kl107 rfl dX11_beginBolus_125 ?_
            refine lv_sipush (v := 3600) hx hb dX11_beginBolus_128 (by decide) ?_
            refine lv_iload_n hx hb dX11_beginBolus_131 rfl (lv_at hl 3 rfl) ?_
            refine lv_imul hx hb dX11_beginBolus_132 ?_
            refine lv_aload_n hx hb dX11_beginBolus_133 rfl (lv_at hl 2 rfl) ?_
            refine fx_get (ci := 11) (v := .int (x.1 0 45)) hx hb hts i11 hown hK (rwc_0 hW) rfl 45 (by decide) kl167 rfl dX11_beginBolus_134 ?_
            refine lv_sipush (v := 3600) hx hb dX11_beginBolus_137 (by decide) ?_
            refine lv_irem hx hb dX11_beginBolus_140 (by decide) ?_
            refine lv_iadd hx hb dX11_beginBolus_141 ?_
            refine lv_dup2_11 hx hb dX11_beginBolus_142 rfl rfl ?_
            refine fx_ild hx hb hK 0 (rwc_33 hW) rfl (vi_hr hc hok.1.1) dX11_beginBolus_143 ?_
            refine lv_iconst (v := 1) hx hb dX11_beginBolus_144 (by decide) ?_
            refine lv_iadd hx hb dX11_beginBolus_145 ?_
            refine fx_ist hx hb hK 0 (rwc_33 hW) (rA_o (o := 33) (by decide)) hS rfl (vi_hr hc hok.1.1) dX11_beginBolus_146 (fun H locs hat hne hS => ?_)
            have hW : rw_ E rr (sR (sR (sR x 20 p1.toNatClampNeg (x.1 9 ((x.1 15 p1.toNatClampNeg).toNatClampNeg))) 21 p1.toNatClampNeg (x.1 0 45)) 33 ((((3600 : Int32) * p1) + ((x.1 0 45) - (x.1 0 45) / 3600 * 3600)).toNatClampNeg) ((x.1 33 ((((3600 : Int32) * p1) + ((x.1 0 45) - (x.1 0 45) / 3600 * 3600)).toNatClampNeg)) + 1)) H := rws_33 (k := ((((3600 : Int32) * p1) + ((x.1 0 45) - (x.1 0 45) / 3600 * 3600)).toNatClampNeg)) (v := (x.1 33 ((((3600 : Int32) * p1) + ((x.1 0 45) - (x.1 0 45) / 3600 * 3600)).toNatClampNeg)) + 1) hW hat hne
            refine lv_aload_n hx hb dX11_beginBolus_147 rfl (lv_at hl 2 rfl) ?_
            refine fx_get (ci := 11) (v := .ref (rr + 36)) hx hb hts i11 hown hK (rwc_0 hW) rfl 36 (by decide) kl116 rfl dX11_beginBolus_148 ?_
            refine lv_iload_n hx hb dX11_beginBolus_151 rfl (lv_at hl 3 rfl) ?_
            refine lv_dup2_11 hx hb dX11_beginBolus_152 rfl rfl ?_
            refine fx_ild hx hb hK 0 (rwc_36 hW) rfl hc dX11_beginBolus_153 ?_
            refine lv_iconst (v := 1) hx hb dX11_beginBolus_154 (by decide) ?_
            refine lv_iadd hx hb dX11_beginBolus_155 ?_
            refine fx_ist hx hb hK 0 (rwc_36 hW) (rA_o (o := 36) (by decide)) hS rfl hc dX11_beginBolus_156 (fun H locs hat hne hS => ?_)
            have hW : rw_ E rr (sR (sR (sR (sR x 20 p1.toNatClampNeg (x.1 9 ((x.1 15 p1.toNatClampNeg).toNatClampNeg))) 21 p1.toNatClampNeg (x.1 0 45)) 33 ((((3600 : Int32) * p1) + ((x.1 0 45) - (x.1 0 45) / 3600 * 3600)).toNatClampNeg) ((x.1 33 ((((3600 : Int32) * p1) + ((x.1 0 45) - (x.1 0 45) / 3600 * 3600)).toNatClampNeg)) + 1)) 36 p1.toNatClampNeg ((x.1 36 p1.toNatClampNeg) + 1)) H := rws_36 (k := p1.toNatClampNeg) (v := (x.1 36 p1.toNatClampNeg) + 1) hW hat hne
            refine lv_aload_n hx hb dX11_beginBolus_157 rfl (lv_at hl 2 rfl) ?_
            refine lv_iconst (v := 5) hx hb dX11_beginBolus_158 (by decide) ?_
            refine lv_iload_n hx hb dX11_beginBolus_159 rfl (lv_at hl 3 rfl) ?_
            refine lv_aload_n hx hb dX11_beginBolus_160 rfl (lv_at hl 2 rfl) ?_
            refine fx_get (ci := 11) (v := .ref (rr + 20)) hx hb hts i11 hown hK (rwc_0 hW) rfl 20 (by decide) kl68 rfl dX11_beginBolus_161 ?_
            refine lv_iload_n hx hb dX11_beginBolus_164 rfl (lv_at hl 3 rfl) ?_
            refine fx_ild hx hb hK 0 (rwc_20 hW) rfl hc dX11_beginBolus_165 ?_
            refine gx_v (rest := []) ⟨hx, hb, hml, hown, hts⟩ (mX11_note l E rr (sR (sR (sR (sR x 20 p1.toNatClampNeg (x.1 9 ((x.1 15 p1.toNatClampNeg).toNatClampNeg))) 21 p1.toNatClampNeg (x.1 0 45)) 33 ((((3600 : Int32) * p1) + ((x.1 0 45) - (x.1 0 45) / 3600 * 3600)).toNatClampNeg) ((x.1 33 ((((3600 : Int32) * p1) + ((x.1 0 45) - (x.1 0 45) / 3600 * 3600)).toNatClampNeg)) + 1)) 36 p1.toNatClampNeg ((x.1 36 p1.toNatClampNeg) + 1)) 5 p1 ((sR x 20 p1.toNatClampNeg (x.1 9 ((x.1 15 p1.toNatClampNeg).toNatClampNeg))).1 20 p1.toNatClampNeg) _ _ hok) (cwV 3 hts gX11_beginBolus_X11_note rfl rfl rfl (by decide +kernel) ⟨Nat.le_of_ble_eq_true rfl, Nat.le_of_ble_eq_true rfl⟩) hW hK (fx_recv hK (rwc_0 hW) rfl) rfl hl.1 rfl (Nat.le_of_ble_eq_true rfl) dX11_beginBolus_166 ⟨Nat.le_of_ble_eq_true rfl, Nat.le_of_ble_eq_true rfl⟩ hS (fun _ h => h) (fun u4 H locs e4 hW hS => ?_)
            have e4 : fX11_note 5 p1 ((sR x 20 p1.toNatClampNeg (x.1 9 ((x.1 15 p1.toNatClampNeg).toNatClampNeg))).1 20 p1.toNatClampNeg) (sR (sR (sR (sR x 20 p1.toNatClampNeg (x.1 9 ((x.1 15 p1.toNatClampNeg).toNatClampNeg))) 21 p1.toNatClampNeg (x.1 0 45)) 33 ((((3600 : Int32) * p1) + ((x.1 0 45) - (x.1 0 45) / 3600 * 3600)).toNatClampNeg) ((x.1 33 ((((3600 : Int32) * p1) + ((x.1 0 45) - (x.1 0 45) / 3600 * 3600)).toNatClampNeg)) + 1)) 36 p1.toNatClampNeg ((x.1 36 p1.toNatClampNeg) + 1)) = u4 := e4
            try rw [e4] at hf_79
            have hk4 : okR tg bg u4 := e4 ▸ (okX11_note hok)
            refine lv_iconst (v := 1) hx hb dX11_beginBolus_169 (by decide) ?_
            exact gx_iret hx hb hr (by decide) hlocks hK hf_79 hW hS dX11_beginBolus_170
        · have hf_44 := hf_35.trans (if_neg c_44)
          refine lv_aload_n hx hb dX11_beginBolus_47 rfl (lv_at hl 1 rfl) ?_
          refine fx_get (ci := 11) (v := .int (x.1 0 45)) hx hb hts i11 hown hK (rwc_0 hW) rfl 45 (by decide) kl167 rfl dX11_beginBolus_48 ?_
          refine lv_aload_n hx hb dX11_beginBolus_51 rfl (lv_at hl 1 rfl) ?_
          refine fx_get (ci := 11) (v := .ref (rr + 21)) hx hb hts i11 hown hK (rwc_0 hW) rfl 21 (by decide) kl71 rfl dX11_beginBolus_52 ?_
          refine lv_iload_n hx hb dX11_beginBolus_55 rfl (lv_at hl 2 rfl) ?_
          refine fx_ild hx hb hK 0 (rwc_21 hW) rfl hc dX11_beginBolus_56 ?_
          refine lv_isub hx hb dX11_beginBolus_57 ?_
          refine lv_aload_n hx hb dX11_beginBolus_58 rfl (lv_at hl 1 rfl) ?_
          refine fx_get (ci := 11) (v := .ref (rr + 11)) hx hb hts i11 hown hK (rwc_0 hW) rfl 11 (by decide) kl41 rfl dX11_beginBolus_59 ?_
          refine lv_iload_n hx hb dX11_beginBolus_62 rfl (lv_at hl 0 rfl) ?_
          refine fx_ild hx hb hK 0 (rwc_11 hW) rfl (okR_pv (x := x) hok (vi_lt hc) (Or.inl (by rw [c_8]; decide))) dX11_beginBolus_63 ?_
          refine lv_icmp_lt (tgt := 86) hx hb dX11_beginBolus_64 (by decide) (fun c_64 => ?_) (fun c_64 => ?_)
          · have hf_64 := hf_44.trans (if_pos c_64)
            refine lv_iconst (v := 0) hx hb dX11_beginBolus_86 (by decide) ?_
            refine lv_istore_n (lv' := [(3, .int (0)), (2, .int (x.1 15 p1.toNatClampNeg)), (0, .ref (rr + 0)), (1, .int (p1))]) hx hb dX11_beginBolus_87 rfl hl (by decide) rfl (fun ls hl => ?_)
            refine lv_iload_n hx hb dX11_beginBolus_88 rfl (lv_at hl 0 rfl) ?_
            refine lv_if_ne (tgt := 102) hx hb dX11_beginBolus_89 (by decide) (fun c9 => absurd c9 (by decide)) (fun c9 => ?_)
            refine lv_aload_n hx hb dX11_beginBolus_92 rfl (lv_at hl 2 rfl) ?_
            refine lv_bipush (v := 6) hx hb dX11_beginBolus_93 (by decide) ?_
            refine lv_iload_n hx hb dX11_beginBolus_95 rfl (lv_at hl 3 rfl) ?_
            refine lv_iconst (v := 0) hx hb dX11_beginBolus_96 (by decide) ?_
            refine gx_v (rest := []) ⟨hx, hb, hml, hown, hts⟩ (mX11_note l E rr x 6 p1 0 _ _ hok) (cwV 3 hts gX11_beginBolus_X11_note rfl rfl rfl (by decide +kernel) ⟨Nat.le_of_ble_eq_true rfl, Nat.le_of_ble_eq_true rfl⟩) hW hK (fx_recv hK (rwc_0 hW) rfl) rfl hl.1 rfl (Nat.le_of_ble_eq_true rfl) dX11_beginBolus_97 ⟨Nat.le_of_ble_eq_true rfl, Nat.le_of_ble_eq_true rfl⟩ hS (fun _ h => h) (fun u5 H locs e5 hW hS => ?_)
            have e5 : fX11_note 6 p1 0 x = u5 := e5
            try rw [e5] at hf_64
            have hk5 : okR tg bg u5 := e5 ▸ (okX11_note hok)
            refine lv_iconst (v := 0) hx hb dX11_beginBolus_100 (by decide) ?_
            exact gx_iret hx hb hr (by decide) hlocks hK hf_64 hW hS dX11_beginBolus_101
          · have hf_64 := hf_44.trans (if_neg c_64)
            refine lv_aload_n hx hb dX11_beginBolus_67 rfl (lv_at hl 1 rfl) ?_
            refine fx_get (ci := 11) (v := .ref (rr + 36)) hx hb hts i11 hown hK (rwc_0 hW) rfl 36 (by decide) kl116 rfl dX11_beginBolus_68 ?_
            refine lv_iload_n hx hb dX11_beginBolus_71 rfl (lv_at hl 2 rfl) ?_
            refine fx_ild hx hb hK 0 (rwc_36 hW) rfl hc dX11_beginBolus_72 ?_
            refine lv_aload_n hx hb dX11_beginBolus_73 rfl (lv_at hl 1 rfl) ?_
            refine fx_get (ci := 11) (v := .ref (rr + 12)) hx hb hts i11 hown hK (rwc_0 hW) rfl 12 (by decide) kl44 rfl dX11_beginBolus_74 ?_
            refine lv_iload_n hx hb dX11_beginBolus_77 rfl (lv_at hl 0 rfl) ?_
            refine fx_ild hx hb hK 0 (rwc_12 hW) rfl (okR_pv (x := x) hok (vi_lt hc) (Or.inl (by rw [c_8]; decide))) dX11_beginBolus_78 ?_
            refine lv_icmp_ge (tgt := 86) hx hb dX11_beginBolus_79 (by decide) (fun c_79 => ?_) (fun c_79 => ?_)
            · have hf_79 := hf_64.trans (if_pos c_79)
              refine lv_iconst (v := 0) hx hb dX11_beginBolus_86 (by decide) ?_
              refine lv_istore_n (lv' := [(3, .int (0)), (2, .int (x.1 15 p1.toNatClampNeg)), (0, .ref (rr + 0)), (1, .int (p1))]) hx hb dX11_beginBolus_87 rfl hl (by decide) rfl (fun ls hl => ?_)
              refine lv_iload_n hx hb dX11_beginBolus_88 rfl (lv_at hl 0 rfl) ?_
              refine lv_if_ne (tgt := 102) hx hb dX11_beginBolus_89 (by decide) (fun c9 => absurd c9 (by decide)) (fun c9 => ?_)
              refine lv_aload_n hx hb dX11_beginBolus_92 rfl (lv_at hl 2 rfl) ?_
              refine lv_bipush (v := 6) hx hb dX11_beginBolus_93 (by decide) ?_
              refine lv_iload_n hx hb dX11_beginBolus_95 rfl (lv_at hl 3 rfl) ?_
              refine lv_iconst (v := 0) hx hb dX11_beginBolus_96 (by decide) ?_
              refine gx_v (rest := []) ⟨hx, hb, hml, hown, hts⟩ (mX11_note l E rr x 6 p1 0 _ _ hok) (cwV 3 hts gX11_beginBolus_X11_note rfl rfl rfl (by decide +kernel) ⟨Nat.le_of_ble_eq_true rfl, Nat.le_of_ble_eq_true rfl⟩) hW hK (fx_recv hK (rwc_0 hW) rfl) rfl hl.1 rfl (Nat.le_of_ble_eq_true rfl) dX11_beginBolus_97 ⟨Nat.le_of_ble_eq_true rfl, Nat.le_of_ble_eq_true rfl⟩ hS (fun _ h => h) (fun u6 H locs e6 hW hS => ?_)
              have e6 : fX11_note 6 p1 0 x = u6 := e6
              try rw [e6] at hf_79
              have hk6 : okR tg bg u6 := e6 ▸ (okX11_note hok)
              refine lv_iconst (v := 0) hx hb dX11_beginBolus_100 (by decide) ?_
              exact gx_iret hx hb hr (by decide) hlocks hK hf_79 hW hS dX11_beginBolus_101
            · have hf_79 := hf_64.trans (if_neg c_79)
              refine lv_iconst (v := 1) hx hb dX11_beginBolus_82 (by decide) ?_
              refine lv_goto (tgt := 87) hx hb dX11_beginBolus_83 (by decide) ?_
              refine lv_istore_n (lv' := [(3, .int (1)), (2, .int (x.1 15 p1.toNatClampNeg)), (0, .ref (rr + 0)), (1, .int (p1))]) hx hb dX11_beginBolus_87 rfl hl (by decide) rfl (fun ls hl => ?_)
              refine lv_iload_n hx hb dX11_beginBolus_88 rfl (lv_at hl 0 rfl) ?_
              refine lv_if_ne (tgt := 102) hx hb dX11_beginBolus_89 (by decide) (fun c9 => ?_) (fun c9 => absurd c9 (by decide))
              refine lv_aload_n hx hb dX11_beginBolus_102 rfl (lv_at hl 2 rfl) ?_
              refine fx_get (ci := 11) (v := .ref (rr + 20)) hx hb hts i11 hown hK (rwc_0 hW) rfl 20 (by decide) kl68 rfl dX11_beginBolus_103 ?_
              refine lv_iload_n hx hb dX11_beginBolus_106 rfl (lv_at hl 3 rfl) ?_
              refine lv_aload_n hx hb dX11_beginBolus_107 rfl (lv_at hl 2 rfl) ?_
              refine fx_get (ci := 11) (v := .ref (rr + 9)) hx hb hts i11 hown hK (rwc_0 hW) rfl 9 (by decide) kl35 rfl dX11_beginBolus_108 ?_
              refine lv_iload_n hx hb dX11_beginBolus_111 rfl (lv_at hl 1 rfl) ?_
              refine fx_ild hx hb hK 0 (rwc_9 hW) rfl (okR_pv (x := x) hok (vi_lt hc) (Or.inl (by rw [c_8]; decide))) dX11_beginBolus_112 ?_
              refine fx_ist hx hb hK 0 (rwc_20 hW) (rA_o (o := 20) (by decide)) hS rfl hc dX11_beginBolus_113 (fun H locs hat hne hS => ?_)
              have hW : rw_ E rr (sR x 20 p1.toNatClampNeg (x.1 9 ((x.1 15 p1.toNatClampNeg).toNatClampNeg))) H := rws_20 (k := p1.toNatClampNeg) (v := x.1 9 ((x.1 15 p1.toNatClampNeg).toNatClampNeg)) hW hat hne
              refine lv_aload_n hx hb dX11_beginBolus_114 rfl (lv_at hl 2 rfl) ?_
              refine fx_get (ci := 11) (v := .ref (rr + 21)) hx hb hts i11 hown hK (rwc_0 hW) rfl 21 (by decide) kl71 rfl dX11_beginBolus_115 ?_
              refine lv_iload_n hx hb dX11_beginBolus_118 rfl (lv_at hl 3 rfl) ?_
              refine lv_aload_n hx hb dX11_beginBolus_119 rfl (lv_at hl 2 rfl) ?_
              refine fx_get (ci := 11) (v := .int (x.1 0 45)) hx hb hts i11 hown hK (rwc_0 hW) rfl 45 (by decide) kl167 rfl dX11_beginBolus_120 ?_
              refine fx_ist hx hb hK 0 (rwc_21 hW) (rA_o (o := 21) (by decide)) hS rfl hc dX11_beginBolus_123 (fun H locs hat hne hS => ?_)
              have hW : rw_ E rr (sR (sR x 20 p1.toNatClampNeg (x.1 9 ((x.1 15 p1.toNatClampNeg).toNatClampNeg))) 21 p1.toNatClampNeg (x.1 0 45)) H := rws_21 (k := p1.toNatClampNeg) (v := x.1 0 45) hW hat hne
              refine lv_aload_n hx hb dX11_beginBolus_124 rfl (lv_at hl 2 rfl) ?_
              refine fx_get (ci := 11) (v := .ref (rr + 33)) hx hb hts i11 hown hK (rwc_0 hW) rfl 33 (by decide) kl107 rfl dX11_beginBolus_125 ?_
              refine lv_sipush (v := 3600) hx hb dX11_beginBolus_128 (by decide) ?_
              refine lv_iload_n hx hb dX11_beginBolus_131 rfl (lv_at hl 3 rfl) ?_
              refine lv_imul hx hb dX11_beginBolus_132 ?_
              refine lv_aload_n hx hb dX11_beginBolus_133 rfl (lv_at hl 2 rfl) ?_
              refine fx_get (ci := 11) (v := .int (x.1 0 45)) hx hb hts i11 hown hK (rwc_0 hW) rfl 45 (by decide) kl167 rfl dX11_beginBolus_134 ?_
              refine lv_sipush (v := 3600) hx hb dX11_beginBolus_137 (by decide) ?_
              refine lv_irem hx hb dX11_beginBolus_140 (by decide) ?_
              refine lv_iadd hx hb dX11_beginBolus_141 ?_
              refine lv_dup2_11 hx hb dX11_beginBolus_142 rfl rfl ?_
              refine fx_ild hx hb hK 0 (rwc_33 hW) rfl (vi_hr hc hok.1.1) dX11_beginBolus_143 ?_
              refine lv_iconst (v := 1) hx hb dX11_beginBolus_144 (by decide) ?_
              refine lv_iadd hx hb dX11_beginBolus_145 ?_
              refine fx_ist hx hb hK 0 (rwc_33 hW) (rA_o (o := 33) (by decide)) hS rfl (vi_hr hc hok.1.1) dX11_beginBolus_146 (fun H locs hat hne hS => ?_)
              have hW : rw_ E rr (sR (sR (sR x 20 p1.toNatClampNeg (x.1 9 ((x.1 15 p1.toNatClampNeg).toNatClampNeg))) 21 p1.toNatClampNeg (x.1 0 45)) 33 ((((3600 : Int32) * p1) + ((x.1 0 45) - (x.1 0 45) / 3600 * 3600)).toNatClampNeg) ((x.1 33 ((((3600 : Int32) * p1) + ((x.1 0 45) - (x.1 0 45) / 3600 * 3600)).toNatClampNeg)) + 1)) H := rws_33 (k := ((((3600 : Int32) * p1) + ((x.1 0 45) - (x.1 0 45) / 3600 * 3600)).toNatClampNeg)) (v := (x.1 33 ((((3600 : Int32) * p1) + ((x.1 0 45) - (x.1 0 45) / 3600 * 3600)).toNatClampNeg)) + 1) hW hat hne
              refine lv_aload_n hx hb dX11_beginBolus_147 rfl (lv_at hl 2 rfl) ?_
              refine fx_get (ci := 11) (v := .ref (rr + 36)) hx hb hts i11 hown hK (rwc_0 hW) rfl 36 (by decide) kl116 rfl dX11_beginBolus_148 ?_
              refine lv_iload_n hx hb dX11_beginBolus_151 rfl (lv_at hl 3 rfl) ?_
              refine lv_dup2_11 hx hb dX11_beginBolus_152 rfl rfl ?_
              refine fx_ild hx hb hK 0 (rwc_36 hW) rfl hc dX11_beginBolus_153 ?_
              refine lv_iconst (v := 1) hx hb dX11_beginBolus_154 (by decide) ?_
              refine lv_iadd hx hb dX11_beginBolus_155 ?_
              refine fx_ist hx hb hK 0 (rwc_36 hW) (rA_o (o := 36) (by decide)) hS rfl hc dX11_beginBolus_156 (fun H locs hat hne hS => ?_)
              have hW : rw_ E rr (sR (sR (sR (sR x 20 p1.toNatClampNeg (x.1 9 ((x.1 15 p1.toNatClampNeg).toNatClampNeg))) 21 p1.toNatClampNeg (x.1 0 45)) 33 ((((3600 : Int32) * p1) + ((x.1 0 45) - (x.1 0 45) / 3600 * 3600)).toNatClampNeg) ((x.1 33 ((((3600 : Int32) * p1) + ((x.1 0 45) - (x.1 0 45) / 3600 * 3600)).toNatClampNeg)) + 1)) 36 p1.toNatClampNeg ((x.1 36 p1.toNatClampNeg) + 1)) H := rws_36 (k := p1.toNatClampNeg) (v := (x.1 36 p1.toNatClampNeg) + 1) hW hat hne
              refine lv_aload_n hx hb dX11_beginBolus_157 rfl (lv_at hl 2 rfl) ?_
              refine lv_iconst (v := 5) hx hb dX11_beginBolus_158 (by decide) ?_
              refine lv_iload_n hx hb dX11_beginBolus_159 rfl (lv_at hl 3 rfl) ?_
              refine lv_aload_n hx hb dX11_beginBolus_160 rfl (lv_at hl 2 rfl) ?_
              refine fx_get (ci := 11) (v := .ref (rr + 20)) hx hb hts i11 hown hK (rwc_0 hW) rfl 20 (by decide) kl68 rfl dX11_beginBolus_161 ?_
              refine lv_iload_n hx hb dX11_beginBolus_164 rfl (lv_at hl 3 rfl) ?_
              refine fx_ild hx hb hK 0 (rwc_20 hW) rfl hc dX11_beginBolus_165 ?_
              refine gx_v (rest := []) ⟨hx, hb, hml, hown, hts⟩ (mX11_note l E rr (sR (sR (sR (sR x 20 p1.toNatClampNeg (x.1 9 ((x.1 15 p1.toNatClampNeg).toNatClampNeg))) 21 p1.toNatClampNeg (x.1 0 45)) 33 ((((3600 : Int32) * p1) + ((x.1 0 45) - (x.1 0 45) / 3600 * 3600)).toNatClampNeg) ((x.1 33 ((((3600 : Int32) * p1) + ((x.1 0 45) - (x.1 0 45) / 3600 * 3600)).toNatClampNeg)) + 1)) 36 p1.toNatClampNeg ((x.1 36 p1.toNatClampNeg) + 1)) 5 p1 ((sR x 20 p1.toNatClampNeg (x.1 9 ((x.1 15 p1.toNatClampNeg).toNatClampNeg))).1 20 p1.toNatClampNeg) _ _ hok) (cwV 3 hts gX11_beginBolus_X11_note rfl rfl rfl (by decide +kernel) ⟨Nat.le_of_ble_eq_true rfl, Nat.le_of_ble_eq_true rfl⟩) hW hK (fx_recv hK (rwc_0 hW) rfl) rfl hl.1 rfl (Nat.le_of_ble_eq_true rfl) dX11_beginBolus_166 ⟨Nat.le_of_ble_eq_true rfl, Nat.le_of_ble_eq_true rfl⟩ hS (fun _ h => h) (fun u7 H locs e7 hW hS => ?_)
              have e7 : fX11_note 5 p1 ((sR x 20 p1.toNatClampNeg (x.1 9 ((x.1 15 p1.toNatClampNeg).toNatClampNeg))).1 20 p1.toNatClampNeg) (sR (sR (sR (sR x 20 p1.toNatClampNeg (x.1 9 ((x.1 15 p1.toNatClampNeg).toNatClampNeg))) 21 p1.toNatClampNeg (x.1 0 45)) 33 ((((3600 : Int32) * p1) + ((x.1 0 45) - (x.1 0 45) / 3600 * 3600)).toNatClampNeg) ((x.1 33 ((((3600 : Int32) * p1) + ((x.1 0 45) - (x.1 0 45) / 3600 * 3600)).toNatClampNeg)) + 1)) 36 p1.toNatClampNeg ((x.1 36 p1.toNatClampNeg) + 1)) = u7 := e7
              try rw [e7] at hf_79
              have hk7 : okR tg bg u7 := e7 ▸ (okX11_note hok)
              refine lv_iconst (v := 1) hx hb dX11_beginBolus_169 (by decide) ?_
              exact gx_iret hx hb hr (by decide) hlocks hK hf_79 hW hS dX11_beginBolus_170
  · have hf_8 := hf.trans (if_neg c_8)
    refine lv_iconst (v := 0) hx hb dX11_beginBolus_11 (by decide) ?_
    exact gx_iret hx hb hr (by decide) hlocks hK hf_8 hW hS dX11_beginBolus_12
theorem okX11_beginBolus {tg bg : Nat} {p1 : Int32} {x : RS} (hok : okR tg (bg + 1) x) : okR tg bg (fX11_beginBolus p1 x).1 := by unfold fX11_beginBolus; exact (okR_ite1 (fun c_8 => (okR_ite1 (fun c_26 => (okX11_note hok)) (fun c_26 => (okR_ite1 (fun c_35 => (okR_ite1 (fun c_44 => (okR_ite1 (fun c_79 => (okX11_note hok)) (fun c_79 => (okX11_note (okR_sR rfl (okR_sR rfl (okR_sR rfl (okR_sR rfl hok)))))))) (fun c_44 => (okR_ite1 (fun c_64 => (okX11_note hok)) (fun c_64 => (okR_ite1 (fun c_79 => (okX11_note hok)) (fun c_79 => (okX11_note (okR_sR rfl (okR_sR rfl (okR_sR rfl (okR_sR rfl hok)))))))))))) (fun c_35 => (okX11_note hok)))))) (fun c_8 => (okR_le (k := 1) hok)))

theorem boX11_beginBolus {p1 : Int32} {x : RS} : (fX11_beginBolus p1 x).2 = 0 ∨ (fX11_beginBolus p1 x).2 = 1 := by
  unfold fX11_beginBolus
  (repeat' split) <;> first | exact Or.inl rfl | exact Or.inr rfl

theorem okR_s48 {T B : Nat} {x : RS} {v : Int32} (hv : vp_in v 3) (hok : okR T B x) : okR T B (sR x 0 48 v) := by
  obtain ⟨h1, h2, h3, h4, -, h6⟩ := hok
  exact ⟨h1, h2, h3, h4, hv, h6⟩
theorem vi_nx {c : Int32} (hc : vp_in c 3) : vp_in (c + 1 - (c + 1) / 3 * 3) 3 := by
  obtain ⟨i, hi, e⟩ := vp_in_of hc (by decide)
  rcases (show i = 0 ∨ i = 1 ∨ i = 2 by omega) with rfl | rfl | rfl <;> rw [e] <;> (unfold vp_in; decide)

def fX11_press_J225 (p1 : Int32) (p2 : Int32) (y : RS) : RS × Int32 := if (y.1 29 p1.toNatClampNeg) = 0 then (((sR y 29 p1.toNatClampNeg (1)), 1)) else (((sR y 29 p1.toNatClampNeg (0)), 1))
def fX11_press_J98 (p1 : Int32) (p2 : Int32) (y : RS) : RS × Int32 := if ((fX11_clearKey p1 y).2) = 0 then (((fX11_clearKey p1 y).1, 0)) else (((fX11_clearKey p1 y).1, 1))
def fX11_press_J25 (p1 : Int32) (p2 : Int32) (y : RS) (w0 : Int32) : RS × Int32 := if p2 = 11 then (if w0 = 0 then (if (y.1 13 p1.toNatClampNeg) = 5 then (fX11_press_J98 p1 p2 y) else ((y, 0))) else (fX11_press_J98 p1 p2 y)) else if p2 = 12 then (if w0 = 0 then ((y, 0)) else (if ((fX11_figure p1 p2 y).2) = 0 then (((fX11_figure p1 p2 y).1, 0)) else (((fX11_figure p1 p2 y).1, 1)))) else if p2 = 13 then (((fX11_begin p1 y).1, ((fX11_begin p1 y).2))) else if p2 = 14 then (((fX11_run p1 y).1, ((fX11_run p1 y).2))) else if p2 = 15 then (((fX11_stop p1 y).1, ((fX11_stop p1 y).2))) else if p2 = 16 then (((fX11_acknowledge p1 y).1, ((fX11_acknowledge p1 y).2))) else if p2 = 17 then (if (y.1 13 p1.toNatClampNeg) = 5 then (((fX11_go p1 4 (fX11_note 2 p1 (y.1 40 p1.toNatClampNeg) y)), 1)) else ((y, 0))) else if p2 = 18 then (((fX11_beginBolus p1 y).1, ((fX11_beginBolus p1 y).2))) else if p2 = 19 then (((sR y 0 49 ((y.1 0 45) + 120)), 1)) else if p2 = 20 then (((sR y 0 48 (((y.1 0 48) + 1) - ((y.1 0 48) + 1) / 3 * 3)), 1)) else if p2 = 21 then (if (y.1 13 p1.toNatClampNeg) = 6 then (fX11_press_J225 p1 p2 y) else (if (y.1 13 p1.toNatClampNeg) = 8 then (fX11_press_J225 p1 p2 y) else ((y, 0)))) else (if w0 = 0 then ((y, 0)) else (if ((fX11_figure p1 p2 y).2) = 0 then (((fX11_figure p1 p2 y).1, 0)) else (((fX11_figure p1 p2 y).1, 1))))
def fX11_press_J24 (p1 : Int32) (p2 : Int32) (y : RS) : RS × Int32 := fX11_press_J25 p1 p2 y 0
def fX11_press (p1 : Int32) (p2 : Int32) (x : RS) : RS × Int32 := if (x.1 13 p1.toNatClampNeg) < 1 then (fX11_press_J24 p1 p2 x) else (if (4 : Int32) < (x.1 13 p1.toNatClampNeg) then (fX11_press_J24 p1 p2 x) else (fX11_press_J25 p1 p2 x 1))
set_option maxHeartbeats 4000000 in
set_option maxRecDepth 100000 in
theorem mX11_press (l : Launch) (E : eE) (rr : Nat) (x : RS) (p1 : Int32) (p2 : Int32) (hc : vp_in p1 3) (tg : Nat) (bg : Nat) (hok : okR tg (bg + 16) x) : Met l yX11_press wsX11_press ({ frames := 4, cells := 0, slots := 0, locals := 89 }) (gPre E (rw_ E rr x) [.ref (rr + 0), .int (p1), .int (p2)]) (gQi E (rw_ E rr) (fX11_press p1 p2 x) (rA rr)) 0 0 (rA rr) := by
  refine Met.ofW (cc := cX11_press) (maxL := 4) (ret := (some .boolean)) (by decide) rfl ?_
  intro p e s m args below meth c s₁ B hml hv
  obtain ⟨rfl, hW, hK⟩ := hv
  have hx := B.exec
  have hb := B.bytes
  have hr := B.returns
  have hts := atoms_spec (ws := wsX11_press) B.pre
  have hown : s.vm.findClass RX11 = some m.cls := findClass_of_methodNamed B.named
  have hlocks := B.notSynchronized
  have i11 : ∀ w ∈ wsX110, w ∈ wsX11_press := by decide +kernel
  have kl47 := hts (.fieldLink RX11 47 "DosePumpModel" "phase" "[I") (by decide +kernel)
  have kl95 := hts (.fieldLink RX11 95 "DosePumpModel" "relay" "[Z") (by decide +kernel)
  have kl128 := hts (.fieldLink RX11 128 "DosePumpModel" "entryAmount" "[I") (by decide +kernel)
  have kl167 := hts (.fieldLink RX11 167 "DosePumpModel" "time" "I") (by decide +kernel)
  have kl265 := hts (.fieldLink RX11 265 "DosePumpModel" "silentTo" "I") (by decide +kernel)
  have kl268 := hts (.fieldLink RX11 268 "DosePumpModel" "chosen" "I") (by decide +kernel)
  have hS : va_S (rA rr) s.heap s.heap [] := va_S.rf
  have hl := lv_entry ([.ref (rr + 0), .int (p1), .int (p2)]) (n := 4) (Nat.le_of_ble_eq_true rfl)
  rw [lg_entry_eq]
  generalize (lg_sl ([.ref (rr + 0), .int (p1), .int (p2)]) ++ List.replicate (4 - (lg_sl ([.ref (rr + 0), .int (p1), .int (p2)])).length) Slot.unset).toArray = ls at hl ⊢
  have hl : lv_has ls 4 [(0, .ref (rr + 0)), (1, .int (p1)), (2, .int (p2))] := hl
  have J225 : ∀ (H : Heap) (locs : List Loc) (ls : Array Slot) (y : RS), rw_ E rr y H → va_S (rA rr) s.heap H locs → lv_has ls 4 [(0, .ref (rr + 0)), (1, .int (p1))] → okR tg (bg + 16) y → fX11_press p1 p2 x = fX11_press_J225 p1 p2 y → W p l e (headSpec wsX11_press { frames := 4, cells := 0, slots := 0, locals := 89 }).room s m ([.ref (rr + 0), .int (p1), .int (p2)] : List Value).toArray below meth c H locs 0 0 (MQ below (gQi E (rw_ E rr) (fX11_press p1 p2 x) (rA rr)) ([.ref (rr + 0), .int (p1), .int (p2)] : List Value).toArray s 0 0 (rA rr)) (F0 m 225 ls []) := by
    intro H locs ls y hW hS hl hok hf
    replace hf : fX11_press p1 p2 x = (if (y.1 29 p1.toNatClampNeg) = 0 then (((sR y 29 p1.toNatClampNeg (1)), 1)) else (((sR y 29 p1.toNatClampNeg (0)), 1))) := hf
    refine lv_aload_n hx hb dX11_press_225 rfl (lv_at hl 0 rfl) ?_
    refine fx_get (ci := 11) (v := .ref (rr + 29)) hx hb hts i11 hown hK (rwc_0 hW) rfl 29 (by decide) kl95 rfl dX11_press_226 ?_
    refine lv_iload_n hx hb dX11_press_229 rfl (lv_at hl 1 rfl) ?_
    refine lv_aload_n hx hb dX11_press_230 rfl (lv_at hl 0 rfl) ?_
    refine fx_get (ci := 11) (v := .ref (rr + 29)) hx hb hts i11 hown hK (rwc_0 hW) rfl 29 (by decide) kl95 rfl dX11_press_231 ?_
    refine lv_iload_n hx hb dX11_press_234 rfl (lv_at hl 1 rfl) ?_
    refine fx_zld hx hb hK 1 (rwc_29 hW) rfl hc dX11_press_235 ?_
    refine lv_if_ne (tgt := 243) hx hb dX11_press_236 (by decide) (fun c_236 => ?_) (fun c_236 => ?_)
    · have hf_236 := hf.trans (if_neg c_236)
      refine lv_iconst (v := 0) hx hb dX11_press_243 (by decide) ?_
      refine fx_zst hx hb hK 1 (rwc_29 hW) (rA_o (o := 29) (by decide)) hS rfl (by decide) hc dX11_press_244 (fun H locs hat hne hS => ?_)
      have hW : rw_ E rr (sR y 29 p1.toNatClampNeg (0)) H := rws_29 (k := p1.toNatClampNeg) (v := 0) hW hat hne
      refine lv_iconst (v := 1) hx hb dX11_press_245 (by decide) ?_
      exact gx_iret hx hb hr (by decide) hlocks hK hf_236 hW hS dX11_press_246
    · have hf_236 := hf.trans (if_pos c_236)
      refine lv_iconst (v := 1) hx hb dX11_press_239 (by decide) ?_
      refine lv_goto (tgt := 244) hx hb dX11_press_240 (by decide) ?_
      refine fx_zst hx hb hK 1 (rwc_29 hW) (rA_o (o := 29) (by decide)) hS rfl (by decide) hc dX11_press_244 (fun H locs hat hne hS => ?_)
      have hW : rw_ E rr (sR y 29 p1.toNatClampNeg (1)) H := rws_29 (k := p1.toNatClampNeg) (v := 1) hW hat hne
      refine lv_iconst (v := 1) hx hb dX11_press_245 (by decide) ?_
      exact gx_iret hx hb hr (by decide) hlocks hK hf_236 hW hS dX11_press_246
  have J98 : ∀ (H : Heap) (locs : List Loc) (ls : Array Slot) (y : RS), rw_ E rr y H → va_S (rA rr) s.heap H locs → lv_has ls 4 [(0, .ref (rr + 0)), (1, .int (p1))] → okR tg (bg + 16) y → fX11_press p1 p2 x = fX11_press_J98 p1 p2 y → W p l e (headSpec wsX11_press { frames := 4, cells := 0, slots := 0, locals := 89 }).room s m ([.ref (rr + 0), .int (p1), .int (p2)] : List Value).toArray below meth c H locs 0 0 (MQ below (gQi E (rw_ E rr) (fX11_press p1 p2 x) (rA rr)) ([.ref (rr + 0), .int (p1), .int (p2)] : List Value).toArray s 0 0 (rA rr)) (F0 m 98 ls []) := by
    intro H locs ls y hW hS hl hok hf
    replace hf : fX11_press p1 p2 x = (if ((fX11_clearKey p1 y).2) = 0 then (((fX11_clearKey p1 y).1, 0)) else (((fX11_clearKey p1 y).1, 1))) := hf
    refine lv_aload_n hx hb dX11_press_98 rfl (lv_at hl 0 rfl) ?_
    refine lv_iload_n hx hb dX11_press_99 rfl (lv_at hl 1 rfl) ?_
    refine gx_i (rest := []) ⟨hx, hb, hml, hown, hts⟩ (mX11_clearKey l E rr y p1 hc _ _ hok) (cwV 1 hts gX11_press_X11_clearKey rfl rfl rfl (by decide +kernel) ⟨Nat.le_of_ble_eq_true rfl, Nat.le_of_ble_eq_true rfl⟩) hW hK (fx_recv hK (rwc_0 hW) rfl) rfl hl.1 rfl (Nat.le_of_ble_eq_true rfl) dX11_press_100 ⟨Nat.le_of_ble_eq_true rfl, Nat.le_of_ble_eq_true rfl⟩ hS (fun _ h => h) (fun u10 r10 H locs e10 e10r hW hS => ?_)
    have e10 : (fX11_clearKey p1 y).1 = u10 := e10
    have e10r : (fX11_clearKey p1 y).2 = r10 := e10r
    try rw [e10] at hf
    try rw [e10r] at hf
    have hk10 : okR tg (bg + 15) u10 := e10 ▸ (okX11_clearKey hc hok)
    refine lv_if_eq (tgt := 110) hx hb dX11_press_103 (by decide) (fun c_103 => ?_) (fun c_103 => ?_)
    · have hf_103 := hf.trans (if_pos c_103)
      refine lv_iconst (v := 0) hx hb dX11_press_110 (by decide) ?_
      exact gx_iret hx hb hr (by decide) hlocks hK hf_103 hW hS dX11_press_111
    · have hf_103 := hf.trans (if_neg c_103)
      refine lv_iconst (v := 1) hx hb dX11_press_106 (by decide) ?_
      refine lv_goto (tgt := 111) hx hb dX11_press_107 (by decide) ?_
      exact gx_iret hx hb hr (by decide) hlocks hK hf_103 hW hS dX11_press_111
  have J25 : ∀ (H : Heap) (locs : List Loc) (ls : Array Slot) (y : RS) (w0 : Int32), rw_ E rr y H → va_S (rA rr) s.heap H locs → lv_has ls 4 [(0, .ref (rr + 0)), (1, .int (p1)), (2, .int (p2))] → okR tg (bg + 16) y → fX11_press p1 p2 x = fX11_press_J25 p1 p2 y w0 → W p l e (headSpec wsX11_press { frames := 4, cells := 0, slots := 0, locals := 89 }).room s m ([.ref (rr + 0), .int (p1), .int (p2)] : List Value).toArray below meth c H locs 0 0 (MQ below (gQi E (rw_ E rr) (fX11_press p1 p2 x) (rA rr)) ([.ref (rr + 0), .int (p1), .int (p2)] : List Value).toArray s 0 0 (rA rr)) (F0 m 25 ls [.int (w0)]) := by
    intro H locs ls y w0 hW hS hl hok hf
    replace hf : fX11_press p1 p2 x = (if p2 = 11 then (if w0 = 0 then (if (y.1 13 p1.toNatClampNeg) = 5 then (fX11_press_J98 p1 p2 y) else ((y, 0))) else (fX11_press_J98 p1 p2 y)) else if p2 = 12 then (if w0 = 0 then ((y, 0)) else (if ((fX11_figure p1 p2 y).2) = 0 then (((fX11_figure p1 p2 y).1, 0)) else (((fX11_figure p1 p2 y).1, 1)))) else if p2 = 13 then (((fX11_begin p1 y).1, ((fX11_begin p1 y).2))) else if p2 = 14 then (((fX11_run p1 y).1, ((fX11_run p1 y).2))) else if p2 = 15 then (((fX11_stop p1 y).1, ((fX11_stop p1 y).2))) else if p2 = 16 then (((fX11_acknowledge p1 y).1, ((fX11_acknowledge p1 y).2))) else if p2 = 17 then (if (y.1 13 p1.toNatClampNeg) = 5 then (((fX11_go p1 4 (fX11_note 2 p1 (y.1 40 p1.toNatClampNeg) y)), 1)) else ((y, 0))) else if p2 = 18 then (((fX11_beginBolus p1 y).1, ((fX11_beginBolus p1 y).2))) else if p2 = 19 then (((sR y 0 49 ((y.1 0 45) + 120)), 1)) else if p2 = 20 then (((sR y 0 48 (((y.1 0 48) + 1) - ((y.1 0 48) + 1) / 3 * 3)), 1)) else if p2 = 21 then (if (y.1 13 p1.toNatClampNeg) = 6 then (fX11_press_J225 p1 p2 y) else (if (y.1 13 p1.toNatClampNeg) = 8 then (fX11_press_J225 p1 p2 y) else ((y, 0)))) else (if w0 = 0 then ((y, 0)) else (if ((fX11_figure p1 p2 y).2) = 0 then (((fX11_figure p1 p2 y).1, 0)) else (((fX11_figure p1 p2 y).1, 1))))) := hf
    refine lv_istore_n (lv' := [(3, .int (w0)), (0, .ref (rr + 0)), (1, .int (p1)), (2, .int (p2))]) hx hb dX11_press_25 rfl hl (by decide) rfl (fun ls hl => ?_)
    refine lv_iload_n hx hb dX11_press_26 rfl (lv_at hl 3 rfl) ?_
    by_cases c_27_11 : p2 = 11
    · have hf_27_11 := hf.trans (if_pos c_27_11)
      refine gx_tab (tgt := 84) hx hb c_27_11 dX11_press_27 (by decide) (by decide) rfl (by decide) ?_
      refine lv_iload_n hx hb dX11_press_84 rfl (lv_at hl 0 rfl) ?_
      refine lv_if_ne (tgt := 98) hx hb dX11_press_85 (by decide) (fun c_85 => ?_) (fun c_85 => ?_)
      · have hf_85 := hf_27_11.trans (if_neg c_85)
        exact J98 _ _ _ y hW hS (lv_sub hl [1, 2] rfl) hok hf_85
      · have hf_85 := hf_27_11.trans (if_pos c_85)
        refine lv_aload_n hx hb dX11_press_88 rfl (lv_at hl 1 rfl) ?_
        refine fx_get (ci := 11) (v := .ref (rr + 13)) hx hb hts i11 hown hK (rwc_0 hW) rfl 13 (by decide) kl47 rfl dX11_press_89 ?_
        refine lv_iload_n hx hb dX11_press_92 rfl (lv_at hl 2 rfl) ?_
        refine fx_ild hx hb hK 0 (rwc_13 hW) rfl hc dX11_press_93 ?_
        refine lv_iconst (v := 5) hx hb dX11_press_94 (by decide) ?_
        refine lv_icmp_ne (tgt := 110) hx hb dX11_press_95 (by decide) (fun c_95 => ?_) (fun c_95 => ?_)
        · have hf_95 := hf_85.trans (if_neg c_95)
          refine lv_iconst (v := 0) hx hb dX11_press_110 (by decide) ?_
          exact gx_iret hx hb hr (by decide) hlocks hK hf_95 hW hS dX11_press_111
        · have hf_95 := hf_85.trans (if_pos c_95)
          exact J98 _ _ _ y hW hS (lv_sub hl [1, 2] rfl) hok hf_95
    have hn_27_11 := hf.trans (if_neg c_27_11)
    by_cases c_27_12 : p2 = 12
    · have hf_27_12 := hn_27_11.trans (if_pos c_27_12)
      refine gx_tab (tgt := 247) hx hb c_27_12 dX11_press_27 (by decide) (by decide) rfl (by decide) ?_
      refine lv_iload_n hx hb dX11_press_247 rfl (lv_at hl 0 rfl) ?_
      refine lv_if_eq (tgt := 264) hx hb dX11_press_248 (by decide) (fun c_248 => ?_) (fun c_248 => ?_)
      · have hf_248 := hf_27_12.trans (if_pos c_248)
        refine lv_iconst (v := 0) hx hb dX11_press_264 (by decide) ?_
        exact gx_iret hx hb hr (by decide) hlocks hK hf_248 hW hS dX11_press_265
      · have hf_248 := hf_27_12.trans (if_neg c_248)
        refine lv_aload_n hx hb dX11_press_251 rfl (lv_at hl 1 rfl) ?_
        refine lv_iload_n hx hb dX11_press_252 rfl (lv_at hl 2 rfl) ?_
        refine lv_iload_n hx hb dX11_press_253 rfl (lv_at hl 3 rfl) ?_
        refine gx_i (rest := []) ⟨hx, hb, hml, hown, hts⟩ (mX11_figure l E rr y p1 p2 hc _ _ hok) (cwV 2 hts gX11_press_X11_figure rfl rfl rfl (by decide +kernel) ⟨Nat.le_of_ble_eq_true rfl, Nat.le_of_ble_eq_true rfl⟩) hW hK (fx_recv hK (rwc_0 hW) rfl) rfl hl.1 rfl (Nat.le_of_ble_eq_true rfl) dX11_press_254 ⟨Nat.le_of_ble_eq_true rfl, Nat.le_of_ble_eq_true rfl⟩ hS (fun _ h => h) (fun u1 r1 H locs e1 e1r hW hS => ?_)
        have e1 : (fX11_figure p1 p2 y).1 = u1 := e1
        have e1r : (fX11_figure p1 p2 y).2 = r1 := e1r
        try rw [e1] at hf_248
        try rw [e1r] at hf_248
        have hk1 : okR tg (bg + 16) u1 := e1 ▸ (okX11_figure hok)
        refine lv_if_eq (tgt := 264) hx hb dX11_press_257 (by decide) (fun c_257 => ?_) (fun c_257 => ?_)
        · have hf_257 := hf_248.trans (if_pos c_257)
          refine lv_iconst (v := 0) hx hb dX11_press_264 (by decide) ?_
          exact gx_iret hx hb hr (by decide) hlocks hK hf_257 hW hS dX11_press_265
        · have hf_257 := hf_248.trans (if_neg c_257)
          refine lv_iconst (v := 1) hx hb dX11_press_260 (by decide) ?_
          refine lv_goto (tgt := 265) hx hb dX11_press_261 (by decide) ?_
          exact gx_iret hx hb hr (by decide) hlocks hK hf_257 hW hS dX11_press_265
    have hn_27_12 := hn_27_11.trans (if_neg c_27_12)
    by_cases c_27_13 : p2 = 13
    · have hf_27_13 := hn_27_12.trans (if_pos c_27_13)
      refine gx_tab (tgt := 112) hx hb c_27_13 dX11_press_27 (by decide) (by decide) rfl (by decide) ?_
      refine lv_aload_n hx hb dX11_press_112 rfl (lv_at hl 1 rfl) ?_
      refine lv_iload_n hx hb dX11_press_113 rfl (lv_at hl 2 rfl) ?_
      refine gx_i (rest := []) ⟨hx, hb, hml, hown, hts⟩ (mX11_begin l E rr y p1 hc _ _ hok) (cwV 1 hts gX11_press_X11_begin rfl rfl rfl (by decide +kernel) ⟨Nat.le_of_ble_eq_true rfl, Nat.le_of_ble_eq_true rfl⟩) hW hK (fx_recv hK (rwc_0 hW) rfl) rfl hl.1 rfl (Nat.le_of_ble_eq_true rfl) dX11_press_114 ⟨Nat.le_of_ble_eq_true rfl, Nat.le_of_ble_eq_true rfl⟩ hS (fun _ h => h) (fun u2 r2 H locs e2 e2r hW hS => ?_)
      have e2 : (fX11_begin p1 y).1 = u2 := e2
      have e2r : (fX11_begin p1 y).2 = r2 := e2r
      try rw [e2] at hf_27_13
      try rw [e2r] at hf_27_13
      have hk2 : okR tg (bg + 16) u2 := e2 ▸ (okX11_begin hc hok)
      exact gx_iret hx hb hr (nar_bo (by rw [← e2r]; exact boX11_begin)) hlocks hK hf_27_13 hW hS dX11_press_117
    have hn_27_13 := hn_27_12.trans (if_neg c_27_13)
    by_cases c_27_14 : p2 = 14
    · have hf_27_14 := hn_27_13.trans (if_pos c_27_14)
      refine gx_tab (tgt := 118) hx hb c_27_14 dX11_press_27 (by decide) (by decide) rfl (by decide) ?_
      refine lv_aload_n hx hb dX11_press_118 rfl (lv_at hl 1 rfl) ?_
      refine lv_iload_n hx hb dX11_press_119 rfl (lv_at hl 2 rfl) ?_
      refine gx_i (rest := []) ⟨hx, hb, hml, hown, hts⟩ (mX11_run l E rr y p1 hc _ _ hok) (cwV 1 hts gX11_press_X11_run rfl rfl rfl (by decide +kernel) ⟨Nat.le_of_ble_eq_true rfl, Nat.le_of_ble_eq_true rfl⟩) hW hK (fx_recv hK (rwc_0 hW) rfl) rfl hl.1 rfl (Nat.le_of_ble_eq_true rfl) dX11_press_120 ⟨Nat.le_of_ble_eq_true rfl, Nat.le_of_ble_eq_true rfl⟩ hS (fun _ h => h) (fun u3 r3 H locs e3 e3r hW hS => ?_)
      have e3 : (fX11_run p1 y).1 = u3 := e3
      have e3r : (fX11_run p1 y).2 = r3 := e3r
      try rw [e3] at hf_27_14
      try rw [e3r] at hf_27_14
      have hk3 : okR tg (bg + 15) u3 := e3 ▸ (okX11_run hc hok)
      exact gx_iret hx hb hr (nar_bo (by rw [← e3r]; exact boX11_run)) hlocks hK hf_27_14 hW hS dX11_press_123
    have hn_27_14 := hn_27_13.trans (if_neg c_27_14)
    by_cases c_27_15 : p2 = 15
    · have hf_27_15 := hn_27_14.trans (if_pos c_27_15)
      refine gx_tab (tgt := 124) hx hb c_27_15 dX11_press_27 (by decide) (by decide) rfl (by decide) ?_
      refine lv_aload_n hx hb dX11_press_124 rfl (lv_at hl 1 rfl) ?_
      refine lv_iload_n hx hb dX11_press_125 rfl (lv_at hl 2 rfl) ?_
      refine gx_i (rest := []) ⟨hx, hb, hml, hown, hts⟩ (mX11_stop l E rr y p1 hc _ _ hok) (cwV 1 hts gX11_press_X11_stop rfl rfl rfl (by decide +kernel) ⟨Nat.le_of_ble_eq_true rfl, Nat.le_of_ble_eq_true rfl⟩) hW hK (fx_recv hK (rwc_0 hW) rfl) rfl hl.1 rfl (Nat.le_of_ble_eq_true rfl) dX11_press_126 ⟨Nat.le_of_ble_eq_true rfl, Nat.le_of_ble_eq_true rfl⟩ hS (fun _ h => h) (fun u4 r4 H locs e4 e4r hW hS => ?_)
      have e4 : (fX11_stop p1 y).1 = u4 := e4
      have e4r : (fX11_stop p1 y).2 = r4 := e4r
      try rw [e4] at hf_27_15
      try rw [e4r] at hf_27_15
      have hk4 : okR tg (bg + 15) u4 := e4 ▸ (okX11_stop hc hok)
      exact gx_iret hx hb hr (nar_bo (by rw [← e4r]; exact boX11_stop)) hlocks hK hf_27_15 hW hS dX11_press_129
    have hn_27_15 := hn_27_14.trans (if_neg c_27_15)
    by_cases c_27_16 : p2 = 16
    · have hf_27_16 := hn_27_15.trans (if_pos c_27_16)
      refine gx_tab (tgt := 130) hx hb c_27_16 dX11_press_27 (by decide) (by decide) rfl (by decide) ?_
      refine lv_aload_n hx hb dX11_press_130 rfl (lv_at hl 1 rfl) ?_
      refine lv_iload_n hx hb dX11_press_131 rfl (lv_at hl 2 rfl) ?_
      refine gx_i (rest := []) ⟨hx, hb, hml, hown, hts⟩ (mX11_acknowledge l E rr y p1 hc _ _ hok) (cwV 1 hts gX11_press_X11_acknowledge rfl rfl rfl (by decide +kernel) ⟨Nat.le_of_ble_eq_true rfl, Nat.le_of_ble_eq_true rfl⟩) hW hK (fx_recv hK (rwc_0 hW) rfl) rfl hl.1 rfl (Nat.le_of_ble_eq_true rfl) dX11_press_132 ⟨Nat.le_of_ble_eq_true rfl, Nat.le_of_ble_eq_true rfl⟩ hS (fun _ h => h) (fun u5 r5 H locs e5 e5r hW hS => ?_)
      have e5 : (fX11_acknowledge p1 y).1 = u5 := e5
      have e5r : (fX11_acknowledge p1 y).2 = r5 := e5r
      try rw [e5] at hf_27_16
      try rw [e5r] at hf_27_16
      have hk5 : okR tg bg u5 := e5 ▸ (okX11_acknowledge hc hok)
      exact gx_iret hx hb hr (nar_bo (by rw [← e5r]; exact boX11_acknowledge)) hlocks hK hf_27_16 hW hS dX11_press_135
    have hn_27_16 := hn_27_15.trans (if_neg c_27_16)
    by_cases c_27_17 : p2 = 17
    · have hf_27_17 := hn_27_16.trans (if_pos c_27_17)
      refine gx_tab (tgt := 136) hx hb c_27_17 dX11_press_27 (by decide) (by decide) rfl (by decide) ?_
      refine lv_aload_n hx hb dX11_press_136 rfl (lv_at hl 1 rfl) ?_
      refine fx_get (ci := 11) (v := .ref (rr + 13)) hx hb hts i11 hown hK (rwc_0 hW) rfl 13 (by decide) kl47 rfl dX11_press_137 ?_
      refine lv_iload_n hx hb dX11_press_140 rfl (lv_at hl 2 rfl) ?_
      refine fx_ild hx hb hK 0 (rwc_13 hW) rfl hc dX11_press_141 ?_
      refine lv_iconst (v := 5) hx hb dX11_press_142 (by decide) ?_
      refine lv_icmp_eq (tgt := 148) hx hb dX11_press_143 (by decide) (fun c_143 => ?_) (fun c_143 => ?_)
      · have hf_143 := hf_27_17.trans (if_pos c_143)
        refine lv_aload_n hx hb dX11_press_148 rfl (lv_at hl 1 rfl) ?_
        refine lv_iconst (v := 2) hx hb dX11_press_149 (by decide) ?_
        refine lv_iload_n hx hb dX11_press_150 rfl (lv_at hl 2 rfl) ?_
        refine lv_aload_n hx hb dX11_press_151 rfl (lv_at hl 1 rfl) ?_
        refine fx_get (ci := 11) (v := .ref (rr + 40)) hx hb hts i11 hown hK (rwc_0 hW) rfl 40 (by decide) kl128 rfl dX11_press_152 ?_
        refine lv_iload_n hx hb dX11_press_155 rfl (lv_at hl 2 rfl) ?_
        refine fx_ild hx hb hK 0 (rwc_40 hW) rfl hc dX11_press_156 ?_
        refine gx_v (rest := []) ⟨hx, hb, hml, hown, hts⟩ (mX11_note l E rr y 2 p1 (y.1 40 p1.toNatClampNeg) _ _ hok) (cwV 3 hts gX11_press_X11_note rfl rfl rfl (by decide +kernel) ⟨Nat.le_of_ble_eq_true rfl, Nat.le_of_ble_eq_true rfl⟩) hW hK (fx_recv hK (rwc_0 hW) rfl) rfl hl.1 rfl (Nat.le_of_ble_eq_true rfl) dX11_press_157 ⟨Nat.le_of_ble_eq_true rfl, Nat.le_of_ble_eq_true rfl⟩ hS (fun _ h => h) (fun u6 H locs e6 hW hS => ?_)
        have e6 : fX11_note 2 p1 (y.1 40 p1.toNatClampNeg) y = u6 := e6
        try rw [e6] at hf_143
        have hk6 : okR tg (bg + 15) u6 := e6 ▸ (okX11_note hok)
        refine lv_aload_n hx hb dX11_press_160 rfl (lv_at hl 1 rfl) ?_
        refine lv_iload_n hx hb dX11_press_161 rfl (lv_at hl 2 rfl) ?_
        refine lv_iconst (v := 4) hx hb dX11_press_162 (by decide) ?_
        refine gx_v (rest := []) ⟨hx, hb, hml, hown, hts⟩ (mX11_go l E rr u6 p1 4 hc) (cwV 2 hts gX11_press_X11_go rfl rfl rfl (by decide +kernel) ⟨Nat.le_of_ble_eq_true rfl, Nat.le_of_ble_eq_true rfl⟩) hW hK (fx_recv hK (rwc_0 hW) rfl) rfl hl.1 rfl (Nat.le_of_ble_eq_true rfl) dX11_press_163 ⟨Nat.le_of_ble_eq_true rfl, Nat.le_of_ble_eq_true rfl⟩ hS (fun _ h => h) (fun u7 H locs e7 hW hS => ?_)
        have e7 : fX11_go p1 4 u6 = u7 := e7
        try rw [e7] at hf_143
        have hk7 : okR tg (bg + 15) u7 := e7 ▸ (okX11_go hc (fun h => absurd h (by decide)) hk6)
        refine lv_iconst (v := 1) hx hb dX11_press_166 (by decide) ?_
        exact gx_iret hx hb hr (by decide) hlocks hK hf_143 hW hS dX11_press_167
      · have hf_143 := hf_27_17.trans (if_neg c_143)
        refine lv_iconst (v := 0) hx hb dX11_press_146 (by decide) ?_
        exact gx_iret hx hb hr (by decide) hlocks hK hf_143 hW hS dX11_press_147
    have hn_27_17 := hn_27_16.trans (if_neg c_27_17)
    by_cases c_27_18 : p2 = 18
    · have hf_27_18 := hn_27_17.trans (if_pos c_27_18)
      refine gx_tab (tgt := 168) hx hb c_27_18 dX11_press_27 (by decide) (by decide) rfl (by decide) ?_
      refine lv_aload_n hx hb dX11_press_168 rfl (lv_at hl 1 rfl) ?_
      refine lv_iload_n hx hb dX11_press_169 rfl (lv_at hl 2 rfl) ?_
      refine gx_i (rest := []) ⟨hx, hb, hml, hown, hts⟩ (mX11_beginBolus l E rr y p1 hc _ _ hok) (cwV 1 hts gX11_press_X11_beginBolus rfl rfl rfl (by decide +kernel) ⟨Nat.le_of_ble_eq_true rfl, Nat.le_of_ble_eq_true rfl⟩) hW hK (fx_recv hK (rwc_0 hW) rfl) rfl hl.1 rfl (Nat.le_of_ble_eq_true rfl) dX11_press_170 ⟨Nat.le_of_ble_eq_true rfl, Nat.le_of_ble_eq_true rfl⟩ hS (fun _ h => h) (fun u8 r8 H locs e8 e8r hW hS => ?_)
      have e8 : (fX11_beginBolus p1 y).1 = u8 := e8
      have e8r : (fX11_beginBolus p1 y).2 = r8 := e8r
      try rw [e8] at hf_27_18
      try rw [e8r] at hf_27_18
      have hk8 : okR tg (bg + 15) u8 := e8 ▸ (okX11_beginBolus hok)
      exact gx_iret hx hb hr (nar_bo (by rw [← e8r]; exact boX11_beginBolus)) hlocks hK hf_27_18 hW hS dX11_press_173
    have hn_27_18 := hn_27_17.trans (if_neg c_27_18)
    by_cases c_27_19 : p2 = 19
    · have hf_27_19 := hn_27_18.trans (if_pos c_27_19)
      refine gx_tab (tgt := 174) hx hb c_27_19 dX11_press_27 (by decide) (by decide) rfl (by decide) ?_
      refine lv_aload_n hx hb dX11_press_174 rfl (lv_at hl 1 rfl) ?_
      refine lv_aload_n hx hb dX11_press_175 rfl (lv_at hl 1 rfl) ?_
      refine fx_get (ci := 11) (v := .int (y.1 0 45)) hx hb hts i11 hown hK (rwc_0 hW) rfl 45 (by decide) kl167 rfl dX11_press_176 ?_
      refine lv_bipush (v := 120) hx hb dX11_press_179 (by decide) ?_
      refine lv_iadd hx hb dX11_press_181 ?_
      refine fx_put (ci := 11) (v := .int ((y.1 0 45) + 120)) hx hb hts i11 tyX11_ok nmX11 hown hK (rwc_0 hW) (rA_o (o := 0) (by decide)) hS rfl 49 (by decide) kl265 rfl rfl rfl (Nat.le_of_ble_eq_true rfl) dX11_press_182 (fun H locs hat hne hS => ?_)
      have hW : rw_ E rr (sR y 0 49 ((y.1 0 45) + 120)) H := rwf_49 (v := (y.1 0 45) + 120) hW hat hne
      refine lv_iconst (v := 1) hx hb dX11_press_185 (by decide) ?_
      exact gx_iret hx hb hr (by decide) hlocks hK hf_27_19 hW hS dX11_press_186
    have hn_27_19 := hn_27_18.trans (if_neg c_27_19)
    by_cases c_27_20 : p2 = 20
    · have hf_27_20 := hn_27_19.trans (if_pos c_27_20)
      refine gx_tab (tgt := 187) hx hb c_27_20 dX11_press_27 (by decide) (by decide) rfl (by decide) ?_
      refine lv_aload_n hx hb dX11_press_187 rfl (lv_at hl 1 rfl) ?_
      refine lv_aload_n hx hb dX11_press_188 rfl (lv_at hl 1 rfl) ?_
      refine fx_get (ci := 11) (v := .int (y.1 0 48)) hx hb hts i11 hown hK (rwc_0 hW) rfl 48 (by decide) kl268 rfl dX11_press_189 ?_
      refine lv_iconst (v := 1) hx hb dX11_press_192 (by decide) ?_
      refine lv_iadd hx hb dX11_press_193 ?_
      refine lv_iconst (v := 3) hx hb dX11_press_194 (by decide) ?_
      refine lv_irem hx hb dX11_press_195 (by decide) ?_
      refine fx_put (ci := 11) (v := .int (((y.1 0 48) + 1) - ((y.1 0 48) + 1) / 3 * 3)) hx hb hts i11 tyX11_ok nmX11 hown hK (rwc_0 hW) (rA_o (o := 0) (by decide)) hS rfl 48 (by decide) kl268 rfl rfl rfl (Nat.le_of_ble_eq_true rfl) dX11_press_196 (fun H locs hat hne hS => ?_)
      have hW : rw_ E rr (sR y 0 48 (((y.1 0 48) + 1) - ((y.1 0 48) + 1) / 3 * 3)) H := rwf_48 (v := ((y.1 0 48) + 1) - ((y.1 0 48) + 1) / 3 * 3) hW hat hne
      refine lv_iconst (v := 1) hx hb dX11_press_199 (by decide) ?_
      exact gx_iret hx hb hr (by decide) hlocks hK hf_27_20 hW hS dX11_press_200
    have hn_27_20 := hn_27_19.trans (if_neg c_27_20)
    by_cases c_27_21 : p2 = 21
    · have hf_27_21 := hn_27_20.trans (if_pos c_27_21)
      refine gx_tab (tgt := 201) hx hb c_27_21 dX11_press_27 (by decide) (by decide) rfl (by decide) ?_
      refine lv_aload_n hx hb dX11_press_201 rfl (lv_at hl 1 rfl) ?_
      refine fx_get (ci := 11) (v := .ref (rr + 13)) hx hb hts i11 hown hK (rwc_0 hW) rfl 13 (by decide) kl47 rfl dX11_press_202 ?_
      refine lv_iload_n hx hb dX11_press_205 rfl (lv_at hl 2 rfl) ?_
      refine fx_ild hx hb hK 0 (rwc_13 hW) rfl hc dX11_press_206 ?_
      refine lv_bipush (v := 6) hx hb dX11_press_207 (by decide) ?_
      refine lv_icmp_eq (tgt := 225) hx hb dX11_press_209 (by decide) (fun c_209 => ?_) (fun c_209 => ?_)
      · have hf_209 := hf_27_21.trans (if_pos c_209)
        exact J225 _ _ _ y hW hS (lv_sub hl [1, 2] rfl) hok hf_209
      · have hf_209 := hf_27_21.trans (if_neg c_209)
        refine lv_aload_n hx hb dX11_press_212 rfl (lv_at hl 1 rfl) ?_
        refine fx_get (ci := 11) (v := .ref (rr + 13)) hx hb hts i11 hown hK (rwc_0 hW) rfl 13 (by decide) kl47 rfl dX11_press_213 ?_
        refine lv_iload_n hx hb dX11_press_216 rfl (lv_at hl 2 rfl) ?_
        refine fx_ild hx hb hK 0 (rwc_13 hW) rfl hc dX11_press_217 ?_
        refine lv_bipush (v := 8) hx hb dX11_press_218 (by decide) ?_
        refine lv_icmp_eq (tgt := 225) hx hb dX11_press_220 (by decide) (fun c_220 => ?_) (fun c_220 => ?_)
        · have hf_220 := hf_209.trans (if_pos c_220)
          exact J225 _ _ _ y hW hS (lv_sub hl [1, 2] rfl) hok hf_220
        · have hf_220 := hf_209.trans (if_neg c_220)
          refine lv_iconst (v := 0) hx hb dX11_press_223 (by decide) ?_
          exact gx_iret hx hb hr (by decide) hlocks hK hf_220 hW hS dX11_press_224
    have hn_27_21 := hn_27_20.trans (if_neg c_27_21)
    refine lv_tableOut (tgt := 247) hx hb dX11_press_27 (by have e11 := sw_ne (k := 11) 11 rfl c_27_11; have e12 := sw_ne (k := 12) 12 rfl c_27_12; have e13 := sw_ne (k := 13) 13 rfl c_27_13; have e14 := sw_ne (k := 14) 14 rfl c_27_14; have e15 := sw_ne (k := 15) 15 rfl c_27_15; have e16 := sw_ne (k := 16) 16 rfl c_27_16; have e17 := sw_ne (k := 17) 17 rfl c_27_17; have e18 := sw_ne (k := 18) 18 rfl c_27_18; have e19 := sw_ne (k := 19) 19 rfl c_27_19; have e20 := sw_ne (k := 20) 20 rfl c_27_20; have e21 := sw_ne (k := 21) 21 rfl c_27_21; omega) (by decide) ?_
    refine lv_iload_n hx hb dX11_press_247 rfl (lv_at hl 0 rfl) ?_
    refine lv_if_eq (tgt := 264) hx hb dX11_press_248 (by decide) (fun c_248 => ?_) (fun c_248 => ?_)
    · have hf_248 := hn_27_21.trans (if_pos c_248)
      refine lv_iconst (v := 0) hx hb dX11_press_264 (by decide) ?_
      exact gx_iret hx hb hr (by decide) hlocks hK hf_248 hW hS dX11_press_265
    · have hf_248 := hn_27_21.trans (if_neg c_248)
      refine lv_aload_n hx hb dX11_press_251 rfl (lv_at hl 1 rfl) ?_
      refine lv_iload_n hx hb dX11_press_252 rfl (lv_at hl 2 rfl) ?_
      refine lv_iload_n hx hb dX11_press_253 rfl (lv_at hl 3 rfl) ?_
      refine gx_i (rest := []) ⟨hx, hb, hml, hown, hts⟩ (mX11_figure l E rr y p1 p2 hc _ _ hok) (cwV 2 hts gX11_press_X11_figure rfl rfl rfl (by decide +kernel) ⟨Nat.le_of_ble_eq_true rfl, Nat.le_of_ble_eq_true rfl⟩) hW hK (fx_recv hK (rwc_0 hW) rfl) rfl hl.1 rfl (Nat.le_of_ble_eq_true rfl) dX11_press_254 ⟨Nat.le_of_ble_eq_true rfl, Nat.le_of_ble_eq_true rfl⟩ hS (fun _ h => h) (fun u9 r9 H locs e9 e9r hW hS => ?_)
      have e9 : (fX11_figure p1 p2 y).1 = u9 := e9
      have e9r : (fX11_figure p1 p2 y).2 = r9 := e9r
      try rw [e9] at hf_248
      try rw [e9r] at hf_248
      have hk9 : okR tg (bg + 16) u9 := e9 ▸ (okX11_figure hok)
      refine lv_if_eq (tgt := 264) hx hb dX11_press_257 (by decide) (fun c_257 => ?_) (fun c_257 => ?_)
      · have hf_257 := hf_248.trans (if_pos c_257)
        refine lv_iconst (v := 0) hx hb dX11_press_264 (by decide) ?_
        exact gx_iret hx hb hr (by decide) hlocks hK hf_257 hW hS dX11_press_265
      · have hf_257 := hf_248.trans (if_neg c_257)
        refine lv_iconst (v := 1) hx hb dX11_press_260 (by decide) ?_
        refine lv_goto (tgt := 265) hx hb dX11_press_261 (by decide) ?_
        exact gx_iret hx hb hr (by decide) hlocks hK hf_257 hW hS dX11_press_265
  have J24 : ∀ (H : Heap) (locs : List Loc) (ls : Array Slot) (y : RS), rw_ E rr y H → va_S (rA rr) s.heap H locs → lv_has ls 4 [(0, .ref (rr + 0)), (1, .int (p1)), (2, .int (p2))] → okR tg (bg + 16) y → fX11_press p1 p2 x = fX11_press_J24 p1 p2 y → W p l e (headSpec wsX11_press { frames := 4, cells := 0, slots := 0, locals := 89 }).room s m ([.ref (rr + 0), .int (p1), .int (p2)] : List Value).toArray below meth c H locs 0 0 (MQ below (gQi E (rw_ E rr) (fX11_press p1 p2 x) (rA rr)) ([.ref (rr + 0), .int (p1), .int (p2)] : List Value).toArray s 0 0 (rA rr)) (F0 m 24 ls []) := by
    intro H locs ls y hW hS hl hok hf
    replace hf : fX11_press p1 p2 x = (fX11_press_J25 p1 p2 y 0) := hf
    refine lv_iconst (v := 0) hx hb dX11_press_24 (by decide) ?_
    exact J25 _ _ _ y 0 hW hS (lv_sub hl [0, 1, 2] rfl) hok hf
  have hf : fX11_press p1 p2 x = (if (x.1 13 p1.toNatClampNeg) < 1 then (fX11_press_J24 p1 p2 x) else (if (4 : Int32) < (x.1 13 p1.toNatClampNeg) then (fX11_press_J24 p1 p2 x) else (fX11_press_J25 p1 p2 x 1))) := rfl
  refine lv_aload_n hx hb dX11_press_0 rfl (lv_at hl 0 rfl) ?_
  refine fx_get (ci := 11) (v := .ref (rr + 13)) hx hb hts i11 hown hK (rwc_0 hW) rfl 13 (by decide) kl47 rfl dX11_press_1 ?_
  refine lv_iload_n hx hb dX11_press_4 rfl (lv_at hl 1 rfl) ?_
  refine fx_ild hx hb hK 0 (rwc_13 hW) rfl hc dX11_press_5 ?_
  refine lv_iconst (v := 1) hx hb dX11_press_6 (by decide) ?_
  refine lv_icmp_lt (tgt := 24) hx hb dX11_press_7 (by decide) (fun c_7 => ?_) (fun c_7 => ?_)
  · have hf_7 := hf.trans (if_pos c_7)
    exact J24 _ _ _ x hW hS (lv_sub hl [0, 1, 2] rfl) hok hf_7
  · have hf_7 := hf.trans (if_neg c_7)
    refine lv_aload_n hx hb dX11_press_10 rfl (lv_at hl 0 rfl) ?_
    refine fx_get (ci := 11) (v := .ref (rr + 13)) hx hb hts i11 hown hK (rwc_0 hW) rfl 13 (by decide) kl47 rfl dX11_press_11 ?_
    refine lv_iload_n hx hb dX11_press_14 rfl (lv_at hl 1 rfl) ?_
    refine fx_ild hx hb hK 0 (rwc_13 hW) rfl hc dX11_press_15 ?_
    refine lv_iconst (v := 4) hx hb dX11_press_16 (by decide) ?_
    refine lv_icmp_gt (tgt := 24) hx hb dX11_press_17 (by decide) (fun c_17 => ?_) (fun c_17 => ?_)
    · have hf_17 := hf_7.trans (if_pos c_17)
      exact J24 _ _ _ x hW hS (lv_sub hl [0, 1, 2] rfl) hok hf_17
    · have hf_17 := hf_7.trans (if_neg c_17)
      refine lv_iconst (v := 1) hx hb dX11_press_20 (by decide) ?_
      refine lv_goto (tgt := 25) hx hb dX11_press_21 (by decide) ?_
      exact J25 _ _ _ x 1 hW hS (lv_sub hl [0, 1, 2] rfl) hok hf_17
theorem okX11_press_J225 {tg bg : Nat} {p1 : Int32} {p2 : Int32} {y : RS} (hc : vp_in p1 3) (hok : okR tg (bg + 16) y) : okR tg bg (fX11_press_J225 p1 p2 y).1 := by unfold fX11_press_J225; exact (okR_ite1 (fun c_236 => (okR_le (k := 16) (okR_sR rfl hok))) (fun c_236 => (okR_le (k := 16) (okR_sR rfl hok))))
theorem okX11_press_J98 {tg bg : Nat} {p1 : Int32} {p2 : Int32} {y : RS} (hc : vp_in p1 3) (hok : okR tg (bg + 16) y) : okR tg bg (fX11_press_J98 p1 p2 y).1 := by unfold fX11_press_J98; exact (okR_ite1 (fun c_103 => (okR_le (k := 15) (okX11_clearKey hc hok))) (fun c_103 => (okR_le (k := 15) (okX11_clearKey hc hok))))
theorem okX11_press_J25 {tg bg : Nat} {p1 : Int32} {p2 : Int32} {y : RS} {w0 : Int32} (hc : vp_in p1 3) (hok : okR tg (bg + 16) y) : okR tg bg (fX11_press_J25 p1 p2 y w0).1 := by unfold fX11_press_J25; exact (okR_ite1 (fun c_27_11 => (okR_ite1 (fun c_85 => (okR_ite1 (fun c_95 => (okX11_press_J98 hc hok)) (fun c_95 => (okR_le (k := 16) hok)))) (fun c_85 => (okX11_press_J98 hc hok)))) (fun c_27_11 => (okR_ite1 (fun c_27_12 => (okR_ite1 (fun c_248 => (okR_le (k := 16) hok)) (fun c_248 => (okR_ite1 (fun c_257 => (okR_le (k := 16) (okX11_figure hok))) (fun c_257 => (okR_le (k := 16) (okX11_figure hok))))))) (fun c_27_12 => (okR_ite1 (fun c_27_13 => (okR_le (k := 16) (okX11_begin hc hok))) (fun c_27_13 => (okR_ite1 (fun c_27_14 => (okR_le (k := 15) (okX11_run hc hok))) (fun c_27_14 => (okR_ite1 (fun c_27_15 => (okR_le (k := 15) (okX11_stop hc hok))) (fun c_27_15 => (okR_ite1 (fun c_27_16 => (okX11_acknowledge hc hok)) (fun c_27_16 => (okR_ite1 (fun c_27_17 => (okR_ite1 (fun c_143 => (okR_le (k := 15) (okX11_go hc (fun h => absurd h (by decide)) (okX11_note hok)))) (fun c_143 => (okR_le (k := 16) hok)))) (fun c_27_17 => (okR_ite1 (fun c_27_18 => (okR_le (k := 15) (okX11_beginBolus hok))) (fun c_27_18 => (okR_ite1 (fun c_27_19 => (okR_le (k := 16) (okR_sR rfl hok))) (fun c_27_19 => (okR_ite1 (fun c_27_20 => (okR_le (k := 16) (okR_s48 (vi_nx (hok).2.2.2.2.1) hok))) (fun c_27_20 => (okR_ite1 (fun c_27_21 => (okR_ite1 (fun c_209 => (okX11_press_J225 hc hok)) (fun c_209 => (okR_ite1 (fun c_220 => (okX11_press_J225 hc hok)) (fun c_220 => (okR_le (k := 16) hok)))))) (fun c_27_21 => (okR_ite1 (fun c_248 => (okR_le (k := 16) hok)) (fun c_248 => (okR_ite1 (fun c_257 => (okR_le (k := 16) (okX11_figure hok))) (fun c_257 => (okR_le (k := 16) (okX11_figure hok))))))))))))))))))))))))))))
theorem okX11_press_J24 {tg bg : Nat} {p1 : Int32} {p2 : Int32} {y : RS} (hc : vp_in p1 3) (hok : okR tg (bg + 16) y) : okR tg bg (fX11_press_J24 p1 p2 y).1 := by unfold fX11_press_J24; exact (okX11_press_J25 hc hok)
theorem okX11_press {tg bg : Nat} {p1 : Int32} {p2 : Int32} {x : RS} (hc : vp_in p1 3) (hok : okR tg (bg + 16) x) : okR tg bg (fX11_press p1 p2 x).1 := by unfold fX11_press; exact (okR_ite1 (fun c_7 => (okX11_press_J24 hc hok)) (fun c_7 => (okR_ite1 (fun c_17 => (okX11_press_J24 hc hok)) (fun c_17 => (okX11_press_J25 hc hok)))))
