/-! the reference: the rest of its face -/
def fX11_about (p1 : Int32) (x : RS) : RS × Int32 := if (fX11_isIn p1.toInt64 0 4 x) = 0 then (if p1 = 0 then (((sR x 0 0 (1)), x.1 0 45)) else if p1 = 1 then (((sR x 0 0 (1)), x.1 0 46)) else if p1 = 2 then (((sR x 0 0 (1)), x.1 0 48)) else if p1 = 3 then (if (((x.1 28 0) ||| (x.1 28 1)) ||| (x.1 28 2)) = 0 then (((sR x 0 0 (1)), 0)) else (if (x.1 0 45) < (x.1 0 49) then (((sR x 0 0 (1)), 0)) else (((sR x 0 0 (1)), 1)))) else if p1 = 4 then (((sR x 0 0 (1)), x.1 0 50)) else (((sR x 0 0 (1)), 0))) else (if p1 = 0 then (((sR x 0 0 (0)), x.1 0 45)) else if p1 = 1 then (((sR x 0 0 (0)), x.1 0 46)) else if p1 = 2 then (((sR x 0 0 (0)), x.1 0 48)) else if p1 = 3 then (if (((x.1 28 0) ||| (x.1 28 1)) ||| (x.1 28 2)) = 0 then (((sR x 0 0 (0)), 0)) else (if (x.1 0 45) < (x.1 0 49) then (((sR x 0 0 (0)), 0)) else (((sR x 0 0 (0)), 1)))) else if p1 = 4 then (((sR x 0 0 (0)), x.1 0 50)) else (((sR x 0 0 (0)), 0)))
set_option maxHeartbeats 4000000 in
set_option maxRecDepth 100000 in
theorem mX11_about (l : Launch) (E : eE) (rr : Nat) (x : RS) (p1 : Int32) (tg : Nat) (bg : Nat) (hok : okR tg bg x) : Met l yX11_about wsX11_about ({ frames := 1, cells := 0, slots := 0, locals := 25 }) (gPre E (rw_ E rr x) [.ref (rr + 0), .int (p1)]) (gQi E (rw_ E rr) (fX11_about p1 x) (rA rr)) 0 0 (rA rr) := by
  refine Met.ofW (cc := cX11_about) (maxL := 2) (ret := (some .int)) (by decide) rfl ?_
  intro p e s m args below meth c s₁ B hml hv
  obtain ⟨rfl, hW, hK⟩ := hv
  have hx := B.exec
  have hb := B.bytes
  have hr := B.returns
  have hts := atoms_spec (ws := wsX11_about) B.pre
  have hown : s.vm.findClass RX11 = some m.cls := findClass_of_methodNamed B.named
  have hlocks := B.notSynchronized
  have i11 : ∀ w ∈ wsX110, w ∈ wsX11_about := by decide +kernel
  have kl92 := hts (.fieldLink RX11 92 "DosePumpModel" "alarms" "[I") (by decide +kernel)
  have kl144 := hts (.fieldLink RX11 144 "DosePumpModel" "charge" "I") (by decide +kernel)
  have kl159 := hts (.fieldLink RX11 159 "DosePumpModel" "thrown" "I") (by decide +kernel)
  have kl164 := hts (.fieldLink RX11 164 "DosePumpModel" "entries" "I") (by decide +kernel)
  have kl167 := hts (.fieldLink RX11 167 "DosePumpModel" "time" "I") (by decide +kernel)
  have kl265 := hts (.fieldLink RX11 265 "DosePumpModel" "silentTo" "I") (by decide +kernel)
  have kl268 := hts (.fieldLink RX11 268 "DosePumpModel" "chosen" "I") (by decide +kernel)
  have hS : va_S (rA rr) s.heap s.heap [] := va_S.rf
  have hl := lv_entry ([.ref (rr + 0), .int (p1)]) (n := 2) (Nat.le_of_ble_eq_true rfl)
  rw [lg_entry_eq]
  generalize (lg_sl ([.ref (rr + 0), .int (p1)]) ++ List.replicate (2 - (lg_sl ([.ref (rr + 0), .int (p1)])).length) Slot.unset).toArray = ls at hl ⊢
  have hl : lv_has ls 2 [(0, .ref (rr + 0)), (1, .int (p1))] := hl
  have hf : fX11_about p1 x = (if (fX11_isIn p1.toInt64 0 4 x) = 0 then (if p1 = 0 then (((sR x 0 0 (1)), x.1 0 45)) else if p1 = 1 then (((sR x 0 0 (1)), x.1 0 46)) else if p1 = 2 then (((sR x 0 0 (1)), x.1 0 48)) else if p1 = 3 then (if (((x.1 28 0) ||| (x.1 28 1)) ||| (x.1 28 2)) = 0 then (((sR x 0 0 (1)), 0)) else (if (x.1 0 45) < (x.1 0 49) then (((sR x 0 0 (1)), 0)) else (((sR x 0 0 (1)), 1)))) else if p1 = 4 then (((sR x 0 0 (1)), x.1 0 50)) else (((sR x 0 0 (1)), 0))) else (if p1 = 0 then (((sR x 0 0 (0)), x.1 0 45)) else if p1 = 1 then (((sR x 0 0 (0)), x.1 0 46)) else if p1 = 2 then (((sR x 0 0 (0)), x.1 0 48)) else if p1 = 3 then (if (((x.1 28 0) ||| (x.1 28 1)) ||| (x.1 28 2)) = 0 then (((sR x 0 0 (0)), 0)) else (if (x.1 0 45) < (x.1 0 49) then (((sR x 0 0 (0)), 0)) else (((sR x 0 0 (0)), 1)))) else if p1 = 4 then (((sR x 0 0 (0)), x.1 0 50)) else (((sR x 0 0 (0)), 0)))) := rfl
  refine lv_aload_n hx hb dX11_about_0 rfl (lv_at hl 0 rfl) ?_
  refine lv_iload_n hx hb dX11_about_1 rfl (lv_at hl 1 rfl) ?_
  refine lv_i2l (v := p1.toInt64) hx hb dX11_about_2 rfl ?_
  refine lv_lconst (v := 0) hx hb dX11_about_3 (by decide) ?_
  refine lv_ldc2 hx hb hown (hts (.constantLong RX11 316 (4)) (by decide +kernel)) dX11_about_4 ?_
  refine gx_si (rest := [.ref (rr + 0)]) ⟨hx, hb, hml, hown, hts⟩ (mX11_isIn l E rr x p1.toInt64 0 4) (va_cwS 3 hts gX11_about_X11_isIn rfl rfl rfl (by decide +kernel) ⟨Nat.le_of_ble_eq_true rfl, Nat.le_of_ble_eq_true rfl⟩) hW hK rfl hl.1 rfl (Nat.le_of_ble_eq_true rfl) dX11_about_7 ⟨Nat.le_of_ble_eq_true rfl, Nat.le_of_ble_eq_true rfl⟩ hS (fun _ h => h) (fun _ r1 H locs _ e1 hW hS => ?_)
  have e1 : fX11_isIn p1.toInt64 0 4 x = r1 := e1
  try rw [e1] at hf
  refine lv_if_eq (tgt := 17) hx hb dX11_about_10 (by decide) (fun c_10 => ?_) (fun c_10 => ?_)
  · have hf_10 := hf.trans (if_pos c_10)
    refine lv_iconst (v := 1) hx hb dX11_about_17 (by decide) ?_
    refine fx_put (ci := 11) (v := .int (1)) hx hb hts i11 tyX11_ok nmX11 hown hK (rwc_0 hW) (rA_o (o := 0) (by decide)) hS rfl 0 (by decide) kl159 rfl rfl rfl (Nat.le_of_ble_eq_true rfl) dX11_about_18 (fun H locs hat hne hS => ?_)
    have hW : rw_ E rr (sR x 0 0 (1)) H := rwf_0 (v := 1) hW hat hne
    refine lv_iload_n hx hb dX11_about_21 rfl (lv_at hl 1 rfl) ?_
    by_cases c_22_0 : p1 = 0
    · have hf_22_0 := hf_10.trans (if_pos c_22_0)
      refine gx_tab (tgt := 56) hx hb c_22_0 dX11_about_22 (by decide) (by decide) rfl (by decide) ?_
      refine lv_aload_n hx hb dX11_about_56 rfl (lv_at hl 0 rfl) ?_
      refine fx_get (ci := 11) (v := .int (x.1 0 45)) hx hb hts i11 hown hK (rwc_0 hW) rfl 45 (by decide) kl167 rfl dX11_about_57 ?_
      exact gx_iret hx hb hr rfl hlocks hK hf_22_0 hW hS dX11_about_60
    have hn_22_0 := hf_10.trans (if_neg c_22_0)
    by_cases c_22_1 : p1 = 1
    · have hf_22_1 := hn_22_0.trans (if_pos c_22_1)
      refine gx_tab (tgt := 61) hx hb c_22_1 dX11_about_22 (by decide) (by decide) rfl (by decide) ?_
      refine lv_aload_n hx hb dX11_about_61 rfl (lv_at hl 0 rfl) ?_
      refine fx_get (ci := 11) (v := .int (x.1 0 46)) hx hb hts i11 hown hK (rwc_0 hW) rfl 46 (by decide) kl144 rfl dX11_about_62 ?_
      exact gx_iret hx hb hr rfl hlocks hK hf_22_1 hW hS dX11_about_65
    have hn_22_1 := hn_22_0.trans (if_neg c_22_1)
    by_cases c_22_2 : p1 = 2
    · have hf_22_2 := hn_22_1.trans (if_pos c_22_2)
      refine gx_tab (tgt := 66) hx hb c_22_2 dX11_about_22 (by decide) (by decide) rfl (by decide) ?_
      refine lv_aload_n hx hb dX11_about_66 rfl (lv_at hl 0 rfl) ?_
      refine fx_get (ci := 11) (v := .int (x.1 0 48)) hx hb hts i11 hown hK (rwc_0 hW) rfl 48 (by decide) kl268 rfl dX11_about_67 ?_
      exact gx_iret hx hb hr rfl hlocks hK hf_22_2 hW hS dX11_about_70
    have hn_22_2 := hn_22_1.trans (if_neg c_22_2)
    by_cases c_22_3 : p1 = 3
    · have hf_22_3 := hn_22_2.trans (if_pos c_22_3)
      refine gx_tab (tgt := 71) hx hb c_22_3 dX11_about_22 (by decide) (by decide) rfl (by decide) ?_
      refine lv_aload_n hx hb dX11_about_71 rfl (lv_at hl 0 rfl) ?_
      refine fx_get (ci := 11) (v := .ref (rr + 28)) hx hb hts i11 hown hK (rwc_0 hW) rfl 28 (by decide) kl92 rfl dX11_about_72 ?_
      refine lv_iconst (v := 0) hx hb dX11_about_75 (by decide) ?_
      refine fx_ild hx hb hK 0 (rwc_28 hW) rfl (by unfold vp_in; decide) dX11_about_76 ?_
      refine lv_aload_n hx hb dX11_about_77 rfl (lv_at hl 0 rfl) ?_
      refine fx_get (ci := 11) (v := .ref (rr + 28)) hx hb hts i11 hown hK (rwc_0 hW) rfl 28 (by decide) kl92 rfl dX11_about_78 ?_
      refine lv_iconst (v := 1) hx hb dX11_about_81 (by decide) ?_
      refine fx_ild hx hb hK 0 (rwc_28 hW) rfl (by unfold vp_in; decide) dX11_about_82 ?_
      refine lv_ior hx hb dX11_about_83 ?_
      refine lv_aload_n hx hb dX11_about_84 rfl (lv_at hl 0 rfl) ?_
      refine fx_get (ci := 11) (v := .ref (rr + 28)) hx hb hts i11 hown hK (rwc_0 hW) rfl 28 (by decide) kl92 rfl dX11_about_85 ?_
      refine lv_iconst (v := 2) hx hb dX11_about_88 (by decide) ?_
      refine fx_ild hx hb hK 0 (rwc_28 hW) rfl (by unfold vp_in; decide) dX11_about_89 ?_
      refine lv_ior hx hb dX11_about_90 ?_
      refine lv_if_eq (tgt := 109) hx hb dX11_about_91 (by decide) (fun c_91 => ?_) (fun c_91 => ?_)
      · have hf_91 := hf_22_3.trans (if_pos c_91)
        refine lv_iconst (v := 0) hx hb dX11_about_109 (by decide) ?_
        exact gx_iret hx hb hr rfl hlocks hK hf_91 hW hS dX11_about_110
      · have hf_91 := hf_22_3.trans (if_neg c_91)
        refine lv_aload_n hx hb dX11_about_94 rfl (lv_at hl 0 rfl) ?_
        refine fx_get (ci := 11) (v := .int (x.1 0 45)) hx hb hts i11 hown hK (rwc_0 hW) rfl 45 (by decide) kl167 rfl dX11_about_95 ?_
        refine lv_aload_n hx hb dX11_about_98 rfl (lv_at hl 0 rfl) ?_
        refine fx_get (ci := 11) (v := .int (x.1 0 49)) hx hb hts i11 hown hK (rwc_0 hW) rfl 49 (by decide) kl265 rfl dX11_about_99 ?_
        refine lv_icmp_lt (tgt := 109) hx hb dX11_about_102 (by decide) (fun c_102 => ?_) (fun c_102 => ?_)
        · have hf_102 := hf_91.trans (if_pos c_102)
          refine lv_iconst (v := 0) hx hb dX11_about_109 (by decide) ?_
          exact gx_iret hx hb hr rfl hlocks hK hf_102 hW hS dX11_about_110
        · have hf_102 := hf_91.trans (if_neg c_102)
          refine lv_iconst (v := 1) hx hb dX11_about_105 (by decide) ?_
          refine lv_goto (tgt := 110) hx hb dX11_about_106 (by decide) ?_
          exact gx_iret hx hb hr rfl hlocks hK hf_102 hW hS dX11_about_110
    have hn_22_3 := hn_22_2.trans (if_neg c_22_3)
    by_cases c_22_4 : p1 = 4
    · have hf_22_4 := hn_22_3.trans (if_pos c_22_4)
      refine gx_tab (tgt := 111) hx hb c_22_4 dX11_about_22 (by decide) (by decide) rfl (by decide) ?_
      refine lv_aload_n hx hb dX11_about_111 rfl (lv_at hl 0 rfl) ?_
      refine fx_get (ci := 11) (v := .int (x.1 0 50)) hx hb hts i11 hown hK (rwc_0 hW) rfl 50 (by decide) kl164 rfl dX11_about_112 ?_
      exact gx_iret hx hb hr rfl hlocks hK hf_22_4 hW hS dX11_about_115
    have hn_22_4 := hn_22_3.trans (if_neg c_22_4)
    refine lv_tableOut (tgt := 116) hx hb dX11_about_22 (by have e0 := sw_ne (k := 0) 0 rfl c_22_0; have e1 := sw_ne (k := 1) 1 rfl c_22_1; have e2 := sw_ne (k := 2) 2 rfl c_22_2; have e3 := sw_ne (k := 3) 3 rfl c_22_3; have e4 := sw_ne (k := 4) 4 rfl c_22_4; omega) (by decide) ?_
    refine lv_iconst (v := 0) hx hb dX11_about_116 (by decide) ?_
    exact gx_iret hx hb hr rfl hlocks hK hn_22_4 hW hS dX11_about_117
  · have hf_10 := hf.trans (if_neg c_10)
    refine lv_iconst (v := 0) hx hb dX11_about_13 (by decide) ?_
    refine lv_goto (tgt := 18) hx hb dX11_about_14 (by decide) ?_
    refine fx_put (ci := 11) (v := .int (0)) hx hb hts i11 tyX11_ok nmX11 hown hK (rwc_0 hW) (rA_o (o := 0) (by decide)) hS rfl 0 (by decide) kl159 rfl rfl rfl (Nat.le_of_ble_eq_true rfl) dX11_about_18 (fun H locs hat hne hS => ?_)
    have hW : rw_ E rr (sR x 0 0 (0)) H := rwf_0 (v := 0) hW hat hne
    refine lv_iload_n hx hb dX11_about_21 rfl (lv_at hl 1 rfl) ?_
    by_cases c_22_0 : p1 = 0
    · have hf_22_0 := hf_10.trans (if_pos c_22_0)
      refine gx_tab (tgt := 56) hx hb c_22_0 dX11_about_22 (by decide) (by decide) rfl (by decide) ?_
      refine lv_aload_n hx hb dX11_about_56 rfl (lv_at hl 0 rfl) ?_
      refine fx_get (ci := 11) (v := .int (x.1 0 45)) hx hb hts i11 hown hK (rwc_0 hW) rfl 45 (by decide) kl167 rfl dX11_about_57 ?_
      exact gx_iret hx hb hr rfl hlocks hK hf_22_0 hW hS dX11_about_60
    have hn_22_0 := hf_10.trans (if_neg c_22_0)
    by_cases c_22_1 : p1 = 1
    · have hf_22_1 := hn_22_0.trans (if_pos c_22_1)
      refine gx_tab (tgt := 61) hx hb c_22_1 dX11_about_22 (by decide) (by decide) rfl (by decide) ?_
      refine lv_aload_n hx hb dX11_about_61 rfl (lv_at hl 0 rfl) ?_
      refine fx_get (ci := 11) (v := .int (x.1 0 46)) hx hb hts i11 hown hK (rwc_0 hW) rfl 46 (by decide) kl144 rfl dX11_about_62 ?_
      exact gx_iret hx hb hr rfl hlocks hK hf_22_1 hW hS dX11_about_65
    have hn_22_1 := hn_22_0.trans (if_neg c_22_1)
    by_cases c_22_2 : p1 = 2
    · have hf_22_2 := hn_22_1.trans (if_pos c_22_2)
      refine gx_tab (tgt := 66) hx hb c_22_2 dX11_about_22 (by decide) (by decide) rfl (by decide) ?_
      refine lv_aload_n hx hb dX11_about_66 rfl (lv_at hl 0 rfl) ?_
      refine fx_get (ci := 11) (v := .int (x.1 0 48)) hx hb hts i11 hown hK (rwc_0 hW) rfl 48 (by decide) kl268 rfl dX11_about_67 ?_
      exact gx_iret hx hb hr rfl hlocks hK hf_22_2 hW hS dX11_about_70
    have hn_22_2 := hn_22_1.trans (if_neg c_22_2)
    by_cases c_22_3 : p1 = 3
    · have hf_22_3 := hn_22_2.trans (if_pos c_22_3)
      refine gx_tab (tgt := 71) hx hb c_22_3 dX11_about_22 (by decide) (by decide) rfl (by decide) ?_
      refine lv_aload_n hx hb dX11_about_71 rfl (lv_at hl 0 rfl) ?_
      refine fx_get (ci := 11) (v := .ref (rr + 28)) hx hb hts i11 hown hK (rwc_0 hW) rfl 28 (by decide) kl92 rfl dX11_about_72 ?_
      refine lv_iconst (v := 0) hx hb dX11_about_75 (by decide) ?_
      refine fx_ild hx hb hK 0 (rwc_28 hW) rfl (by unfold vp_in; decide) dX11_about_76 ?_
      refine lv_aload_n hx hb dX11_about_77 rfl (lv_at hl 0 rfl) ?_
      refine fx_get (ci := 11) (v := .ref (rr + 28)) hx hb hts i11 hown hK (rwc_0 hW) rfl 28 (by decide) kl92 rfl dX11_about_78 ?_
      refine lv_iconst (v := 1) hx hb dX11_about_81 (by decide) ?_
      refine fx_ild hx hb hK 0 (rwc_28 hW) rfl (by unfold vp_in; decide) dX11_about_82 ?_
      refine lv_ior hx hb dX11_about_83 ?_
      refine lv_aload_n hx hb dX11_about_84 rfl (lv_at hl 0 rfl) ?_
      refine fx_get (ci := 11) (v := .ref (rr + 28)) hx hb hts i11 hown hK (rwc_0 hW) rfl 28 (by decide) kl92 rfl dX11_about_85 ?_
      refine lv_iconst (v := 2) hx hb dX11_about_88 (by decide) ?_
      refine fx_ild hx hb hK 0 (rwc_28 hW) rfl (by unfold vp_in; decide) dX11_about_89 ?_
      refine lv_ior hx hb dX11_about_90 ?_
      refine lv_if_eq (tgt := 109) hx hb dX11_about_91 (by decide) (fun c_91 => ?_) (fun c_91 => ?_)
      · have hf_91 := hf_22_3.trans (if_pos c_91)
        refine lv_iconst (v := 0) hx hb dX11_about_109 (by decide) ?_
        exact gx_iret hx hb hr rfl hlocks hK hf_91 hW hS dX11_about_110
      · have hf_91 := hf_22_3.trans (if_neg c_91)
        refine lv_aload_n hx hb dX11_about_94 rfl (lv_at hl 0 rfl) ?_
        refine fx_get (ci := 11) (v := .int (x.1 0 45)) hx hb hts i11 hown hK (rwc_0 hW) rfl 45 (by decide) kl167 rfl dX11_about_95 ?_
        refine lv_aload_n hx hb dX11_about_98 rfl (lv_at hl 0 rfl) ?_
        refine fx_get (ci := 11) (v := .int (x.1 0 49)) hx hb hts i11 hown hK (rwc_0 hW) rfl 49 (by decide) kl265 rfl dX11_about_99 ?_
        refine lv_icmp_lt (tgt := 109) hx hb dX11_about_102 (by decide) (fun c_102 => ?_) (fun c_102 => ?_)
        · have hf_102 := hf_91.trans (if_pos c_102)
          refine lv_iconst (v := 0) hx hb dX11_about_109 (by decide) ?_
          exact gx_iret hx hb hr rfl hlocks hK hf_102 hW hS dX11_about_110
        · have hf_102 := hf_91.trans (if_neg c_102)
          refine lv_iconst (v := 1) hx hb dX11_about_105 (by decide) ?_
          refine lv_goto (tgt := 110) hx hb dX11_about_106 (by decide) ?_
          exact gx_iret hx hb hr rfl hlocks hK hf_102 hW hS dX11_about_110
    have hn_22_3 := hn_22_2.trans (if_neg c_22_3)
    by_cases c_22_4 : p1 = 4
    · have hf_22_4 := hn_22_3.trans (if_pos c_22_4)
      refine gx_tab (tgt := 111) hx hb c_22_4 dX11_about_22 (by decide) (by decide) rfl (by decide) ?_
      refine lv_aload_n hx hb dX11_about_111 rfl (lv_at hl 0 rfl) ?_
      refine fx_get (ci := 11) (v := .int (x.1 0 50)) hx hb hts i11 hown hK (rwc_0 hW) rfl 50 (by decide) kl164 rfl dX11_about_112 ?_
      exact gx_iret hx hb hr rfl hlocks hK hf_22_4 hW hS dX11_about_115
    have hn_22_4 := hn_22_3.trans (if_neg c_22_4)
    refine lv_tableOut (tgt := 116) hx hb dX11_about_22 (by have e0 := sw_ne (k := 0) 0 rfl c_22_0; have e1 := sw_ne (k := 1) 1 rfl c_22_1; have e2 := sw_ne (k := 2) 2 rfl c_22_2; have e3 := sw_ne (k := 3) 3 rfl c_22_3; have e4 := sw_ne (k := 4) 4 rfl c_22_4; omega) (by decide) ?_
    refine lv_iconst (v := 0) hx hb dX11_about_116 (by decide) ?_
    exact gx_iret hx hb hr rfl hlocks hK hn_22_4 hW hS dX11_about_117
theorem okX11_about {tg bg : Nat} {p1 : Int32} {x : RS} (hok : okR tg bg x) : okR tg bg (fX11_about p1 x).1 := by unfold fX11_about; exact (okR_ite1 (fun c_10 => (okR_ite1 (fun c_22_0 => (okR_sR rfl hok)) (fun c_22_0 => (okR_ite1 (fun c_22_1 => (okR_sR rfl hok)) (fun c_22_1 => (okR_ite1 (fun c_22_2 => (okR_sR rfl hok)) (fun c_22_2 => (okR_ite1 (fun c_22_3 => (okR_ite1 (fun c_91 => (okR_sR rfl hok)) (fun c_91 => (okR_ite1 (fun c_102 => (okR_sR rfl hok)) (fun c_102 => (okR_sR rfl hok)))))) (fun c_22_3 => (okR_ite1 (fun c_22_4 => (okR_sR rfl hok)) (fun c_22_4 => (okR_sR rfl hok)))))))))))) (fun c_10 => (okR_ite1 (fun c_22_0 => (okR_sR rfl hok)) (fun c_22_0 => (okR_ite1 (fun c_22_1 => (okR_sR rfl hok)) (fun c_22_1 => (okR_ite1 (fun c_22_2 => (okR_sR rfl hok)) (fun c_22_2 => (okR_ite1 (fun c_22_3 => (okR_ite1 (fun c_91 => (okR_sR rfl hok)) (fun c_91 => (okR_ite1 (fun c_102 => (okR_sR rfl hok)) (fun c_102 => (okR_sR rfl hok)))))) (fun c_22_3 => (okR_ite1 (fun c_22_4 => (okR_sR rfl hok)) (fun c_22_4 => (okR_sR rfl hok)))))))))))))

def fX11_channel (p1 : Int32) (p2 : Int32) (x : RS) : RS × Int32 := if (fX11_isIn p1.toInt64 0 2 x) = 0 then (((sR x 0 0 (1)), 0)) else (if (fX11_isIn p2.toInt64 0 14 x) = 0 then (((sR x 0 0 (1)), 0)) else (if p2 = 0 then (((sR x 0 0 (0)), x.1 13 p1.toNatClampNeg)) else if p2 = 1 then (((sR x 0 0 (0)), x.1 28 p1.toNatClampNeg)) else if p2 = 2 then (if (0 : Int32) ≤ (x.1 15 p1.toNatClampNeg) then (((sR x 0 0 (0)), x.1 16 p1.toNatClampNeg)) else (((sR x 0 0 (0)), 0))) else if p2 = 3 then (((sR x 0 0 (0)), x.1 17 p1.toNatClampNeg)) else if p2 = 4 then (((sR x 0 0 (0)), x.1 18 p1.toNatClampNeg)) else if p2 = 5 then (((sR x 0 0 (0)), x.1 19 p1.toNatClampNeg)) else if p2 = 6 then (((sR x 0 0 (0)), x.1 20 p1.toNatClampNeg)) else if p2 = 7 then (((sR x 0 0 (0)), x.1 35 p1.toNatClampNeg)) else if p2 = 8 then (((sR x 0 0 (0)), x.1 25 p1.toNatClampNeg)) else if p2 = 9 then (((sR x 0 0 (0)), x.1 27 p1.toNatClampNeg)) else if p2 = 10 then (((sR x 0 0 (0)), x.1 37 p1.toNatClampNeg)) else if p2 = 11 then (if (x.1 29 p1.toNatClampNeg) = 0 then (((sR x 0 0 (0)), 0)) else (((sR x 0 0 (0)), 1))) else if p2 = 12 then (((sR x 0 0 (0)), x.1 36 p1.toNatClampNeg)) else if p2 = 13 then (((sR x 0 0 (0)), x.1 15 p1.toNatClampNeg)) else (((sR x 0 0 (0)), x.1 31 p1.toNatClampNeg))))
set_option maxHeartbeats 4000000 in
set_option maxRecDepth 100000 in
theorem mX11_channel (l : Launch) (E : eE) (rr : Nat) (x : RS) (p1 : Int32) (p2 : Int32) (tg : Nat) (bg : Nat) (hok : okR tg bg x) : Met l yX11_channel wsX11_channel ({ frames := 1, cells := 0, slots := 0, locals := 25 }) (gPre E (rw_ E rr x) [.ref (rr + 0), .int (p1), .int (p2)]) (gQi E (rw_ E rr) (fX11_channel p1 p2 x) (rA rr)) 0 0 (rA rr) := by
  refine Met.ofW (cc := cX11_channel) (maxL := 3) (ret := (some .int)) (by decide) rfl ?_
  intro p e s m args below meth c s₁ B hml hv
  obtain ⟨rfl, hW, hK⟩ := hv
  have hx := B.exec
  have hb := B.bytes
  have hr := B.returns
  have hts := atoms_spec (ws := wsX11_channel) B.pre
  have hown : s.vm.findClass RX11 = some m.cls := findClass_of_methodNamed B.named
  have hlocks := B.notSynchronized
  have i11 : ∀ w ∈ wsX110, w ∈ wsX11_channel := by decide +kernel
  have kl47 := hts (.fieldLink RX11 47 "DosePumpModel" "phase" "[I") (by decide +kernel)
  have kl53 := hts (.fieldLink RX11 53 "DosePumpModel" "program" "[I") (by decide +kernel)
  have kl56 := hts (.fieldLink RX11 56 "DosePumpModel" "rate" "[I") (by decide +kernel)
  have kl59 := hts (.fieldLink RX11 59 "DosePumpModel" "left" "[I") (by decide +kernel)
  have kl62 := hts (.fieldLink RX11 62 "DosePumpModel" "made" "[I") (by decide +kernel)
  have kl65 := hts (.fieldLink RX11 65 "DosePumpModel" "debt" "[I") (by decide +kernel)
  have kl68 := hts (.fieldLink RX11 68 "DosePumpModel" "bolusLeft" "[I") (by decide +kernel)
  have kl83 := hts (.fieldLink RX11 83 "DosePumpModel" "pressure" "[I") (by decide +kernel)
  have kl89 := hts (.fieldLink RX11 89 "DosePumpModel" "bubble" "[I") (by decide +kernel)
  have kl92 := hts (.fieldLink RX11 92 "DosePumpModel" "alarms" "[I") (by decide +kernel)
  have kl95 := hts (.fieldLink RX11 95 "DosePumpModel" "relay" "[Z") (by decide +kernel)
  have kl101 := hts (.fieldLink RX11 101 "DosePumpModel" "all" "[I") (by decide +kernel)
  have kl113 := hts (.fieldLink RX11 113 "DosePumpModel" "inHour" "[I") (by decide +kernel)
  have kl116 := hts (.fieldLink RX11 116 "DosePumpModel" "begunInHour" "[I") (by decide +kernel)
  have kl119 := hts (.fieldLink RX11 119 "DosePumpModel" "airsNow" "[I") (by decide +kernel)
  have kl159 := hts (.fieldLink RX11 159 "DosePumpModel" "thrown" "I") (by decide +kernel)
  have hS : va_S (rA rr) s.heap s.heap [] := va_S.rf
  have hl := lv_entry ([.ref (rr + 0), .int (p1), .int (p2)]) (n := 3) (Nat.le_of_ble_eq_true rfl)
  rw [lg_entry_eq]
  generalize (lg_sl ([.ref (rr + 0), .int (p1), .int (p2)]) ++ List.replicate (3 - (lg_sl ([.ref (rr + 0), .int (p1), .int (p2)])).length) Slot.unset).toArray = ls at hl ⊢
  have hl : lv_has ls 3 [(0, .ref (rr + 0)), (1, .int (p1)), (2, .int (p2))] := hl
  have hf : fX11_channel p1 p2 x = (if (fX11_isIn p1.toInt64 0 2 x) = 0 then (((sR x 0 0 (1)), 0)) else (if (fX11_isIn p2.toInt64 0 14 x) = 0 then (((sR x 0 0 (1)), 0)) else (if p2 = 0 then (((sR x 0 0 (0)), x.1 13 p1.toNatClampNeg)) else if p2 = 1 then (((sR x 0 0 (0)), x.1 28 p1.toNatClampNeg)) else if p2 = 2 then (if (0 : Int32) ≤ (x.1 15 p1.toNatClampNeg) then (((sR x 0 0 (0)), x.1 16 p1.toNatClampNeg)) else (((sR x 0 0 (0)), 0))) else if p2 = 3 then (((sR x 0 0 (0)), x.1 17 p1.toNatClampNeg)) else if p2 = 4 then (((sR x 0 0 (0)), x.1 18 p1.toNatClampNeg)) else if p2 = 5 then (((sR x 0 0 (0)), x.1 19 p1.toNatClampNeg)) else if p2 = 6 then (((sR x 0 0 (0)), x.1 20 p1.toNatClampNeg)) else if p2 = 7 then (((sR x 0 0 (0)), x.1 35 p1.toNatClampNeg)) else if p2 = 8 then (((sR x 0 0 (0)), x.1 25 p1.toNatClampNeg)) else if p2 = 9 then (((sR x 0 0 (0)), x.1 27 p1.toNatClampNeg)) else if p2 = 10 then (((sR x 0 0 (0)), x.1 37 p1.toNatClampNeg)) else if p2 = 11 then (if (x.1 29 p1.toNatClampNeg) = 0 then (((sR x 0 0 (0)), 0)) else (((sR x 0 0 (0)), 1))) else if p2 = 12 then (((sR x 0 0 (0)), x.1 36 p1.toNatClampNeg)) else if p2 = 13 then (((sR x 0 0 (0)), x.1 15 p1.toNatClampNeg)) else (((sR x 0 0 (0)), x.1 31 p1.toNatClampNeg))))) := rfl
  refine lv_aload_n hx hb dX11_channel_0 rfl (lv_at hl 0 rfl) ?_
  refine lv_iload_n hx hb dX11_channel_1 rfl (lv_at hl 1 rfl) ?_
  refine lv_i2l (v := p1.toInt64) hx hb dX11_channel_2 rfl ?_
  refine lv_lconst (v := 0) hx hb dX11_channel_3 (by decide) ?_
  refine lv_ldc2 hx hb hown (hts (.constantLong RX11 206 (2)) (by decide +kernel)) dX11_channel_4 ?_
  refine gx_si (rest := [.ref (rr + 0)]) ⟨hx, hb, hml, hown, hts⟩ (mX11_isIn l E rr x p1.toInt64 0 2) (va_cwS 3 hts gX11_channel_X11_isIn rfl rfl rfl (by decide +kernel) ⟨Nat.le_of_ble_eq_true rfl, Nat.le_of_ble_eq_true rfl⟩) hW hK rfl hl.1 rfl (Nat.le_of_ble_eq_true rfl) dX11_channel_7 ⟨Nat.le_of_ble_eq_true rfl, Nat.le_of_ble_eq_true rfl⟩ hS (fun _ h => h) (fun _ r1 H locs _ e1 hW hS => ?_)
  have e1 : fX11_isIn p1.toInt64 0 2 x = r1 := e1
  try rw [e1] at hf
  refine lv_if_eq (tgt := 29) hx hb dX11_channel_10 (by decide) (fun c_10 => ?_) (fun c_10 => ?_)
  · have hf_10 := hf.trans (if_pos c_10)
    refine lv_iconst (v := 1) hx hb dX11_channel_29 (by decide) ?_
    refine fx_put (ci := 11) (v := .int (1)) hx hb hts i11 tyX11_ok nmX11 hown hK (rwc_0 hW) (rA_o (o := 0) (by decide)) hS rfl 0 (by decide) kl159 rfl rfl rfl (Nat.le_of_ble_eq_true rfl) dX11_channel_30 (fun H locs hat hne hS => ?_)
    have hW : rw_ E rr (sR x 0 0 (1)) H := rwf_0 (v := 1) hW hat hne
    refine lv_aload_n hx hb dX11_channel_33 rfl (lv_at hl 0 rfl) ?_
    refine fx_get (ci := 11) (v := .int (1)) hx hb hts i11 hown hK (rwc_0 hW) rfl 0 (by decide) kl159 rfl dX11_channel_34 ?_
    refine lv_if_le (tgt := 42) hx hb dX11_channel_37 (by decide) (fun c9 => absurd c9 (by decide)) (fun c9 => ?_)
    refine lv_iconst (v := 0) hx hb dX11_channel_40 (by decide) ?_
    exact gx_iret hx hb hr rfl hlocks hK hf_10 hW hS dX11_channel_41
  · have hf_10 := hf.trans (if_neg c_10)
    refine lv_iload_n hx hb dX11_channel_13 rfl (lv_at hl 2 rfl) ?_
    refine lv_i2l (v := p2.toInt64) hx hb dX11_channel_14 rfl ?_
    refine lv_lconst (v := 0) hx hb dX11_channel_15 (by decide) ?_
    refine lv_ldc2 hx hb hown (hts (.constantLong RX11 318 (14)) (by decide +kernel)) dX11_channel_16 ?_
    refine gx_si (rest := [.ref (rr + 0)]) ⟨hx, hb, hml, hown, hts⟩ (mX11_isIn l E rr x p2.toInt64 0 14) (va_cwS 3 hts gX11_channel_X11_isIn rfl rfl rfl (by decide +kernel) ⟨Nat.le_of_ble_eq_true rfl, Nat.le_of_ble_eq_true rfl⟩) hW hK rfl hl.1 rfl (Nat.le_of_ble_eq_true rfl) dX11_channel_19 ⟨Nat.le_of_ble_eq_true rfl, Nat.le_of_ble_eq_true rfl⟩ hS (fun _ h => h) (fun _ r2 H locs _ e2 hW hS => ?_)
    have e2 : fX11_isIn p2.toInt64 0 14 x = r2 := e2
    try rw [e2] at hf_10
    refine lv_if_eq (tgt := 29) hx hb dX11_channel_22 (by decide) (fun c_22 => ?_) (fun c_22 => ?_)
    · have hf_22 := hf_10.trans (if_pos c_22)
      refine lv_iconst (v := 1) hx hb dX11_channel_29 (by decide) ?_
      refine fx_put (ci := 11) (v := .int (1)) hx hb hts i11 tyX11_ok nmX11 hown hK (rwc_0 hW) (rA_o (o := 0) (by decide)) hS rfl 0 (by decide) kl159 rfl rfl rfl (Nat.le_of_ble_eq_true rfl) dX11_channel_30 (fun H locs hat hne hS => ?_)
      have hW : rw_ E rr (sR x 0 0 (1)) H := rwf_0 (v := 1) hW hat hne
      refine lv_aload_n hx hb dX11_channel_33 rfl (lv_at hl 0 rfl) ?_
      refine fx_get (ci := 11) (v := .int (1)) hx hb hts i11 hown hK (rwc_0 hW) rfl 0 (by decide) kl159 rfl dX11_channel_34 ?_
      refine lv_if_le (tgt := 42) hx hb dX11_channel_37 (by decide) (fun c9 => absurd c9 (by decide)) (fun c9 => ?_)
      refine lv_iconst (v := 0) hx hb dX11_channel_40 (by decide) ?_
      exact gx_iret hx hb hr rfl hlocks hK hf_22 hW hS dX11_channel_41
    · have hf_22 := hf_10.trans (if_neg c_22)
      refine lv_iconst (v := 0) hx hb dX11_channel_25 (by decide) ?_
      refine lv_goto (tgt := 30) hx hb dX11_channel_26 (by decide) ?_
      refine fx_put (ci := 11) (v := .int (0)) hx hb hts i11 tyX11_ok nmX11 hown hK (rwc_0 hW) (rA_o (o := 0) (by decide)) hS rfl 0 (by decide) kl159 rfl rfl rfl (Nat.le_of_ble_eq_true rfl) dX11_channel_30 (fun H locs hat hne hS => ?_)
      have hW : rw_ E rr (sR x 0 0 (0)) H := rwf_0 (v := 0) hW hat hne
      refine lv_aload_n hx hb dX11_channel_33 rfl (lv_at hl 0 rfl) ?_
      refine fx_get (ci := 11) (v := .int (0)) hx hb hts i11 hown hK (rwc_0 hW) rfl 0 (by decide) kl159 rfl dX11_channel_34 ?_
      refine lv_if_le (tgt := 42) hx hb dX11_channel_37 (by decide) (fun c9 => ?_) (fun c9 => absurd c9 (by decide))
      refine lv_iload_n hx hb dX11_channel_42 rfl (lv_at hl 2 rfl) ?_
      by_cases c_43_0 : p2 = 0
      · have hf_43_0 := hf_22.trans (if_pos c_43_0)
        refine gx_tab (tgt := 112) hx hb c_43_0 dX11_channel_43 (by decide) (by decide) rfl (by decide) ?_
        refine lv_aload_n hx hb dX11_channel_112 rfl (lv_at hl 0 rfl) ?_
        refine fx_get (ci := 11) (v := .ref (rr + 13)) hx hb hts i11 hown hK (rwc_0 hW) rfl 13 (by decide) kl47 rfl dX11_channel_113 ?_
        refine lv_iload_n hx hb dX11_channel_116 rfl (lv_at hl 1 rfl) ?_
        refine fx_ild hx hb hK 0 (rwc_13 hW) rfl (isin_in (a := p1) (c := 2) (x := x) rfl (by rw [e1]; exact c_10)) dX11_channel_117 ?_
        exact gx_iret hx hb hr rfl hlocks hK hf_43_0 hW hS dX11_channel_118
      have hn_43_0 := hf_22.trans (if_neg c_43_0)
      by_cases c_43_1 : p2 = 1
      · have hf_43_1 := hn_43_0.trans (if_pos c_43_1)
        refine gx_tab (tgt := 119) hx hb c_43_1 dX11_channel_43 (by decide) (by decide) rfl (by decide) ?_
        refine lv_aload_n hx hb dX11_channel_119 rfl (lv_at hl 0 rfl) ?_
        refine fx_get (ci := 11) (v := .ref (rr + 28)) hx hb hts i11 hown hK (rwc_0 hW) rfl 28 (by decide) kl92 rfl dX11_channel_120 ?_
        refine lv_iload_n hx hb dX11_channel_123 rfl (lv_at hl 1 rfl) ?_
        refine fx_ild hx hb hK 0 (rwc_28 hW) rfl (isin_in (a := p1) (c := 2) (x := x) rfl (by rw [e1]; exact c_10)) dX11_channel_124 ?_
        exact gx_iret hx hb hr rfl hlocks hK hf_43_1 hW hS dX11_channel_125
      have hn_43_1 := hn_43_0.trans (if_neg c_43_1)
      by_cases c_43_2 : p2 = 2
      · have hf_43_2 := hn_43_1.trans (if_pos c_43_2)
        refine gx_tab (tgt := 126) hx hb c_43_2 dX11_channel_43 (by decide) (by decide) rfl (by decide) ?_
        refine lv_aload_n hx hb dX11_channel_126 rfl (lv_at hl 0 rfl) ?_
        refine fx_get (ci := 11) (v := .ref (rr + 15)) hx hb hts i11 hown hK (rwc_0 hW) rfl 15 (by decide) kl53 rfl dX11_channel_127 ?_
        refine lv_iload_n hx hb dX11_channel_130 rfl (lv_at hl 1 rfl) ?_
        refine fx_ild hx hb hK 0 (rwc_15 hW) rfl (isin_in (a := p1) (c := 2) (x := x) rfl (by rw [e1]; exact c_10)) dX11_channel_131 ?_
        refine lv_if_ge (tgt := 139) hx hb dX11_channel_132 (by decide) (fun c_132 => ?_) (fun c_132 => ?_)
        · have hf_132 := hf_43_2.trans (if_pos c_132)
          refine lv_aload_n hx hb dX11_channel_139 rfl (lv_at hl 0 rfl) ?_
          refine fx_get (ci := 11) (v := .ref (rr + 16)) hx hb hts i11 hown hK (rwc_0 hW) rfl 16 (by decide) kl56 rfl dX11_channel_140 ?_
          refine lv_iload_n hx hb dX11_channel_143 rfl (lv_at hl 1 rfl) ?_
          refine fx_ild hx hb hK 0 (rwc_16 hW) rfl (isin_in (a := p1) (c := 2) (x := x) rfl (by rw [e1]; exact c_10)) dX11_channel_144 ?_
          exact gx_iret hx hb hr rfl hlocks hK hf_132 hW hS dX11_channel_145
        · have hf_132 := hf_43_2.trans (if_neg c_132)
          refine lv_iconst (v := 0) hx hb dX11_channel_135 (by decide) ?_
          refine lv_goto (tgt := 145) hx hb dX11_channel_136 (by decide) ?_
          exact gx_iret hx hb hr rfl hlocks hK hf_132 hW hS dX11_channel_145
      have hn_43_2 := hn_43_1.trans (if_neg c_43_2)
      by_cases c_43_3 : p2 = 3
      · have hf_43_3 := hn_43_2.trans (if_pos c_43_3)
        refine gx_tab (tgt := 146) hx hb c_43_3 dX11_channel_43 (by decide) (by decide) rfl (by decide) ?_
        refine lv_aload_n hx hb dX11_channel_146 rfl (lv_at hl 0 rfl) ?_
        refine fx_get (ci := 11) (v := .ref (rr + 17)) hx hb hts i11 hown hK (rwc_0 hW) rfl 17 (by decide) kl59 rfl dX11_channel_147 ?_
        refine lv_iload_n hx hb dX11_channel_150 rfl (lv_at hl 1 rfl) ?_
        refine fx_ild hx hb hK 0 (rwc_17 hW) rfl (isin_in (a := p1) (c := 2) (x := x) rfl (by rw [e1]; exact c_10)) dX11_channel_151 ?_
        exact gx_iret hx hb hr rfl hlocks hK hf_43_3 hW hS dX11_channel_152
      have hn_43_3 := hn_43_2.trans (if_neg c_43_3)
      by_cases c_43_4 : p2 = 4
      · have hf_43_4 := hn_43_3.trans (if_pos c_43_4)
        refine gx_tab (tgt := 153) hx hb c_43_4 dX11_channel_43 (by decide) (by decide) rfl (by decide) ?_
        refine lv_aload_n hx hb dX11_channel_153 rfl (lv_at hl 0 rfl) ?_
        refine fx_get (ci := 11) (v := .ref (rr + 18)) hx hb hts i11 hown hK (rwc_0 hW) rfl 18 (by decide) kl62 rfl dX11_channel_154 ?_
        refine lv_iload_n hx hb dX11_channel_157 rfl (lv_at hl 1 rfl) ?_
        refine fx_ild hx hb hK 0 (rwc_18 hW) rfl (isin_in (a := p1) (c := 2) (x := x) rfl (by rw [e1]; exact c_10)) dX11_channel_158 ?_
        exact gx_iret hx hb hr rfl hlocks hK hf_43_4 hW hS dX11_channel_159
      have hn_43_4 := hn_43_3.trans (if_neg c_43_4)
      by_cases c_43_5 : p2 = 5
      · have hf_43_5 := hn_43_4.trans (if_pos c_43_5)
        refine gx_tab (tgt := 160) hx hb c_43_5 dX11_channel_43 (by decide) (by decide) rfl (by decide) ?_
        refine lv_aload_n hx hb dX11_channel_160 rfl (lv_at hl 0 rfl) ?_
        refine fx_get (ci := 11) (v := .ref (rr + 19)) hx hb hts i11 hown hK (rwc_0 hW) rfl 19 (by decide) kl65 rfl dX11_channel_161 ?_
        refine lv_iload_n hx hb dX11_channel_164 rfl (lv_at hl 1 rfl) ?_
        refine fx_ild hx hb hK 0 (rwc_19 hW) rfl (isin_in (a := p1) (c := 2) (x := x) rfl (by rw [e1]; exact c_10)) dX11_channel_165 ?_
        exact gx_iret hx hb hr rfl hlocks hK hf_43_5 hW hS dX11_channel_166
      have hn_43_5 := hn_43_4.trans (if_neg c_43_5)
      by_cases c_43_6 : p2 = 6
      · have hf_43_6 := hn_43_5.trans (if_pos c_43_6)
        refine gx_tab (tgt := 167) hx hb c_43_6 dX11_channel_43 (by decide) (by decide) rfl (by decide) ?_
        refine lv_aload_n hx hb dX11_channel_167 rfl (lv_at hl 0 rfl) ?_
        refine fx_get (ci := 11) (v := .ref (rr + 20)) hx hb hts i11 hown hK (rwc_0 hW) rfl 20 (by decide) kl68 rfl dX11_channel_168 ?_
        refine lv_iload_n hx hb dX11_channel_171 rfl (lv_at hl 1 rfl) ?_
        refine fx_ild hx hb hK 0 (rwc_20 hW) rfl (isin_in (a := p1) (c := 2) (x := x) rfl (by rw [e1]; exact c_10)) dX11_channel_172 ?_
        exact gx_iret hx hb hr rfl hlocks hK hf_43_6 hW hS dX11_channel_173
      have hn_43_6 := hn_43_5.trans (if_neg c_43_6)
      by_cases c_43_7 : p2 = 7
      · have hf_43_7 := hn_43_6.trans (if_pos c_43_7)
        refine gx_tab (tgt := 174) hx hb c_43_7 dX11_channel_43 (by decide) (by decide) rfl (by decide) ?_
        refine lv_aload_n hx hb dX11_channel_174 rfl (lv_at hl 0 rfl) ?_
        refine fx_get (ci := 11) (v := .ref (rr + 35)) hx hb hts i11 hown hK (rwc_0 hW) rfl 35 (by decide) kl113 rfl dX11_channel_175 ?_
        refine lv_iload_n hx hb dX11_channel_178 rfl (lv_at hl 1 rfl) ?_
        refine fx_ild hx hb hK 0 (rwc_35 hW) rfl (isin_in (a := p1) (c := 2) (x := x) rfl (by rw [e1]; exact c_10)) dX11_channel_179 ?_
        exact gx_iret hx hb hr rfl hlocks hK hf_43_7 hW hS dX11_channel_180
      have hn_43_7 := hn_43_6.trans (if_neg c_43_7)
      by_cases c_43_8 : p2 = 8
      · have hf_43_8 := hn_43_7.trans (if_pos c_43_8)
        refine gx_tab (tgt := 181) hx hb c_43_8 dX11_channel_43 (by decide) (by decide) rfl (by decide) ?_
        refine lv_aload_n hx hb dX11_channel_181 rfl (lv_at hl 0 rfl) ?_
        refine fx_get (ci := 11) (v := .ref (rr + 25)) hx hb hts i11 hown hK (rwc_0 hW) rfl 25 (by decide) kl83 rfl dX11_channel_182 ?_
        refine lv_iload_n hx hb dX11_channel_185 rfl (lv_at hl 1 rfl) ?_
        refine fx_ild hx hb hK 0 (rwc_25 hW) rfl (isin_in (a := p1) (c := 2) (x := x) rfl (by rw [e1]; exact c_10)) dX11_channel_186 ?_
        exact gx_iret hx hb hr rfl hlocks hK hf_43_8 hW hS dX11_channel_187
      have hn_43_8 := hn_43_7.trans (if_neg c_43_8)
      by_cases c_43_9 : p2 = 9
      · have hf_43_9 := hn_43_8.trans (if_pos c_43_9)
        refine gx_tab (tgt := 188) hx hb c_43_9 dX11_channel_43 (by decide) (by decide) rfl (by decide) ?_
        refine lv_aload_n hx hb dX11_channel_188 rfl (lv_at hl 0 rfl) ?_
        refine fx_get (ci := 11) (v := .ref (rr + 27)) hx hb hts i11 hown hK (rwc_0 hW) rfl 27 (by decide) kl89 rfl dX11_channel_189 ?_
        refine lv_iload_n hx hb dX11_channel_192 rfl (lv_at hl 1 rfl) ?_
        refine fx_ild hx hb hK 0 (rwc_27 hW) rfl (isin_in (a := p1) (c := 2) (x := x) rfl (by rw [e1]; exact c_10)) dX11_channel_193 ?_
        exact gx_iret hx hb hr rfl hlocks hK hf_43_9 hW hS dX11_channel_194
      have hn_43_9 := hn_43_8.trans (if_neg c_43_9)
      by_cases c_43_10 : p2 = 10
      · have hf_43_10 := hn_43_9.trans (if_pos c_43_10)
        refine gx_tab (tgt := 195) hx hb c_43_10 dX11_channel_43 (by decide) (by decide) rfl (by decide) ?_
        refine lv_aload_n hx hb dX11_channel_195 rfl (lv_at hl 0 rfl) ?_
        refine fx_get (ci := 11) (v := .ref (rr + 37)) hx hb hts i11 hown hK (rwc_0 hW) rfl 37 (by decide) kl119 rfl dX11_channel_196 ?_
        refine lv_iload_n hx hb dX11_channel_199 rfl (lv_at hl 1 rfl) ?_
        refine fx_ild hx hb hK 0 (rwc_37 hW) rfl (isin_in (a := p1) (c := 2) (x := x) rfl (by rw [e1]; exact c_10)) dX11_channel_200 ?_
        exact gx_iret hx hb hr rfl hlocks hK hf_43_10 hW hS dX11_channel_201
      have hn_43_10 := hn_43_9.trans (if_neg c_43_10)
      by_cases c_43_11 : p2 = 11
      · have hf_43_11 := hn_43_10.trans (if_pos c_43_11)
        refine gx_tab (tgt := 202) hx hb c_43_11 dX11_channel_43 (by decide) (by decide) rfl (by decide) ?_
        refine lv_aload_n hx hb dX11_channel_202 rfl (lv_at hl 0 rfl) ?_
        refine fx_get (ci := 11) (v := .ref (rr + 29)) hx hb hts i11 hown hK (rwc_0 hW) rfl 29 (by decide) kl95 rfl dX11_channel_203 ?_
        refine lv_iload_n hx hb dX11_channel_206 rfl (lv_at hl 1 rfl) ?_
        refine fx_zld hx hb hK 1 (rwc_29 hW) rfl (isin_in (a := p1) (c := 2) (x := x) rfl (by rw [e1]; exact c_10)) dX11_channel_207 ?_
        refine lv_if_eq (tgt := 215) hx hb dX11_channel_208 (by decide) (fun c_208 => ?_) (fun c_208 => ?_)
        · have hf_208 := hf_43_11.trans (if_pos c_208)
          refine lv_iconst (v := 0) hx hb dX11_channel_215 (by decide) ?_
          exact gx_iret hx hb hr rfl hlocks hK hf_208 hW hS dX11_channel_216
        · have hf_208 := hf_43_11.trans (if_neg c_208)
          refine lv_iconst (v := 1) hx hb dX11_channel_211 (by decide) ?_
          refine lv_goto (tgt := 216) hx hb dX11_channel_212 (by decide) ?_
          exact gx_iret hx hb hr rfl hlocks hK hf_208 hW hS dX11_channel_216
      have hn_43_11 := hn_43_10.trans (if_neg c_43_11)
      by_cases c_43_12 : p2 = 12
      · have hf_43_12 := hn_43_11.trans (if_pos c_43_12)
        refine gx_tab (tgt := 217) hx hb c_43_12 dX11_channel_43 (by decide) (by decide) rfl (by decide) ?_
        refine lv_aload_n hx hb dX11_channel_217 rfl (lv_at hl 0 rfl) ?_
        refine fx_get (ci := 11) (v := .ref (rr + 36)) hx hb hts i11 hown hK (rwc_0 hW) rfl 36 (by decide) kl116 rfl dX11_channel_218 ?_
        refine lv_iload_n hx hb dX11_channel_221 rfl (lv_at hl 1 rfl) ?_
        refine fx_ild hx hb hK 0 (rwc_36 hW) rfl (isin_in (a := p1) (c := 2) (x := x) rfl (by rw [e1]; exact c_10)) dX11_channel_222 ?_
        exact gx_iret hx hb hr rfl hlocks hK hf_43_12 hW hS dX11_channel_223
      have hn_43_12 := hn_43_11.trans (if_neg c_43_12)
      by_cases c_43_13 : p2 = 13
      · have hf_43_13 := hn_43_12.trans (if_pos c_43_13)
        refine gx_tab (tgt := 224) hx hb c_43_13 dX11_channel_43 (by decide) (by decide) rfl (by decide) ?_
        refine lv_aload_n hx hb dX11_channel_224 rfl (lv_at hl 0 rfl) ?_
        refine fx_get (ci := 11) (v := .ref (rr + 15)) hx hb hts i11 hown hK (rwc_0 hW) rfl 15 (by decide) kl53 rfl dX11_channel_225 ?_
        refine lv_iload_n hx hb dX11_channel_228 rfl (lv_at hl 1 rfl) ?_
        refine fx_ild hx hb hK 0 (rwc_15 hW) rfl (isin_in (a := p1) (c := 2) (x := x) rfl (by rw [e1]; exact c_10)) dX11_channel_229 ?_
        exact gx_iret hx hb hr rfl hlocks hK hf_43_13 hW hS dX11_channel_230
      have hn_43_13 := hn_43_12.trans (if_neg c_43_13)
      refine lv_tableOut (tgt := 231) hx hb dX11_channel_43 (by have e0 := sw_ne (k := 0) 0 rfl c_43_0; have e1 := sw_ne (k := 1) 1 rfl c_43_1; have e2 := sw_ne (k := 2) 2 rfl c_43_2; have e3 := sw_ne (k := 3) 3 rfl c_43_3; have e4 := sw_ne (k := 4) 4 rfl c_43_4; have e5 := sw_ne (k := 5) 5 rfl c_43_5; have e6 := sw_ne (k := 6) 6 rfl c_43_6; have e7 := sw_ne (k := 7) 7 rfl c_43_7; have e8 := sw_ne (k := 8) 8 rfl c_43_8; have e9 := sw_ne (k := 9) 9 rfl c_43_9; have e10 := sw_ne (k := 10) 10 rfl c_43_10; have e11 := sw_ne (k := 11) 11 rfl c_43_11; have e12 := sw_ne (k := 12) 12 rfl c_43_12; have e13 := sw_ne (k := 13) 13 rfl c_43_13; omega) (by decide) ?_
      refine lv_aload_n hx hb dX11_channel_231 rfl (lv_at hl 0 rfl) ?_
      refine fx_get (ci := 11) (v := .ref (rr + 31)) hx hb hts i11 hown hK (rwc_0 hW) rfl 31 (by decide) kl101 rfl dX11_channel_232 ?_
      refine lv_iload_n hx hb dX11_channel_235 rfl (lv_at hl 1 rfl) ?_
      refine fx_ild hx hb hK 0 (rwc_31 hW) rfl (isin_in (a := p1) (c := 2) (x := x) rfl (by rw [e1]; exact c_10)) dX11_channel_236 ?_
      exact gx_iret hx hb hr rfl hlocks hK hn_43_13 hW hS dX11_channel_237
theorem okX11_channel {tg bg : Nat} {p1 : Int32} {p2 : Int32} {x : RS} (hok : okR tg bg x) : okR tg bg (fX11_channel p1 p2 x).1 := by unfold fX11_channel; exact (okR_ite1 (fun c_10 => (okR_sR rfl hok)) (fun c_10 => (okR_ite1 (fun c_22 => (okR_sR rfl hok)) (fun c_22 => (okR_ite1 (fun c_43_0 => (okR_sR rfl hok)) (fun c_43_0 => (okR_ite1 (fun c_43_1 => (okR_sR rfl hok)) (fun c_43_1 => (okR_ite1 (fun c_43_2 => (okR_ite1 (fun c_132 => (okR_sR rfl hok)) (fun c_132 => (okR_sR rfl hok)))) (fun c_43_2 => (okR_ite1 (fun c_43_3 => (okR_sR rfl hok)) (fun c_43_3 => (okR_ite1 (fun c_43_4 => (okR_sR rfl hok)) (fun c_43_4 => (okR_ite1 (fun c_43_5 => (okR_sR rfl hok)) (fun c_43_5 => (okR_ite1 (fun c_43_6 => (okR_sR rfl hok)) (fun c_43_6 => (okR_ite1 (fun c_43_7 => (okR_sR rfl hok)) (fun c_43_7 => (okR_ite1 (fun c_43_8 => (okR_sR rfl hok)) (fun c_43_8 => (okR_ite1 (fun c_43_9 => (okR_sR rfl hok)) (fun c_43_9 => (okR_ite1 (fun c_43_10 => (okR_sR rfl hok)) (fun c_43_10 => (okR_ite1 (fun c_43_11 => (okR_ite1 (fun c_208 => (okR_sR rfl hok)) (fun c_208 => (okR_sR rfl hok)))) (fun c_43_11 => (okR_ite1 (fun c_43_12 => (okR_sR rfl hok)) (fun c_43_12 => (okR_ite1 (fun c_43_13 => (okR_sR rfl hok)) (fun c_43_13 => (okR_sR rfl hok)))))))))))))))))))))))))))))))))

def fX11_entry_J93 (p1 : Int32) (y : RS) (w0 : Int32) (w1 : Int32) : RS × Int32 := (y, w1 + w0)
def fX11_entry (p1 : Int32) (x : RS) : RS × Int32 := if (fX11_isIn p1.toInt64 0 2 x) = 0 then (((sR x 0 0 (1)), 0)) else (if (fX11_isEntry (x.1 0 48) (sR x 0 0 (0))) = 0 then (((sR x 0 0 (0)), 0)) else (if p1 = 0 then (if (x.1 42 ((x.1 0 48).toNatClampNeg)) = 0 then (((sR x 0 0 (0)), 0)) else (((sR x 0 0 (0)), (fX11_number (x.1 0 48) (sR x 0 0 (0)))))) else (if p1 = 1 then (if (0 : Int32) ≤ (x.1 43 ((x.1 0 48).toNatClampNeg)) then (fX11_entry_J93 p1 (sR x 0 0 (0)) 1 (x.1 42 ((x.1 0 48).toNatClampNeg))) else (fX11_entry_J93 p1 (sR x 0 0 (0)) 0 (x.1 42 ((x.1 0 48).toNatClampNeg)))) else (((sR x 0 0 (0)), (x.1 0 45) - (x.1 44 ((x.1 0 48).toNatClampNeg)))))))
set_option maxHeartbeats 4000000 in
set_option maxRecDepth 100000 in
theorem mX11_entry (l : Launch) (E : eE) (rr : Nat) (x : RS) (p1 : Int32) (tg : Nat) (bg : Nat) (hok : okR tg bg x) : Met l yX11_entry wsX11_entry ({ frames := 2, cells := 0, slots := 0, locals := 45 }) (gPre E (rw_ E rr x) [.ref (rr + 0), .int (p1)]) (gQi E (rw_ E rr) (fX11_entry p1 x) (rA rr)) 0 0 (rA rr) := by
  refine Met.ofW (cc := cX11_entry) (maxL := 3) (ret := (some .int)) (by decide) rfl ?_
  intro p e s m args below meth c s₁ B hml hv
  obtain ⟨rfl, hW, hK⟩ := hv
  have hx := B.exec
  have hb := B.bytes
  have hr := B.returns
  have hts := atoms_spec (ws := wsX11_entry) B.pre
  have hown : s.vm.findClass RX11 = some m.cls := findClass_of_methodNamed B.named
  have hlocks := B.notSynchronized
  have i11 : ∀ w ∈ wsX110, w ∈ wsX11_entry := by decide +kernel
  have kl134 := hts (.fieldLink RX11 134 "DosePumpModel" "digits" "[I") (by decide +kernel)
  have kl137 := hts (.fieldLink RX11 137 "DosePumpModel" "points" "[I") (by decide +kernel)
  have kl140 := hts (.fieldLink RX11 140 "DosePumpModel" "pushed" "[I") (by decide +kernel)
  have kl159 := hts (.fieldLink RX11 159 "DosePumpModel" "thrown" "I") (by decide +kernel)
  have kl167 := hts (.fieldLink RX11 167 "DosePumpModel" "time" "I") (by decide +kernel)
  have kl268 := hts (.fieldLink RX11 268 "DosePumpModel" "chosen" "I") (by decide +kernel)
  have hS : va_S (rA rr) s.heap s.heap [] := va_S.rf
  have hl := lv_entry ([.ref (rr + 0), .int (p1)]) (n := 3) (Nat.le_of_ble_eq_true rfl)
  rw [lg_entry_eq]
  generalize (lg_sl ([.ref (rr + 0), .int (p1)]) ++ List.replicate (3 - (lg_sl ([.ref (rr + 0), .int (p1)])).length) Slot.unset).toArray = ls at hl ⊢
  have hl : lv_has ls 3 [(0, .ref (rr + 0)), (1, .int (p1))] := hl
  have J93 : ∀ (H : Heap) (locs : List Loc) (ls : Array Slot) (y : RS) (w0 : Int32) (w1 : Int32), rw_ E rr y H → va_S (rA rr) s.heap H locs → lv_has ls 3 [] → okR tg bg y → fX11_entry p1 x = fX11_entry_J93 p1 y w0 w1 → W p l e (headSpec wsX11_entry { frames := 2, cells := 0, slots := 0, locals := 45 }).room s m ([.ref (rr + 0), .int (p1)] : List Value).toArray below meth c H locs 0 0 (MQ below (gQi E (rw_ E rr) (fX11_entry p1 x) (rA rr)) ([.ref (rr + 0), .int (p1)] : List Value).toArray s 0 0 (rA rr)) (F0 m 93 ls [.int (w0), .int (w1)]) := by
    intro H locs ls y w0 w1 hW hS hl hok hf
    replace hf : fX11_entry p1 x = ((y, w1 + w0)) := hf
    refine lv_iadd hx hb dX11_entry_93 ?_
    refine lv_goto (tgt := 108) hx hb dX11_entry_94 (by decide) ?_
    exact gx_iret hx hb hr rfl hlocks hK hf hW hS dX11_entry_108
  have hf : fX11_entry p1 x = (if (fX11_isIn p1.toInt64 0 2 x) = 0 then (((sR x 0 0 (1)), 0)) else (if (fX11_isEntry (x.1 0 48) (sR x 0 0 (0))) = 0 then (((sR x 0 0 (0)), 0)) else (if p1 = 0 then (if (x.1 42 ((x.1 0 48).toNatClampNeg)) = 0 then (((sR x 0 0 (0)), 0)) else (((sR x 0 0 (0)), (fX11_number (x.1 0 48) (sR x 0 0 (0)))))) else (if p1 = 1 then (if (0 : Int32) ≤ (x.1 43 ((x.1 0 48).toNatClampNeg)) then (fX11_entry_J93 p1 (sR x 0 0 (0)) 1 (x.1 42 ((x.1 0 48).toNatClampNeg))) else (fX11_entry_J93 p1 (sR x 0 0 (0)) 0 (x.1 42 ((x.1 0 48).toNatClampNeg)))) else (((sR x 0 0 (0)), (x.1 0 45) - (x.1 44 ((x.1 0 48).toNatClampNeg)))))))) := rfl
  refine lv_aload_n hx hb dX11_entry_0 rfl (lv_at hl 0 rfl) ?_
  refine lv_iload_n hx hb dX11_entry_1 rfl (lv_at hl 1 rfl) ?_
  refine lv_i2l (v := p1.toInt64) hx hb dX11_entry_2 rfl ?_
  refine lv_lconst (v := 0) hx hb dX11_entry_3 (by decide) ?_
  refine lv_ldc2 hx hb hown (hts (.constantLong RX11 206 (2)) (by decide +kernel)) dX11_entry_4 ?_
  refine gx_si (rest := [.ref (rr + 0)]) ⟨hx, hb, hml, hown, hts⟩ (mX11_isIn l E rr x p1.toInt64 0 2) (va_cwS 3 hts gX11_entry_X11_isIn rfl rfl rfl (by decide +kernel) ⟨Nat.le_of_ble_eq_true rfl, Nat.le_of_ble_eq_true rfl⟩) hW hK rfl hl.1 rfl (Nat.le_of_ble_eq_true rfl) dX11_entry_7 ⟨Nat.le_of_ble_eq_true rfl, Nat.le_of_ble_eq_true rfl⟩ hS (fun _ h => h) (fun _ r1 H locs _ e1 hW hS => ?_)
  have e1 : fX11_isIn p1.toInt64 0 2 x = r1 := e1
  try rw [e1] at hf
  refine lv_if_eq (tgt := 17) hx hb dX11_entry_10 (by decide) (fun c_10 => ?_) (fun c_10 => ?_)
  · have hf_10 := hf.trans (if_pos c_10)
    refine lv_iconst (v := 1) hx hb dX11_entry_17 (by decide) ?_
    refine fx_put (ci := 11) (v := .int (1)) hx hb hts i11 tyX11_ok nmX11 hown hK (rwc_0 hW) (rA_o (o := 0) (by decide)) hS rfl 0 (by decide) kl159 rfl rfl rfl (Nat.le_of_ble_eq_true rfl) dX11_entry_18 (fun H locs hat hne hS => ?_)
    have hW : rw_ E rr (sR x 0 0 (1)) H := rwf_0 (v := 1) hW hat hne
    refine lv_aload_n hx hb dX11_entry_21 rfl (lv_at hl 0 rfl) ?_
    refine fx_get (ci := 11) (v := .int (x.1 0 48)) hx hb hts i11 hown hK (rwc_0 hW) rfl 48 (by decide) kl268 rfl dX11_entry_22 ?_
    refine lv_istore_n (lv' := [(2, .int (x.1 0 48)), (0, .ref (rr + 0)), (1, .int (p1))]) hx hb dX11_entry_25 rfl hl (by decide) rfl (fun ls hl => ?_)
    refine lv_aload_n hx hb dX11_entry_26 rfl (lv_at hl 1 rfl) ?_
    refine fx_get (ci := 11) (v := .int (1)) hx hb hts i11 hown hK (rwc_0 hW) rfl 0 (by decide) kl159 rfl dX11_entry_27 ?_
    refine lv_if_gt (tgt := 41) hx hb dX11_entry_30 (by decide) (fun c9 => ?_) (fun c9 => absurd c9 (by decide))
    refine lv_iconst (v := 0) hx hb dX11_entry_41 (by decide) ?_
    exact gx_iret hx hb hr rfl hlocks hK hf_10 hW hS dX11_entry_42
  · have hf_10 := hf.trans (if_neg c_10)
    refine lv_iconst (v := 0) hx hb dX11_entry_13 (by decide) ?_
    refine lv_goto (tgt := 18) hx hb dX11_entry_14 (by decide) ?_
    refine fx_put (ci := 11) (v := .int (0)) hx hb hts i11 tyX11_ok nmX11 hown hK (rwc_0 hW) (rA_o (o := 0) (by decide)) hS rfl 0 (by decide) kl159 rfl rfl rfl (Nat.le_of_ble_eq_true rfl) dX11_entry_18 (fun H locs hat hne hS => ?_)
    have hW : rw_ E rr (sR x 0 0 (0)) H := rwf_0 (v := 0) hW hat hne
    refine lv_aload_n hx hb dX11_entry_21 rfl (lv_at hl 0 rfl) ?_
    refine fx_get (ci := 11) (v := .int (x.1 0 48)) hx hb hts i11 hown hK (rwc_0 hW) rfl 48 (by decide) kl268 rfl dX11_entry_22 ?_
    refine lv_istore_n (lv' := [(2, .int (x.1 0 48)), (0, .ref (rr + 0)), (1, .int (p1))]) hx hb dX11_entry_25 rfl hl (by decide) rfl (fun ls hl => ?_)
    refine lv_aload_n hx hb dX11_entry_26 rfl (lv_at hl 1 rfl) ?_
    refine fx_get (ci := 11) (v := .int (0)) hx hb hts i11 hown hK (rwc_0 hW) rfl 0 (by decide) kl159 rfl dX11_entry_27 ?_
    refine lv_if_gt (tgt := 41) hx hb dX11_entry_30 (by decide) (fun c9 => absurd c9 (by decide)) (fun c9 => ?_)
    refine lv_aload_n hx hb dX11_entry_33 rfl (lv_at hl 1 rfl) ?_
    refine lv_iload_n hx hb dX11_entry_34 rfl (lv_at hl 0 rfl) ?_
    refine gx_i (rest := []) ⟨hx, hb, hml, hown, hts⟩ (mX11_isEntry l E rr (sR x 0 0 (0)) (x.1 0 48) hok.2.2.2.2.1) (cwV 1 hts gX11_entry_X11_isEntry rfl rfl rfl (by decide +kernel) ⟨Nat.le_of_ble_eq_true rfl, Nat.le_of_ble_eq_true rfl⟩) hW hK (fx_recv hK (rwc_0 hW) rfl) rfl hl.1 rfl (Nat.le_of_ble_eq_true rfl) dX11_entry_35 ⟨Nat.le_of_ble_eq_true rfl, Nat.le_of_ble_eq_true rfl⟩ hS (fun _ h => h) (fun _ r2 H locs _ e2 hW hS => ?_)
    have e2 : fX11_isEntry (x.1 0 48) (sR x 0 0 (0)) = r2 := e2
    try rw [e2] at hf_10
    refine lv_if_ne (tgt := 43) hx hb dX11_entry_38 (by decide) (fun c_38 => ?_) (fun c_38 => ?_)
    · have hf_38 := hf_10.trans (if_neg c_38)
      refine lv_iload_n hx hb dX11_entry_43 rfl (lv_at hl 2 rfl) ?_
      refine lv_if_ne (tgt := 68) hx hb dX11_entry_44 (by decide) (fun c_44 => ?_) (fun c_44 => ?_)
      · have hf_44 := hf_38.trans (if_neg c_44)
        refine lv_iload_n hx hb dX11_entry_68 rfl (lv_at hl 2 rfl) ?_
        refine lv_iconst (v := 1) hx hb dX11_entry_69 (by decide) ?_
        refine lv_icmp_ne (tgt := 97) hx hb dX11_entry_70 (by decide) (fun c_70 => ?_) (fun c_70 => ?_)
        · have hf_70 := hf_44.trans (if_neg c_70)
          refine lv_aload_n hx hb dX11_entry_97 rfl (lv_at hl 1 rfl) ?_
          refine fx_get (ci := 11) (v := .int (x.1 0 45)) hx hb hts i11 hown hK (rwc_0 hW) rfl 45 (by decide) kl167 rfl dX11_entry_98 ?_
          refine lv_aload_n hx hb dX11_entry_101 rfl (lv_at hl 1 rfl) ?_
          refine fx_get (ci := 11) (v := .ref (rr + 44)) hx hb hts i11 hown hK (rwc_0 hW) rfl 44 (by decide) kl140 rfl dX11_entry_102 ?_
          refine lv_iload_n hx hb dX11_entry_105 rfl (lv_at hl 0 rfl) ?_
          refine fx_ild hx hb hK 0 (rwc_44 hW) rfl hok.2.2.2.2.1 dX11_entry_106 ?_
          refine lv_isub hx hb dX11_entry_107 ?_
          exact gx_iret hx hb hr rfl hlocks hK hf_70 hW hS dX11_entry_108
        · have hf_70 := hf_44.trans (if_pos c_70)
          refine lv_aload_n hx hb dX11_entry_73 rfl (lv_at hl 1 rfl) ?_
          refine fx_get (ci := 11) (v := .ref (rr + 42)) hx hb hts i11 hown hK (rwc_0 hW) rfl 42 (by decide) kl134 rfl dX11_entry_74 ?_
          refine lv_iload_n hx hb dX11_entry_77 rfl (lv_at hl 0 rfl) ?_
          refine fx_ild hx hb hK 0 (rwc_42 hW) rfl hok.2.2.2.2.1 dX11_entry_78 ?_
          refine lv_aload_n hx hb dX11_entry_79 rfl (lv_at hl 1 rfl) ?_
          refine fx_get (ci := 11) (v := .ref (rr + 43)) hx hb hts i11 hown hK (rwc_0 hW) rfl 43 (by decide) kl137 rfl dX11_entry_80 ?_
          refine lv_iload_n hx hb dX11_entry_83 rfl (lv_at hl 0 rfl) ?_
          refine fx_ild hx hb hK 0 (rwc_43 hW) rfl hok.2.2.2.2.1 dX11_entry_84 ?_
          refine lv_if_ge (tgt := 92) hx hb dX11_entry_85 (by decide) (fun c_85 => ?_) (fun c_85 => ?_)
          · have hf_85 := hf_70.trans (if_pos c_85)
            refine lv_iconst (v := 1) hx hb dX11_entry_92 (by decide) ?_
            exact J93 _ _ _ (sR x 0 0 (0)) 1 (x.1 42 ((x.1 0 48).toNatClampNeg)) hW hS (lv_sub hl [] rfl) hok hf_85
          · have hf_85 := hf_70.trans (if_neg c_85)
            refine lv_iconst (v := 0) hx hb dX11_entry_88 (by decide) ?_
            refine lv_goto (tgt := 93) hx hb dX11_entry_89 (by decide) ?_
            exact J93 _ _ _ (sR x 0 0 (0)) 0 (x.1 42 ((x.1 0 48).toNatClampNeg)) hW hS (lv_sub hl [] rfl) hok hf_85
      · have hf_44 := hf_38.trans (if_pos c_44)
        refine lv_aload_n hx hb dX11_entry_47 rfl (lv_at hl 1 rfl) ?_
        refine fx_get (ci := 11) (v := .ref (rr + 42)) hx hb hts i11 hown hK (rwc_0 hW) rfl 42 (by decide) kl134 rfl dX11_entry_48 ?_
        refine lv_iload_n hx hb dX11_entry_51 rfl (lv_at hl 0 rfl) ?_
        refine fx_ild hx hb hK 0 (rwc_42 hW) rfl hok.2.2.2.2.1 dX11_entry_52 ?_
        refine lv_if_ne (tgt := 60) hx hb dX11_entry_53 (by decide) (fun c_53 => ?_) (fun c_53 => ?_)
        · have hf_53 := hf_44.trans (if_neg c_53)
          refine lv_aload_n hx hb dX11_entry_60 rfl (lv_at hl 1 rfl) ?_
          refine lv_iload_n hx hb dX11_entry_61 rfl (lv_at hl 0 rfl) ?_
          refine gx_i (rest := []) ⟨hx, hb, hml, hown, hts⟩ (mX11_number l E rr (sR x 0 0 (0)) (x.1 0 48) hok.2.2.2.2.1 _ _ hok) (cwV 1 hts gX11_entry_X11_number rfl rfl rfl (by decide +kernel) ⟨Nat.le_of_ble_eq_true rfl, Nat.le_of_ble_eq_true rfl⟩) hW hK (fx_recv hK (rwc_0 hW) rfl) rfl hl.1 rfl (Nat.le_of_ble_eq_true rfl) dX11_entry_62 ⟨Nat.le_of_ble_eq_true rfl, Nat.le_of_ble_eq_true rfl⟩ hS (fun _ h => h) (fun _ r3 H locs _ e3 hW hS => ?_)
          have e3 : fX11_number (x.1 0 48) (sR x 0 0 (0)) = r3 := e3
          try rw [e3] at hf_53
          refine lv_goto (tgt := 108) hx hb dX11_entry_65 (by decide) ?_
          exact gx_iret hx hb hr rfl hlocks hK hf_53 hW hS dX11_entry_108
        · have hf_53 := hf_44.trans (if_pos c_53)
          refine lv_iconst (v := 0) hx hb dX11_entry_56 (by decide) ?_
          refine lv_goto (tgt := 108) hx hb dX11_entry_57 (by decide) ?_
          exact gx_iret hx hb hr rfl hlocks hK hf_53 hW hS dX11_entry_108
    · have hf_38 := hf_10.trans (if_pos c_38)
      refine lv_iconst (v := 0) hx hb dX11_entry_41 (by decide) ?_
      exact gx_iret hx hb hr rfl hlocks hK hf_38 hW hS dX11_entry_42
theorem okX11_entry_J93 {tg bg : Nat} {p1 : Int32} {y : RS} {w0 : Int32} {w1 : Int32} (hok : okR tg bg y) : okR tg bg (fX11_entry_J93 p1 y w0 w1).1 := by unfold fX11_entry_J93; exact hok
theorem okX11_entry {tg bg : Nat} {p1 : Int32} {x : RS} (hok : okR tg bg x) : okR tg bg (fX11_entry p1 x).1 := by unfold fX11_entry; exact (okR_ite1 (fun c_10 => (okR_sR rfl hok)) (fun c_10 => (okR_ite1 (fun c_38 => (okR_sR rfl hok)) (fun c_38 => (okR_ite1 (fun c_44 => (okR_ite1 (fun c_53 => (okR_sR rfl hok)) (fun c_53 => (okR_sR rfl hok)))) (fun c_44 => (okR_ite1 (fun c_70 => (okR_ite1 (fun c_85 => (okX11_entry_J93 (okR_sR rfl hok))) (fun c_85 => (okX11_entry_J93 (okR_sR rfl hok))))) (fun c_70 => (okR_sR rfl hok)))))))))

def fX11_rate (p1 : Int32) (p2 : Int32) (p3 : Int32) (x : RS) : RS × Int32 := if (fX11_isDrug p1 x) = 0 then (((sR x 0 0 (1)), 0)) else (if (fX11_isIn p2.toInt64 1 99999 x) = 0 then (((sR x 0 0 (2)), 0)) else (if (fX11_isIn p3.toInt64 5 3000 x) = 0 then (((sR x 0 0 (2)), 0)) else (((sR x 0 0 (0)), (fX11_whole (fX11_rateOf p1 p2 p3 (sR x 0 0 (0))) (sR x 0 0 (0)))))))
set_option maxHeartbeats 4000000 in
set_option maxRecDepth 100000 in
theorem mX11_rate (l : Launch) (E : eE) (rr : Nat) (x : RS) (p1 : Int32) (p2 : Int32) (p3 : Int32) (hs : okS x) (tg : Nat) (bg : Nat) (hok : okR tg bg x) : Met l yX11_rate wsX11_rate ({ frames := 2, cells := 0, slots := 0, locals := 46 }) (gPre E (rw_ E rr x) [.ref (rr + 0), .int (p1), .int (p2), .int (p3)]) (gQi E (rw_ E rr) (fX11_rate p1 p2 p3 x) (rA rr)) 0 0 (rA rr) := by
  refine Met.ofW (cc := cX11_rate) (maxL := 4) (ret := (some .int)) (by decide) rfl ?_
  intro p e s m args below meth c s₁ B hml hv
  obtain ⟨rfl, hW, hK⟩ := hv
  have hx := B.exec
  have hb := B.bytes
  have hr := B.returns
  have hts := atoms_spec (ws := wsX11_rate) B.pre
  have hown : s.vm.findClass RX11 = some m.cls := findClass_of_methodNamed B.named
  have hlocks := B.notSynchronized
  have i11 : ∀ w ∈ wsX110, w ∈ wsX11_rate := by decide +kernel
  have kl159 := hts (.fieldLink RX11 159 "DosePumpModel" "thrown" "I") (by decide +kernel)
  have hS : va_S (rA rr) s.heap s.heap [] := va_S.rf
  have hl := lv_entry ([.ref (rr + 0), .int (p1), .int (p2), .int (p3)]) (n := 4) (Nat.le_of_ble_eq_true rfl)
  rw [lg_entry_eq]
  generalize (lg_sl ([.ref (rr + 0), .int (p1), .int (p2), .int (p3)]) ++ List.replicate (4 - (lg_sl ([.ref (rr + 0), .int (p1), .int (p2), .int (p3)])).length) Slot.unset).toArray = ls at hl ⊢
  have hl : lv_has ls 4 [(0, .ref (rr + 0)), (1, .int (p1)), (2, .int (p2)), (3, .int (p3))] := hl
  have hf : fX11_rate p1 p2 p3 x = (if (fX11_isDrug p1 x) = 0 then (((sR x 0 0 (1)), 0)) else (if (fX11_isIn p2.toInt64 1 99999 x) = 0 then (((sR x 0 0 (2)), 0)) else (if (fX11_isIn p3.toInt64 5 3000 x) = 0 then (((sR x 0 0 (2)), 0)) else (((sR x 0 0 (0)), (fX11_whole (fX11_rateOf p1 p2 p3 (sR x 0 0 (0))) (sR x 0 0 (0)))))))) := rfl
  refine lv_aload_n hx hb dX11_rate_0 rfl (lv_at hl 0 rfl) ?_
  refine lv_aload_n hx hb dX11_rate_1 rfl (lv_at hl 0 rfl) ?_
  refine lv_iload_n hx hb dX11_rate_2 rfl (lv_at hl 1 rfl) ?_
  refine gx_i (rest := [.ref (rr + 0)]) ⟨hx, hb, hml, hown, hts⟩ (mX11_isDrug l E rr x p1) (cwV 1 hts gX11_rate_X11_isDrug rfl rfl rfl (by decide +kernel) ⟨Nat.le_of_ble_eq_true rfl, Nat.le_of_ble_eq_true rfl⟩) hW hK (fx_recv hK (rwc_0 hW) rfl) rfl hl.1 rfl (Nat.le_of_ble_eq_true rfl) dX11_rate_3 ⟨Nat.le_of_ble_eq_true rfl, Nat.le_of_ble_eq_true rfl⟩ hS (fun _ h => h) (fun _ r1 H locs _ e1 hW hS => ?_)
  have e1 : fX11_isDrug p1 x = r1 := e1
  try rw [e1] at hf
  refine lv_if_ne (tgt := 13) hx hb dX11_rate_6 (by decide) (fun c_6 => ?_) (fun c_6 => ?_)
  · have hf_6 := hf.trans (if_neg c_6)
    refine lv_iload_n hx hb dX11_rate_13 rfl (lv_at hl 2 rfl) ?_
    refine lv_i2l (v := p2.toInt64) hx hb dX11_rate_14 rfl ?_
    refine lv_lconst (v := 1) hx hb dX11_rate_15 (by decide) ?_
    refine lv_ldc2 hx hb hown (hts (.constantLong RX11 180 (99999)) (by decide +kernel)) dX11_rate_16 ?_
    refine gx_si (rest := [.ref (rr + 0)]) ⟨hx, hb, hml, hown, hts⟩ (mX11_isIn l E rr x p2.toInt64 1 99999) (va_cwS 3 hts gX11_rate_X11_isIn rfl rfl rfl (by decide +kernel) ⟨Nat.le_of_ble_eq_true rfl, Nat.le_of_ble_eq_true rfl⟩) hW hK rfl hl.1 rfl (Nat.le_of_ble_eq_true rfl) dX11_rate_19 ⟨Nat.le_of_ble_eq_true rfl, Nat.le_of_ble_eq_true rfl⟩ hS (fun _ h => h) (fun _ r2 H locs _ e2 hW hS => ?_)
    have e2 : fX11_isIn p2.toInt64 1 99999 x = r2 := e2
    try rw [e2] at hf_6
    refine lv_if_eq (tgt := 39) hx hb dX11_rate_22 (by decide) (fun c_22 => ?_) (fun c_22 => ?_)
    · have hf_22 := hf_6.trans (if_pos c_22)
      refine lv_iconst (v := 2) hx hb dX11_rate_39 (by decide) ?_
      refine lv_goto (tgt := 44) hx hb dX11_rate_40 (by decide) ?_
      refine fx_put (ci := 11) (v := .int (2)) hx hb hts i11 tyX11_ok nmX11 hown hK (rwc_0 hW) (rA_o (o := 0) (by decide)) hS rfl 0 (by decide) kl159 rfl rfl rfl (Nat.le_of_ble_eq_true rfl) dX11_rate_44 (fun H locs hat hne hS => ?_)
      have hW : rw_ E rr (sR x 0 0 (2)) H := rwf_0 (v := 2) hW hat hne
      refine lv_aload_n hx hb dX11_rate_47 rfl (lv_at hl 0 rfl) ?_
      refine fx_get (ci := 11) (v := .int (2)) hx hb hts i11 hown hK (rwc_0 hW) rfl 0 (by decide) kl159 rfl dX11_rate_48 ?_
      refine lv_if_le (tgt := 58) hx hb dX11_rate_51 (by decide) (fun c9 => absurd c9 (by decide)) (fun c9 => ?_)
      refine lv_iconst (v := 0) hx hb dX11_rate_54 (by decide) ?_
      refine lv_goto (tgt := 68) hx hb dX11_rate_55 (by decide) ?_
      exact gx_iret hx hb hr rfl hlocks hK hf_22 hW hS dX11_rate_68
    · have hf_22 := hf_6.trans (if_neg c_22)
      refine lv_iload_n hx hb dX11_rate_25 rfl (lv_at hl 3 rfl) ?_
      refine lv_i2l (v := p3.toInt64) hx hb dX11_rate_26 rfl ?_
      refine lv_ldc2 hx hb hown (hts (.constantLong RX11 204 (5)) (by decide +kernel)) dX11_rate_27 ?_
      refine lv_ldc2 hx hb hown (hts (.constantLong RX11 229 (3000)) (by decide +kernel)) dX11_rate_30 ?_
      refine gx_si (rest := [.ref (rr + 0)]) ⟨hx, hb, hml, hown, hts⟩ (mX11_isIn l E rr x p3.toInt64 5 3000) (va_cwS 3 hts gX11_rate_X11_isIn rfl rfl rfl (by decide +kernel) ⟨Nat.le_of_ble_eq_true rfl, Nat.le_of_ble_eq_true rfl⟩) hW hK rfl hl.1 rfl (Nat.le_of_ble_eq_true rfl) dX11_rate_33 ⟨Nat.le_of_ble_eq_true rfl, Nat.le_of_ble_eq_true rfl⟩ hS (fun _ h => h) (fun _ r3 H locs _ e3 hW hS => ?_)
      have e3 : fX11_isIn p3.toInt64 5 3000 x = r3 := e3
      try rw [e3] at hf_22
      refine lv_if_ne (tgt := 43) hx hb dX11_rate_36 (by decide) (fun c_36 => ?_) (fun c_36 => ?_)
      · have hf_36 := hf_22.trans (if_neg c_36)
        refine lv_iconst (v := 0) hx hb dX11_rate_43 (by decide) ?_
        refine fx_put (ci := 11) (v := .int (0)) hx hb hts i11 tyX11_ok nmX11 hown hK (rwc_0 hW) (rA_o (o := 0) (by decide)) hS rfl 0 (by decide) kl159 rfl rfl rfl (Nat.le_of_ble_eq_true rfl) dX11_rate_44 (fun H locs hat hne hS => ?_)
        have hW : rw_ E rr (sR x 0 0 (0)) H := rwf_0 (v := 0) hW hat hne
        refine lv_aload_n hx hb dX11_rate_47 rfl (lv_at hl 0 rfl) ?_
        refine fx_get (ci := 11) (v := .int (0)) hx hb hts i11 hown hK (rwc_0 hW) rfl 0 (by decide) kl159 rfl dX11_rate_48 ?_
        refine lv_if_le (tgt := 58) hx hb dX11_rate_51 (by decide) (fun c9 => ?_) (fun c9 => absurd c9 (by decide))
        refine lv_aload_n hx hb dX11_rate_58 rfl (lv_at hl 0 rfl) ?_
        refine lv_iload_n hx hb dX11_rate_59 rfl (lv_at hl 1 rfl) ?_
        refine lv_iload_n hx hb dX11_rate_60 rfl (lv_at hl 2 rfl) ?_
        refine lv_iload_n hx hb dX11_rate_61 rfl (lv_at hl 3 rfl) ?_
        refine gx_l (rest := []) ⟨hx, hb, hml, hown, hts⟩ (mX11_rateOf l E rr (sR x 0 0 (0)) p1 p2 p3 (isdrug_in (p1 := p1) (x := x) (by rw [e1]; exact c_6)) hs) (cwV 3 hts gX11_rate_X11_rateOf rfl rfl rfl (by decide +kernel) ⟨Nat.le_of_ble_eq_true rfl, Nat.le_of_ble_eq_true rfl⟩) hW hK (fx_recv hK (rwc_0 hW) rfl) rfl hl.1 rfl (Nat.le_of_ble_eq_true rfl) dX11_rate_62 ⟨Nat.le_of_ble_eq_true rfl, Nat.le_of_ble_eq_true rfl⟩ hS (fun _ h => h) (fun _ r4 H locs _ e4 hW hS => ?_)
        have e4 : fX11_rateOf p1 p2 p3 (sR x 0 0 (0)) = r4 := e4
        try rw [e4] at hf_36
        refine gx_si (rest := []) ⟨hx, hb, hml, hown, hts⟩ (mX11_whole l E rr (sR x 0 0 (0)) r4) (va_cwS 1 hts gX11_rate_X11_whole rfl rfl rfl (by decide +kernel) ⟨Nat.le_of_ble_eq_true rfl, Nat.le_of_ble_eq_true rfl⟩) hW hK rfl hl.1 rfl (Nat.le_of_ble_eq_true rfl) dX11_rate_65 ⟨Nat.le_of_ble_eq_true rfl, Nat.le_of_ble_eq_true rfl⟩ hS (fun _ h => h) (fun _ r5 H locs _ e5 hW hS => ?_)
        have e5 : fX11_whole r4 (sR x 0 0 (0)) = r5 := e5
        try rw [e5] at hf_36
        exact gx_iret hx hb hr rfl hlocks hK hf_36 hW hS dX11_rate_68
      · have hf_36 := hf_22.trans (if_pos c_36)
        refine lv_iconst (v := 2) hx hb dX11_rate_39 (by decide) ?_
        refine lv_goto (tgt := 44) hx hb dX11_rate_40 (by decide) ?_
        refine fx_put (ci := 11) (v := .int (2)) hx hb hts i11 tyX11_ok nmX11 hown hK (rwc_0 hW) (rA_o (o := 0) (by decide)) hS rfl 0 (by decide) kl159 rfl rfl rfl (Nat.le_of_ble_eq_true rfl) dX11_rate_44 (fun H locs hat hne hS => ?_)
        have hW : rw_ E rr (sR x 0 0 (2)) H := rwf_0 (v := 2) hW hat hne
        refine lv_aload_n hx hb dX11_rate_47 rfl (lv_at hl 0 rfl) ?_
        refine fx_get (ci := 11) (v := .int (2)) hx hb hts i11 hown hK (rwc_0 hW) rfl 0 (by decide) kl159 rfl dX11_rate_48 ?_
        refine lv_if_le (tgt := 58) hx hb dX11_rate_51 (by decide) (fun c9 => absurd c9 (by decide)) (fun c9 => ?_)
        refine lv_iconst (v := 0) hx hb dX11_rate_54 (by decide) ?_
        refine lv_goto (tgt := 68) hx hb dX11_rate_55 (by decide) ?_
        exact gx_iret hx hb hr rfl hlocks hK hf_36 hW hS dX11_rate_68
  · have hf_6 := hf.trans (if_pos c_6)
    refine lv_iconst (v := 1) hx hb dX11_rate_9 (by decide) ?_
    refine lv_goto (tgt := 44) hx hb dX11_rate_10 (by decide) ?_
    refine fx_put (ci := 11) (v := .int (1)) hx hb hts i11 tyX11_ok nmX11 hown hK (rwc_0 hW) (rA_o (o := 0) (by decide)) hS rfl 0 (by decide) kl159 rfl rfl rfl (Nat.le_of_ble_eq_true rfl) dX11_rate_44 (fun H locs hat hne hS => ?_)
    have hW : rw_ E rr (sR x 0 0 (1)) H := rwf_0 (v := 1) hW hat hne
    refine lv_aload_n hx hb dX11_rate_47 rfl (lv_at hl 0 rfl) ?_
    refine fx_get (ci := 11) (v := .int (1)) hx hb hts i11 hown hK (rwc_0 hW) rfl 0 (by decide) kl159 rfl dX11_rate_48 ?_
    refine lv_if_le (tgt := 58) hx hb dX11_rate_51 (by decide) (fun c9 => absurd c9 (by decide)) (fun c9 => ?_)
    refine lv_iconst (v := 0) hx hb dX11_rate_54 (by decide) ?_
    refine lv_goto (tgt := 68) hx hb dX11_rate_55 (by decide) ?_
    exact gx_iret hx hb hr rfl hlocks hK hf_6 hW hS dX11_rate_68
theorem okX11_rate {tg bg : Nat} {p1 : Int32} {p2 : Int32} {p3 : Int32} {x : RS} (hok : okR tg bg x) : okR tg bg (fX11_rate p1 p2 p3 x).1 := by unfold fX11_rate; exact (okR_ite1 (fun c_6 => (okR_sR rfl hok)) (fun c_6 => (okR_ite1 (fun c_22 => (okR_sR rfl hok)) (fun c_22 => (okR_ite1 (fun c_36 => (okR_sR rfl hok)) (fun c_36 => (okR_sR rfl hok)))))))

def fX11_log (p1 : Int32) (p2 : Int32) (x : RS) : RS × Int32 := if (fX11_isIn p1.toInt64 (fX11_most 0 ((x.1 0 50) - 64) x).toInt64 (((x.1 0 50) - 1).toInt64) x) = 0 then (((sR x 0 0 (1)), 0)) else (if (fX11_isIn p2.toInt64 0 3 x) = 0 then (((sR x 0 0 (1)), 0)) else (((sR x 0 0 (0)), x.1 45 ((((4 : Int32) * (p1 - p1 / 64 * 64)) + p2).toNatClampNeg))))
set_option maxHeartbeats 4000000 in
set_option maxRecDepth 100000 in
theorem mX11_log (l : Launch) (E : eE) (rr : Nat) (x : RS) (p1 : Int32) (p2 : Int32) (tg : Nat) (bg : Nat) (hok : okR tg bg x) : Met l yX11_log wsX11_log ({ frames := 1, cells := 0, slots := 0, locals := 25 }) (gPre E (rw_ E rr x) [.ref (rr + 0), .int (p1), .int (p2)]) (gQi E (rw_ E rr) (fX11_log p1 p2 x) (rA rr)) 0 0 (rA rr) := by
  refine Met.ofW (cc := cX11_log) (maxL := 3) (ret := (some .int)) (by decide) rfl ?_
  intro p e s m args below meth c s₁ B hml hv
  obtain ⟨rfl, hW, hK⟩ := hv
  have hx := B.exec
  have hb := B.bytes
  have hr := B.returns
  have hts := atoms_spec (ws := wsX11_log) B.pre
  have hown : s.vm.findClass RX11 = some m.cls := findClass_of_methodNamed B.named
  have hlocks := B.notSynchronized
  have i11 : ∀ w ∈ wsX110, w ∈ wsX11_log := by decide +kernel
  have kl152 := hts (.fieldLink RX11 152 "DosePumpModel" "log" "[I") (by decide +kernel)
  have kl159 := hts (.fieldLink RX11 159 "DosePumpModel" "thrown" "I") (by decide +kernel)
  have kl164 := hts (.fieldLink RX11 164 "DosePumpModel" "entries" "I") (by decide +kernel)
  have hS : va_S (rA rr) s.heap s.heap [] := va_S.rf
  have hl := lv_entry ([.ref (rr + 0), .int (p1), .int (p2)]) (n := 3) (Nat.le_of_ble_eq_true rfl)
  rw [lg_entry_eq]
  generalize (lg_sl ([.ref (rr + 0), .int (p1), .int (p2)]) ++ List.replicate (3 - (lg_sl ([.ref (rr + 0), .int (p1), .int (p2)])).length) Slot.unset).toArray = ls at hl ⊢
  have hl : lv_has ls 3 [(0, .ref (rr + 0)), (1, .int (p1)), (2, .int (p2))] := hl
  have hf : fX11_log p1 p2 x = (if (fX11_isIn p1.toInt64 (fX11_most 0 ((x.1 0 50) - 64) x).toInt64 (((x.1 0 50) - 1).toInt64) x) = 0 then (((sR x 0 0 (1)), 0)) else (if (fX11_isIn p2.toInt64 0 3 x) = 0 then (((sR x 0 0 (1)), 0)) else (((sR x 0 0 (0)), x.1 45 ((((4 : Int32) * (p1 - p1 / 64 * 64)) + p2).toNatClampNeg))))) := rfl
  refine lv_aload_n hx hb dX11_log_0 rfl (lv_at hl 0 rfl) ?_
  refine lv_iload_n hx hb dX11_log_1 rfl (lv_at hl 1 rfl) ?_
  refine lv_i2l (v := p1.toInt64) hx hb dX11_log_2 rfl ?_
  refine lv_iconst (v := 0) hx hb dX11_log_3 (by decide) ?_
  refine lv_aload_n hx hb dX11_log_4 rfl (lv_at hl 0 rfl) ?_
  refine fx_get (ci := 11) (v := .int (x.1 0 50)) hx hb hts i11 hown hK (rwc_0 hW) rfl 50 (by decide) kl164 rfl dX11_log_5 ?_
  refine lv_bipush (v := 64) hx hb dX11_log_8 (by decide) ?_
  refine lv_isub hx hb dX11_log_10 ?_
  refine gx_si (rest := [.long (p1.toInt64), .ref (rr + 0)]) ⟨hx, hb, hml, hown, hts⟩ (mX11_most l E rr x 0 ((x.1 0 50) - 64)) (va_cwS 2 hts gX11_log_X11_most rfl rfl rfl (by decide +kernel) ⟨Nat.le_of_ble_eq_true rfl, Nat.le_of_ble_eq_true rfl⟩) hW hK rfl hl.1 rfl (Nat.le_of_ble_eq_true rfl) dX11_log_11 ⟨Nat.le_of_ble_eq_true rfl, Nat.le_of_ble_eq_true rfl⟩ hS (fun _ h => h) (fun _ r1 H locs _ e1 hW hS => ?_)
  have e1 : fX11_most 0 ((x.1 0 50) - 64) x = r1 := e1
  try rw [e1] at hf
  refine lv_i2l (v := r1.toInt64) hx hb dX11_log_14 rfl ?_
  refine lv_aload_n hx hb dX11_log_15 rfl (lv_at hl 0 rfl) ?_
  refine fx_get (ci := 11) (v := .int (x.1 0 50)) hx hb hts i11 hown hK (rwc_0 hW) rfl 50 (by decide) kl164 rfl dX11_log_16 ?_
  refine lv_iconst (v := 1) hx hb dX11_log_19 (by decide) ?_
  refine lv_isub hx hb dX11_log_20 ?_
  refine lv_i2l (v := ((x.1 0 50) - 1).toInt64) hx hb dX11_log_21 rfl ?_
  refine gx_si (rest := [.ref (rr + 0)]) ⟨hx, hb, hml, hown, hts⟩ (mX11_isIn l E rr x p1.toInt64 r1.toInt64 (((x.1 0 50) - 1).toInt64)) (va_cwS 3 hts gX11_log_X11_isIn rfl rfl rfl (by decide +kernel) ⟨Nat.le_of_ble_eq_true rfl, Nat.le_of_ble_eq_true rfl⟩) hW hK rfl hl.1 rfl (Nat.le_of_ble_eq_true rfl) dX11_log_22 ⟨Nat.le_of_ble_eq_true rfl, Nat.le_of_ble_eq_true rfl⟩ hS (fun _ h => h) (fun _ r2 H locs _ e2 hW hS => ?_)
  have e2 : fX11_isIn p1.toInt64 r1.toInt64 (((x.1 0 50) - 1).toInt64) x = r2 := e2
  try rw [e2] at hf
  refine lv_if_eq (tgt := 44) hx hb dX11_log_25 (by decide) (fun c_25 => ?_) (fun c_25 => ?_)
  · have hf_25 := hf.trans (if_pos c_25)
    refine lv_iconst (v := 1) hx hb dX11_log_44 (by decide) ?_
    refine fx_put (ci := 11) (v := .int (1)) hx hb hts i11 tyX11_ok nmX11 hown hK (rwc_0 hW) (rA_o (o := 0) (by decide)) hS rfl 0 (by decide) kl159 rfl rfl rfl (Nat.le_of_ble_eq_true rfl) dX11_log_45 (fun H locs hat hne hS => ?_)
    have hW : rw_ E rr (sR x 0 0 (1)) H := rwf_0 (v := 1) hW hat hne
    refine lv_aload_n hx hb dX11_log_48 rfl (lv_at hl 0 rfl) ?_
    refine fx_get (ci := 11) (v := .int (1)) hx hb hts i11 hown hK (rwc_0 hW) rfl 0 (by decide) kl159 rfl dX11_log_49 ?_
    refine lv_if_le (tgt := 59) hx hb dX11_log_52 (by decide) (fun c9 => absurd c9 (by decide)) (fun c9 => ?_)
    refine lv_iconst (v := 0) hx hb dX11_log_55 (by decide) ?_
    refine lv_goto (tgt := 72) hx hb dX11_log_56 (by decide) ?_
    exact gx_iret hx hb hr rfl hlocks hK hf_25 hW hS dX11_log_72
  · have hf_25 := hf.trans (if_neg c_25)
    refine lv_iload_n hx hb dX11_log_28 rfl (lv_at hl 2 rfl) ?_
    refine lv_i2l (v := p2.toInt64) hx hb dX11_log_29 rfl ?_
    refine lv_lconst (v := 0) hx hb dX11_log_30 (by decide) ?_
    refine lv_ldc2 hx hb hown (hts (.constantLong RX11 202 (3)) (by decide +kernel)) dX11_log_31 ?_
    refine gx_si (rest := [.ref (rr + 0)]) ⟨hx, hb, hml, hown, hts⟩ (mX11_isIn l E rr x p2.toInt64 0 3) (va_cwS 3 hts gX11_log_X11_isIn rfl rfl rfl (by decide +kernel) ⟨Nat.le_of_ble_eq_true rfl, Nat.le_of_ble_eq_true rfl⟩) hW hK rfl hl.1 rfl (Nat.le_of_ble_eq_true rfl) dX11_log_34 ⟨Nat.le_of_ble_eq_true rfl, Nat.le_of_ble_eq_true rfl⟩ hS (fun _ h => h) (fun _ r3 H locs _ e3 hW hS => ?_)
    have e3 : fX11_isIn p2.toInt64 0 3 x = r3 := e3
    try rw [e3] at hf_25
    refine lv_if_eq (tgt := 44) hx hb dX11_log_37 (by decide) (fun c_37 => ?_) (fun c_37 => ?_)
    · have hf_37 := hf_25.trans (if_pos c_37)
      refine lv_iconst (v := 1) hx hb dX11_log_44 (by decide) ?_
      refine fx_put (ci := 11) (v := .int (1)) hx hb hts i11 tyX11_ok nmX11 hown hK (rwc_0 hW) (rA_o (o := 0) (by decide)) hS rfl 0 (by decide) kl159 rfl rfl rfl (Nat.le_of_ble_eq_true rfl) dX11_log_45 (fun H locs hat hne hS => ?_)
      have hW : rw_ E rr (sR x 0 0 (1)) H := rwf_0 (v := 1) hW hat hne
      refine lv_aload_n hx hb dX11_log_48 rfl (lv_at hl 0 rfl) ?_
      refine fx_get (ci := 11) (v := .int (1)) hx hb hts i11 hown hK (rwc_0 hW) rfl 0 (by decide) kl159 rfl dX11_log_49 ?_
      refine lv_if_le (tgt := 59) hx hb dX11_log_52 (by decide) (fun c9 => absurd c9 (by decide)) (fun c9 => ?_)
      refine lv_iconst (v := 0) hx hb dX11_log_55 (by decide) ?_
      refine lv_goto (tgt := 72) hx hb dX11_log_56 (by decide) ?_
      exact gx_iret hx hb hr rfl hlocks hK hf_37 hW hS dX11_log_72
    · have hf_37 := hf_25.trans (if_neg c_37)
      refine lv_iconst (v := 0) hx hb dX11_log_40 (by decide) ?_
      refine lv_goto (tgt := 45) hx hb dX11_log_41 (by decide) ?_
      refine fx_put (ci := 11) (v := .int (0)) hx hb hts i11 tyX11_ok nmX11 hown hK (rwc_0 hW) (rA_o (o := 0) (by decide)) hS rfl 0 (by decide) kl159 rfl rfl rfl (Nat.le_of_ble_eq_true rfl) dX11_log_45 (fun H locs hat hne hS => ?_)
      have hW : rw_ E rr (sR x 0 0 (0)) H := rwf_0 (v := 0) hW hat hne
      refine lv_aload_n hx hb dX11_log_48 rfl (lv_at hl 0 rfl) ?_
      refine fx_get (ci := 11) (v := .int (0)) hx hb hts i11 hown hK (rwc_0 hW) rfl 0 (by decide) kl159 rfl dX11_log_49 ?_
      refine lv_if_le (tgt := 59) hx hb dX11_log_52 (by decide) (fun c9 => ?_) (fun c9 => absurd c9 (by decide))
      refine lv_aload_n hx hb dX11_log_59 rfl (lv_at hl 0 rfl) ?_
      refine fx_get (ci := 11) (v := .ref (rr + 45)) hx hb hts i11 hown hK (rwc_0 hW) rfl 51 (by decide) kl152 rfl dX11_log_60 ?_
      refine lv_iconst (v := 4) hx hb dX11_log_63 (by decide) ?_
      refine lv_iload_n hx hb dX11_log_64 rfl (lv_at hl 1 rfl) ?_
      refine lv_bipush (v := 64) hx hb dX11_log_65 (by decide) ?_
      refine lv_irem hx hb dX11_log_67 (by decide) ?_
      refine lv_imul hx hb dX11_log_68 ?_
      refine lv_iload_n hx hb dX11_log_69 rfl (lv_at hl 2 rfl) ?_
      refine lv_iadd hx hb dX11_log_70 ?_
      refine fx_ild hx hb hK 0 (rwc_45 hW) rfl (vi_logk (isin_in (a := p2) (c := 3) (x := x) rfl (by rw [e3]; exact c_37)) (logi_nn (x := x) e1 (by rw [e2]; exact c_25))) dX11_log_71 ?_
      exact gx_iret hx hb hr rfl hlocks hK hf_37 hW hS dX11_log_72
theorem okX11_log {tg bg : Nat} {p1 : Int32} {p2 : Int32} {x : RS} (hok : okR tg bg x) : okR tg bg (fX11_log p1 p2 x).1 := by unfold fX11_log; exact (okR_ite1 (fun c_25 => (okR_sR rfl hok)) (fun c_25 => (okR_ite1 (fun c_37 => (okR_sR rfl hok)) (fun c_37 => (okR_sR rfl hok)))))

def fX11_chain (x : RS) : RS × Int64 := ((sR x 0 0 (0)), x.2)
set_option maxHeartbeats 4000000 in
set_option maxRecDepth 100000 in
theorem mX11_chain (l : Launch) (E : eE) (rr : Nat) (x : RS) (tg : Nat) (bg : Nat) (hok : okR tg bg x) : Met l yX11_chain wsX11_chain ({ frames := 0, cells := 0, slots := 0, locals := 0 }) (gPre E (rw_ E rr x) [.ref (rr + 0)]) (gQl E (rw_ E rr) (fX11_chain x) (rA rr)) 0 0 (rA rr) := by
  refine Met.ofW (cc := cX11_chain) (maxL := 1) (ret := (some .long)) (by decide) rfl ?_
  intro p e s m args below meth c s₁ B hml hv
  obtain ⟨rfl, hW, hK⟩ := hv
  have hx := B.exec
  have hb := B.bytes
  have hr := B.returns
  have hts := atoms_spec (ws := wsX11_chain) B.pre
  have hown : s.vm.findClass RX11 = some m.cls := findClass_of_methodNamed B.named
  have hlocks := B.notSynchronized
  have i11 : ∀ w ∈ wsX110, w ∈ wsX11_chain := by decide +kernel
  have kl155 := hts (.fieldLink RX11 155 "DosePumpModel" "chain" "J") (by decide +kernel)
  have kl159 := hts (.fieldLink RX11 159 "DosePumpModel" "thrown" "I") (by decide +kernel)
  have hS : va_S (rA rr) s.heap s.heap [] := va_S.rf
  have hl := lv_entry ([.ref (rr + 0)]) (n := 1) (Nat.le_of_ble_eq_true rfl)
  rw [lg_entry_eq]
  generalize (lg_sl ([.ref (rr + 0)]) ++ List.replicate (1 - (lg_sl ([.ref (rr + 0)])).length) Slot.unset).toArray = ls at hl ⊢
  have hl : lv_has ls 1 [(0, .ref (rr + 0))] := hl
  have hf : fX11_chain x = (((sR x 0 0 (0)), x.2)) := rfl
  refine lv_aload_n hx hb dX11_chain_0 rfl (lv_at hl 0 rfl) ?_
  refine lv_iconst (v := 0) hx hb dX11_chain_1 (by decide) ?_
  refine fx_put (ci := 11) (v := .int (0)) hx hb hts i11 tyX11_ok nmX11 hown hK (rwc_0 hW) (rA_o (o := 0) (by decide)) hS rfl 0 (by decide) kl159 rfl rfl rfl (Nat.le_of_ble_eq_true rfl) dX11_chain_2 (fun H locs hat hne hS => ?_)
  have hW : rw_ E rr (sR x 0 0 (0)) H := rwf_0 (v := 0) hW hat hne
  refine lv_aload_n hx hb dX11_chain_5 rfl (lv_at hl 0 rfl) ?_
  refine fx_get (ci := 11) (v := .long (x.2)) hx hb hts i11 hown hK (rwc_0 hW) rfl 52 (by decide) kl155 rfl dX11_chain_6 ?_
  exact gx_lret hx hb hr hlocks hK hf hW hS dX11_chain_9
theorem okX11_chain {tg bg : Nat} {x : RS} (hok : okR tg bg x) : okR tg bg (fX11_chain x).1 := by unfold fX11_chain; exact (okR_sR rfl hok)

def fX11_drug_J85 (p1 : Int32) (p2 : Int32) (p3 : Int32) (p4 : Int32) (p5 : Int32) (p6 : Int32) (p7 : Int32) (y : RS) (w0 : Int32) : RS := if (fX11_isIn p1.toInt64 0 15 y) = 0 then ((sR y 0 0 (1))) else (if w0 = 0 then ((sR y 0 0 (2))) else (if (fX11_isUsed p1 y) = 0 then ((sR (sR (sR (sR (sR (sR (sR (sR (sR (sR (sR (sR (sR y 0 0 (0)) 1 p1.toNatClampNeg (1)) 2 p1.toNatClampNeg (p2)) 3 p1.toNatClampNeg (p3)) 4 p1.toNatClampNeg (p4)) 5 p1.toNatClampNeg (p5)) 6 p1.toNatClampNeg (p6)) 7 p1.toNatClampNeg (p7)) 8 p1.toNatClampNeg (100000)) 9 p1.toNatClampNeg (0)) 10 p1.toNatClampNeg (1)) 11 p1.toNatClampNeg (0)) 12 p1.toNatClampNeg (1))) else ((sR y 0 0 (3)))))
def fX11_drug_J84 (p1 : Int32) (p2 : Int32) (p3 : Int32) (p4 : Int32) (p5 : Int32) (p6 : Int32) (p7 : Int32) (y : RS) : RS := fX11_drug_J85 p1 p2 p3 p4 p5 p6 p7 y 0
def fX11_drug (p1 : Int32) (p2 : Int32) (p3 : Int32) (p4 : Int32) (p5 : Int32) (p6 : Int32) (p7 : Int32) (x : RS) : RS := if (fX11_isIn p2.toInt64 0 1 x) = 0 then (fX11_drug_J84 p1 p2 p3 p4 p5 p6 p7 x) else (if (fX11_isIn p3.toInt64 1 10000 x) = 0 then (fX11_drug_J84 p1 p2 p3 p4 p5 p6 p7 x) else (if (fX11_isIn p4.toInt64 1 99999 x) = 0 then (fX11_drug_J84 p1 p2 p3 p4 p5 p6 p7 x) else (if (fX11_isIn p5.toInt64 p4.toInt64 99999 x) = 0 then (fX11_drug_J84 p1 p2 p3 p4 p5 p6 p7 x) else (if (fX11_isIn p6.toInt64 p5.toInt64 99999 x) = 0 then (fX11_drug_J84 p1 p2 p3 p4 p5 p6 p7 x) else (if (fX11_isIn p7.toInt64 p6.toInt64 99999 x) = 0 then (fX11_drug_J84 p1 p2 p3 p4 p5 p6 p7 x) else (fX11_drug_J85 p1 p2 p3 p4 p5 p6 p7 x 1))))))
set_option maxHeartbeats 4000000 in
set_option maxRecDepth 100000 in
theorem mX11_drug (l : Launch) (E : eE) (rr : Nat) (x : RS) (p1 : Int32) (p2 : Int32) (p3 : Int32) (p4 : Int32) (p5 : Int32) (p6 : Int32) (p7 : Int32) (tg : Nat) (bg : Nat) (hok : okR tg bg x) : Met l yX11_drug wsX11_drug ({ frames := 1, cells := 0, slots := 0, locals := 25 }) (gPre E (rw_ E rr x) [.ref (rr + 0), .int (p1), .int (p2), .int (p3), .int (p4), .int (p5), .int (p6), .int (p7)]) (gQv E (rw_ E rr) (fX11_drug p1 p2 p3 p4 p5 p6 p7 x) (rA rr)) 0 0 (rA rr) := by
  refine Met.ofW (cc := cX11_drug) (maxL := 9) (ret := none) (by decide) rfl ?_
  intro p e s m args below meth c s₁ B hml hv
  obtain ⟨rfl, hW, hK⟩ := hv
  have hx := B.exec
  have hb := B.bytes
  have hr := B.returns
  have hts := atoms_spec (ws := wsX11_drug) B.pre
  have hown : s.vm.findClass RX11 = some m.cls := findClass_of_methodNamed B.named
  have hlocks := B.notSynchronized
  have i11 : ∀ w ∈ wsX110, w ∈ wsX11_drug := by decide +kernel
  have kl7 := hts (.fieldLink RX11 7 "DosePumpModel" "is" "[Z") (by decide +kernel)
  have kl13 := hts (.fieldLink RX11 13 "DosePumpModel" "kind" "[I") (by decide +kernel)
  have kl17 := hts (.fieldLink RX11 17 "DosePumpModel" "strength" "[I") (by decide +kernel)
  have kl20 := hts (.fieldLink RX11 20 "DosePumpModel" "hardLow" "[I") (by decide +kernel)
  have kl23 := hts (.fieldLink RX11 23 "DosePumpModel" "softLow" "[I") (by decide +kernel)
  have kl26 := hts (.fieldLink RX11 26 "DosePumpModel" "softHigh" "[I") (by decide +kernel)
  have kl29 := hts (.fieldLink RX11 29 "DosePumpModel" "hardHigh" "[I") (by decide +kernel)
  have kl32 := hts (.fieldLink RX11 32 "DosePumpModel" "limit" "[I") (by decide +kernel)
  have kl35 := hts (.fieldLink RX11 35 "DosePumpModel" "bolus" "[I") (by decide +kernel)
  have kl38 := hts (.fieldLink RX11 38 "DosePumpModel" "pace" "[I") (by decide +kernel)
  have kl41 := hts (.fieldLink RX11 41 "DosePumpModel" "lockout" "[I") (by decide +kernel)
  have kl44 := hts (.fieldLink RX11 44 "DosePumpModel" "many" "[I") (by decide +kernel)
  have kl159 := hts (.fieldLink RX11 159 "DosePumpModel" "thrown" "I") (by decide +kernel)
  have hS : va_S (rA rr) s.heap s.heap [] := va_S.rf
  have hl := lv_entry ([.ref (rr + 0), .int (p1), .int (p2), .int (p3), .int (p4), .int (p5), .int (p6), .int (p7)]) (n := 9) (Nat.le_of_ble_eq_true rfl)
  rw [lg_entry_eq]
  generalize (lg_sl ([.ref (rr + 0), .int (p1), .int (p2), .int (p3), .int (p4), .int (p5), .int (p6), .int (p7)]) ++ List.replicate (9 - (lg_sl ([.ref (rr + 0), .int (p1), .int (p2), .int (p3), .int (p4), .int (p5), .int (p6), .int (p7)])).length) Slot.unset).toArray = ls at hl ⊢
  have hl : lv_has ls 9 [(0, .ref (rr + 0)), (1, .int (p1)), (2, .int (p2)), (3, .int (p3)), (4, .int (p4)), (5, .int (p5)), (6, .int (p6)), (7, .int (p7))] := hl
  have J85 : ∀ (H : Heap) (locs : List Loc) (ls : Array Slot) (y : RS) (w0 : Int32), rw_ E rr y H → va_S (rA rr) s.heap H locs → lv_has ls 9 [(0, .ref (rr + 0)), (1, .int (p1)), (2, .int (p2)), (3, .int (p3)), (4, .int (p4)), (5, .int (p5)), (6, .int (p6)), (7, .int (p7))] → okR tg bg y → fX11_drug p1 p2 p3 p4 p5 p6 p7 x = fX11_drug_J85 p1 p2 p3 p4 p5 p6 p7 y w0 → W p l e (headSpec wsX11_drug { frames := 1, cells := 0, slots := 0, locals := 25 }).room s m ([.ref (rr + 0), .int (p1), .int (p2), .int (p3), .int (p4), .int (p5), .int (p6), .int (p7)] : List Value).toArray below meth c H locs 0 0 (MQ below (gQv E (rw_ E rr) (fX11_drug p1 p2 p3 p4 p5 p6 p7 x) (rA rr)) ([.ref (rr + 0), .int (p1), .int (p2), .int (p3), .int (p4), .int (p5), .int (p6), .int (p7)] : List Value).toArray s 0 0 (rA rr)) (F0 m 85 ls [.int (w0)]) := by
    intro H locs ls y w0 hW hS hl hok hf
    replace hf : fX11_drug p1 p2 p3 p4 p5 p6 p7 x = (if (fX11_isIn p1.toInt64 0 15 y) = 0 then ((sR y 0 0 (1))) else (if w0 = 0 then ((sR y 0 0 (2))) else (if (fX11_isUsed p1 y) = 0 then ((sR (sR (sR (sR (sR (sR (sR (sR (sR (sR (sR (sR (sR y 0 0 (0)) 1 p1.toNatClampNeg (1)) 2 p1.toNatClampNeg (p2)) 3 p1.toNatClampNeg (p3)) 4 p1.toNatClampNeg (p4)) 5 p1.toNatClampNeg (p5)) 6 p1.toNatClampNeg (p6)) 7 p1.toNatClampNeg (p7)) 8 p1.toNatClampNeg (100000)) 9 p1.toNatClampNeg (0)) 10 p1.toNatClampNeg (1)) 11 p1.toNatClampNeg (0)) 12 p1.toNatClampNeg (1))) else ((sR y 0 0 (3)))))) := hf
    refine lv_istore (lv' := [(8, .int (w0)), (0, .ref (rr + 0)), (1, .int (p1)), (2, .int (p2)), (3, .int (p3)), (4, .int (p4)), (5, .int (p5)), (6, .int (p6)), (7, .int (p7))]) hx hb dX11_drug_85 hl (by decide) rfl (fun ls hl => ?_)
    refine lv_aload_n hx hb dX11_drug_87 rfl (lv_at hl 1 rfl) ?_
    refine lv_iload_n hx hb dX11_drug_88 rfl (lv_at hl 2 rfl) ?_
    refine lv_i2l (v := p1.toInt64) hx hb dX11_drug_89 rfl ?_
    refine lv_lconst (v := 0) hx hb dX11_drug_90 (by decide) ?_
    refine lv_ldc2 hx hb hown (hts (.constantLong RX11 182 (15)) (by decide +kernel)) dX11_drug_91 ?_
    refine gx_si (rest := [.ref (rr + 0)]) ⟨hx, hb, hml, hown, hts⟩ (mX11_isIn l E rr y p1.toInt64 0 15) (va_cwS 3 hts gX11_drug_X11_isIn rfl rfl rfl (by decide +kernel) ⟨Nat.le_of_ble_eq_true rfl, Nat.le_of_ble_eq_true rfl⟩) hW hK rfl hl.1 rfl (Nat.le_of_ble_eq_true rfl) dX11_drug_94 ⟨Nat.le_of_ble_eq_true rfl, Nat.le_of_ble_eq_true rfl⟩ hS (fun _ h => h) (fun _ r7 H locs _ e7 hW hS => ?_)
    have e7 : fX11_isIn p1.toInt64 0 15 y = r7 := e7
    try rw [e7] at hf
    refine lv_if_ne (tgt := 104) hx hb dX11_drug_97 (by decide) (fun c_97 => ?_) (fun c_97 => ?_)
    · have hf_97 := hf.trans (if_neg c_97)
      refine lv_iload hx hb dX11_drug_104 (lv_at hl 0 rfl) ?_
      refine lv_if_ne (tgt := 113) hx hb dX11_drug_106 (by decide) (fun c_106 => ?_) (fun c_106 => ?_)
      · have hf_106 := hf_97.trans (if_neg c_106)
        refine lv_aload_n hx hb dX11_drug_113 rfl (lv_at hl 1 rfl) ?_
        refine lv_iload_n hx hb dX11_drug_114 rfl (lv_at hl 2 rfl) ?_
        refine gx_i (rest := [.ref (rr + 0)]) ⟨hx, hb, hml, hown, hts⟩ (mX11_isUsed l E rr y p1) (cwV 1 hts gX11_drug_X11_isUsed rfl rfl rfl (by decide +kernel) ⟨Nat.le_of_ble_eq_true rfl, Nat.le_of_ble_eq_true rfl⟩) hW hK (fx_recv hK (rwc_0 hW) rfl) rfl hl.1 rfl (Nat.le_of_ble_eq_true rfl) dX11_drug_115 ⟨Nat.le_of_ble_eq_true rfl, Nat.le_of_ble_eq_true rfl⟩ hS (fun _ h => h) (fun _ r8 H locs _ e8 hW hS => ?_)
        have e8 : fX11_isUsed p1 y = r8 := e8
        try rw [e8] at hf_106
        refine lv_if_eq (tgt := 125) hx hb dX11_drug_118 (by decide) (fun c_118 => ?_) (fun c_118 => ?_)
        · have hf_118 := hf_106.trans (if_pos c_118)
          refine lv_iconst (v := 0) hx hb dX11_drug_125 (by decide) ?_
          refine fx_put (ci := 11) (v := .int (0)) hx hb hts i11 tyX11_ok nmX11 hown hK (rwc_0 hW) (rA_o (o := 0) (by decide)) hS rfl 0 (by decide) kl159 rfl rfl rfl (Nat.le_of_ble_eq_true rfl) dX11_drug_126 (fun H locs hat hne hS => ?_)
          have hW : rw_ E rr (sR y 0 0 (0)) H := rwf_0 (v := 0) hW hat hne
          refine lv_aload_n hx hb dX11_drug_129 rfl (lv_at hl 1 rfl) ?_
          refine fx_get (ci := 11) (v := .int (0)) hx hb hts i11 hown hK (rwc_0 hW) rfl 0 (by decide) kl159 rfl dX11_drug_130 ?_
          refine lv_if_le (tgt := 137) hx hb dX11_drug_133 (by decide) (fun c9 => ?_) (fun c9 => absurd c9 (by decide))
          refine lv_aload_n hx hb dX11_drug_137 rfl (lv_at hl 1 rfl) ?_
          refine fx_get (ci := 11) (v := .ref (rr + 1)) hx hb hts i11 hown hK (rwc_0 hW) rfl 1 (by decide) kl7 rfl dX11_drug_138 ?_
          refine lv_iload_n hx hb dX11_drug_141 rfl (lv_at hl 2 rfl) ?_
          refine lv_iconst (v := 1) hx hb dX11_drug_142 (by decide) ?_
          refine fx_zst hx hb hK 1 (rwc_1 hW) (rA_o (o := 1) (by decide)) hS rfl (by decide) (isin_in (a := p1) (c := 15) (x := y) rfl (by rw [e7]; exact c_97)) dX11_drug_143 (fun H locs hat hne hS => ?_)
          have hW : rw_ E rr (sR (sR y 0 0 (0)) 1 p1.toNatClampNeg (1)) H := rws_1 (k := p1.toNatClampNeg) (v := 1) hW hat hne
          refine lv_aload_n hx hb dX11_drug_144 rfl (lv_at hl 1 rfl) ?_
          refine fx_get (ci := 11) (v := .ref (rr + 2)) hx hb hts i11 hown hK (rwc_0 hW) rfl 2 (by decide) kl13 rfl dX11_drug_145 ?_
          refine lv_iload_n hx hb dX11_drug_148 rfl (lv_at hl 2 rfl) ?_
          refine lv_iload_n hx hb dX11_drug_149 rfl (lv_at hl 3 rfl) ?_
          refine fx_ist hx hb hK 0 (rwc_2 hW) (rA_o (o := 2) (by decide)) hS rfl (isin_in (a := p1) (c := 15) (x := y) rfl (by rw [e7]; exact c_97)) dX11_drug_150 (fun H locs hat hne hS => ?_)
          have hW : rw_ E rr (sR (sR (sR y 0 0 (0)) 1 p1.toNatClampNeg (1)) 2 p1.toNatClampNeg (p2)) H := rws_2 (k := p1.toNatClampNeg) (v := p2) hW hat hne
          refine lv_aload_n hx hb dX11_drug_151 rfl (lv_at hl 1 rfl) ?_
          refine fx_get (ci := 11) (v := .ref (rr + 3)) hx hb hts i11 hown hK (rwc_0 hW) rfl 3 (by decide) kl17 rfl dX11_drug_152 ?_
          refine lv_iload_n hx hb dX11_drug_155 rfl (lv_at hl 2 rfl) ?_
          refine lv_iload_n hx hb dX11_drug_156 rfl (lv_at hl 4 rfl) ?_
          refine fx_ist hx hb hK 0 (rwc_3 hW) (rA_o (o := 3) (by decide)) hS rfl (isin_in (a := p1) (c := 15) (x := y) rfl (by rw [e7]; exact c_97)) dX11_drug_157 (fun H locs hat hne hS => ?_)
          have hW : rw_ E rr (sR (sR (sR (sR y 0 0 (0)) 1 p1.toNatClampNeg (1)) 2 p1.toNatClampNeg (p2)) 3 p1.toNatClampNeg (p3)) H := rws_3 (k := p1.toNatClampNeg) (v := p3) hW hat hne
          refine lv_aload_n hx hb dX11_drug_158 rfl (lv_at hl 1 rfl) ?_
          refine fx_get (ci := 11) (v := .ref (rr + 4)) hx hb hts i11 hown hK (rwc_0 hW) rfl 4 (by decide) kl20 rfl dX11_drug_159 ?_
          refine lv_iload_n hx hb dX11_drug_162 rfl (lv_at hl 2 rfl) ?_
          refine lv_iload hx hb dX11_drug_163 (lv_at hl 5 rfl) ?_
          refine fx_ist hx hb hK 0 (rwc_4 hW) (rA_o (o := 4) (by decide)) hS rfl (isin_in (a := p1) (c := 15) (x := y) rfl (by rw [e7]; exact c_97)) dX11_drug_165 (fun H locs hat hne hS => ?_)
          have hW : rw_ E rr (sR (sR (sR (sR (sR y 0 0 (0)) 1 p1.toNatClampNeg (1)) 2 p1.toNatClampNeg (p2)) 3 p1.toNatClampNeg (p3)) 4 p1.toNatClampNeg (p4)) H := rws_4 (k := p1.toNatClampNeg) (v := p4) hW hat hne
          refine lv_aload_n hx hb dX11_drug_166 rfl (lv_at hl 1 rfl) ?_
          refine fx_get (ci := 11) (v := .ref (rr + 5)) hx hb hts i11 hown hK (rwc_0 hW) rfl 5 (by decide) kl23 rfl dX11_drug_167 ?_
          refine lv_iload_n hx hb dX11_drug_170 rfl (lv_at hl 2 rfl) ?_
          refine lv_iload hx hb dX11_drug_171 (lv_at hl 6 rfl) ?_
          refine fx_ist hx hb hK 0 (rwc_5 hW) (rA_o (o := 5) (by decide)) hS rfl (isin_in (a := p1) (c := 15) (x := y) rfl (by rw [e7]; exact c_97)) dX11_drug_173 (fun H locs hat hne hS => ?_)
          have hW : rw_ E rr (sR (sR (sR (sR (sR (sR y 0 0 (0)) 1 p1.toNatClampNeg (1)) 2 p1.toNatClampNeg (p2)) 3 p1.toNatClampNeg (p3)) 4 p1.toNatClampNeg (p4)) 5 p1.toNatClampNeg (p5)) H := rws_5 (k := p1.toNatClampNeg) (v := p5) hW hat hne
          refine lv_aload_n hx hb dX11_drug_174 rfl (lv_at hl 1 rfl) ?_
          refine fx_get (ci := 11) (v := .ref (rr + 6)) hx hb hts i11 hown hK (rwc_0 hW) rfl 6 (by decide) kl26 rfl dX11_drug_175 ?_
          refine lv_iload_n hx hb dX11_drug_178 rfl (lv_at hl 2 rfl) ?_
          refine lv_iload hx hb dX11_drug_179 (lv_at hl 7 rfl) ?_
          refine fx_ist hx hb hK 0 (rwc_6 hW) (rA_o (o := 6) (by decide)) hS rfl (isin_in (a := p1) (c := 15) (x := y) rfl (by rw [e7]; exact c_97)) dX11_drug_181 (fun H locs hat hne hS => ?_)
          have hW : rw_ E rr (sR (sR (sR (sR (sR (sR (sR y 0 0 (0)) 1 p1.toNatClampNeg (1)) 2 p1.toNatClampNeg (p2)) 3 p1.toNatClampNeg (p3)) 4 p1.toNatClampNeg (p4)) 5 p1.toNatClampNeg (p5)) 6 p1.toNatClampNeg (p6)) H := rws_6 (k := p1.toNatClampNeg) (v := p6) hW hat hne
          refine lv_aload_n hx hb dX11_drug_182 rfl (lv_at hl 1 rfl) ?_
          refine fx_get (ci := 11) (v := .ref (rr + 7)) hx hb hts i11 hown hK (rwc_0 hW) rfl 7 (by decide) kl29 rfl dX11_drug_183 ?_
          refine lv_iload_n hx hb dX11_drug_186 rfl (lv_at hl 2 rfl) ?_
          refine lv_iload hx hb dX11_drug_187 (lv_at hl 8 rfl) ?_
          refine fx_ist hx hb hK 0 (rwc_7 hW) (rA_o (o := 7) (by decide)) hS rfl (isin_in (a := p1) (c := 15) (x := y) rfl (by rw [e7]; exact c_97)) dX11_drug_189 (fun H locs hat hne hS => ?_)
          have hW : rw_ E rr (sR (sR (sR (sR (sR (sR (sR (sR y 0 0 (0)) 1 p1.toNatClampNeg (1)) 2 p1.toNatClampNeg (p2)) 3 p1.toNatClampNeg (p3)) 4 p1.toNatClampNeg (p4)) 5 p1.toNatClampNeg (p5)) 6 p1.toNatClampNeg (p6)) 7 p1.toNatClampNeg (p7)) H := rws_7 (k := p1.toNatClampNeg) (v := p7) hW hat hne
          refine lv_aload_n hx hb dX11_drug_190 rfl (lv_at hl 1 rfl) ?_
          refine fx_get (ci := 11) (v := .ref (rr + 8)) hx hb hts i11 hown hK (rwc_0 hW) rfl 8 (by decide) kl32 rfl dX11_drug_191 ?_
          refine lv_iload_n hx hb dX11_drug_194 rfl (lv_at hl 2 rfl) ?_
          refine lv_ldc hx hb hown (hts (.constant RX11 188 (100000)) (by decide +kernel)) dX11_drug_195 ?_
          refine fx_ist hx hb hK 0 (rwc_8 hW) (rA_o (o := 8) (by decide)) hS rfl (isin_in (a := p1) (c := 15) (x := y) rfl (by rw [e7]; exact c_97)) dX11_drug_197 (fun H locs hat hne hS => ?_)
          have hW : rw_ E rr (sR (sR (sR (sR (sR (sR (sR (sR (sR y 0 0 (0)) 1 p1.toNatClampNeg (1)) 2 p1.toNatClampNeg (p2)) 3 p1.toNatClampNeg (p3)) 4 p1.toNatClampNeg (p4)) 5 p1.toNatClampNeg (p5)) 6 p1.toNatClampNeg (p6)) 7 p1.toNatClampNeg (p7)) 8 p1.toNatClampNeg (100000)) H := rws_8 (k := p1.toNatClampNeg) (v := 100000) hW hat hne
          refine lv_aload_n hx hb dX11_drug_198 rfl (lv_at hl 1 rfl) ?_
          refine fx_get (ci := 11) (v := .ref (rr + 9)) hx hb hts i11 hown hK (rwc_0 hW) rfl 9 (by decide) kl35 rfl dX11_drug_199 ?_
          refine lv_iload_n hx hb dX11_drug_202 rfl (lv_at hl 2 rfl) ?_
          refine lv_iconst (v := 0) hx hb dX11_drug_203 (by decide) ?_
          refine fx_ist hx hb hK 0 (rwc_9 hW) (rA_o (o := 9) (by decide)) hS rfl (isin_in (a := p1) (c := 15) (x := y) rfl (by rw [e7]; exact c_97)) dX11_drug_204 (fun H locs hat hne hS => ?_)
          have hW : rw_ E rr (sR (sR (sR (sR (sR (sR (sR (sR (sR (sR y 0 0 (0)) 1 p1.toNatClampNeg (1)) 2 p1.toNatClampNeg (p2)) 3 p1.toNatClampNeg (p3)) 4 p1.toNatClampNeg (p4)) 5 p1.toNatClampNeg (p5)) 6 p1.toNatClampNeg (p6)) 7 p1.toNatClampNeg (p7)) 8 p1.toNatClampNeg (100000)) 9 p1.toNatClampNeg (0)) H := rws_9 (k := p1.toNatClampNeg) (v := 0) hW hat hne
          refine lv_aload_n hx hb dX11_drug_205 rfl (lv_at hl 1 rfl) ?_
          refine fx_get (ci := 11) (v := .ref (rr + 10)) hx hb hts i11 hown hK (rwc_0 hW) rfl 10 (by decide) kl38 rfl dX11_drug_206 ?_
          refine lv_iload_n hx hb dX11_drug_209 rfl (lv_at hl 2 rfl) ?_
          refine lv_iconst (v := 1) hx hb dX11_drug_210 (by decide) ?_
          refine fx_ist hx hb hK 0 (rwc_10 hW) (rA_o (o := 10) (by decide)) hS rfl (isin_in (a := p1) (c := 15) (x := y) rfl (by rw [e7]; exact c_97)) dX11_drug_211 (fun H locs hat hne hS => ?_)
          have hW : rw_ E rr (sR (sR (sR (sR (sR (sR (sR (sR (sR (sR (sR y 0 0 (0)) 1 p1.toNatClampNeg (1)) 2 p1.toNatClampNeg (p2)) 3 p1.toNatClampNeg (p3)) 4 p1.toNatClampNeg (p4)) 5 p1.toNatClampNeg (p5)) 6 p1.toNatClampNeg (p6)) 7 p1.toNatClampNeg (p7)) 8 p1.toNatClampNeg (100000)) 9 p1.toNatClampNeg (0)) 10 p1.toNatClampNeg (1)) H := rws_10 (k := p1.toNatClampNeg) (v := 1) hW hat hne
          refine lv_aload_n hx hb dX11_drug_212 rfl (lv_at hl 1 rfl) ?_
          refine fx_get (ci := 11) (v := .ref (rr + 11)) hx hb hts i11 hown hK (rwc_0 hW) rfl 11 (by decide) kl41 rfl dX11_drug_213 ?_
          refine lv_iload_n hx hb dX11_drug_216 rfl (lv_at hl 2 rfl) ?_
          refine lv_iconst (v := 0) hx hb dX11_drug_217 (by decide) ?_
          refine fx_ist hx hb hK 0 (rwc_11 hW) (rA_o (o := 11) (by decide)) hS rfl (isin_in (a := p1) (c := 15) (x := y) rfl (by rw [e7]; exact c_97)) dX11_drug_218 (fun H locs hat hne hS => ?_)
          have hW : rw_ E rr (sR (sR (sR (sR (sR (sR (sR (sR (sR (sR (sR (sR y 0 0 (0)) 1 p1.toNatClampNeg (1)) 2 p1.toNatClampNeg (p2)) 3 p1.toNatClampNeg (p3)) 4 p1.toNatClampNeg (p4)) 5 p1.toNatClampNeg (p5)) 6 p1.toNatClampNeg (p6)) 7 p1.toNatClampNeg (p7)) 8 p1.toNatClampNeg (100000)) 9 p1.toNatClampNeg (0)) 10 p1.toNatClampNeg (1)) 11 p1.toNatClampNeg (0)) H := rws_11 (k := p1.toNatClampNeg) (v := 0) hW hat hne
          refine lv_aload_n hx hb dX11_drug_219 rfl (lv_at hl 1 rfl) ?_
          refine fx_get (ci := 11) (v := .ref (rr + 12)) hx hb hts i11 hown hK (rwc_0 hW) rfl 12 (by decide) kl44 rfl dX11_drug_220 ?_
          refine lv_iload_n hx hb dX11_drug_223 rfl (lv_at hl 2 rfl) ?_
          refine lv_iconst (v := 1) hx hb dX11_drug_224 (by decide) ?_
          refine fx_ist hx hb hK 0 (rwc_12 hW) (rA_o (o := 12) (by decide)) hS rfl (isin_in (a := p1) (c := 15) (x := y) rfl (by rw [e7]; exact c_97)) dX11_drug_225 (fun H locs hat hne hS => ?_)
          have hW : rw_ E rr (sR (sR (sR (sR (sR (sR (sR (sR (sR (sR (sR (sR (sR y 0 0 (0)) 1 p1.toNatClampNeg (1)) 2 p1.toNatClampNeg (p2)) 3 p1.toNatClampNeg (p3)) 4 p1.toNatClampNeg (p4)) 5 p1.toNatClampNeg (p5)) 6 p1.toNatClampNeg (p6)) 7 p1.toNatClampNeg (p7)) 8 p1.toNatClampNeg (100000)) 9 p1.toNatClampNeg (0)) 10 p1.toNatClampNeg (1)) 11 p1.toNatClampNeg (0)) 12 p1.toNatClampNeg (1)) H := rws_12 (k := p1.toNatClampNeg) (v := 1) hW hat hne
          exact gx_vret hx hb hr hlocks hK hf_118 hW hS dX11_drug_226
        · have hf_118 := hf_106.trans (if_neg c_118)
          refine lv_iconst (v := 3) hx hb dX11_drug_121 (by decide) ?_
          refine lv_goto (tgt := 126) hx hb dX11_drug_122 (by decide) ?_
          refine fx_put (ci := 11) (v := .int (3)) hx hb hts i11 tyX11_ok nmX11 hown hK (rwc_0 hW) (rA_o (o := 0) (by decide)) hS rfl 0 (by decide) kl159 rfl rfl rfl (Nat.le_of_ble_eq_true rfl) dX11_drug_126 (fun H locs hat hne hS => ?_)
          have hW : rw_ E rr (sR y 0 0 (3)) H := rwf_0 (v := 3) hW hat hne
          refine lv_aload_n hx hb dX11_drug_129 rfl (lv_at hl 1 rfl) ?_
          refine fx_get (ci := 11) (v := .int (3)) hx hb hts i11 hown hK (rwc_0 hW) rfl 0 (by decide) kl159 rfl dX11_drug_130 ?_
          refine lv_if_le (tgt := 137) hx hb dX11_drug_133 (by decide) (fun c9 => absurd c9 (by decide)) (fun c9 => ?_)
          exact gx_vret hx hb hr hlocks hK hf_118 hW hS dX11_drug_136
      · have hf_106 := hf_97.trans (if_pos c_106)
        refine lv_iconst (v := 2) hx hb dX11_drug_109 (by decide) ?_
        refine lv_goto (tgt := 126) hx hb dX11_drug_110 (by decide) ?_
        refine fx_put (ci := 11) (v := .int (2)) hx hb hts i11 tyX11_ok nmX11 hown hK (rwc_0 hW) (rA_o (o := 0) (by decide)) hS rfl 0 (by decide) kl159 rfl rfl rfl (Nat.le_of_ble_eq_true rfl) dX11_drug_126 (fun H locs hat hne hS => ?_)
        have hW : rw_ E rr (sR y 0 0 (2)) H := rwf_0 (v := 2) hW hat hne
        refine lv_aload_n hx hb dX11_drug_129 rfl (lv_at hl 1 rfl) ?_
        refine fx_get (ci := 11) (v := .int (2)) hx hb hts i11 hown hK (rwc_0 hW) rfl 0 (by decide) kl159 rfl dX11_drug_130 ?_
        refine lv_if_le (tgt := 137) hx hb dX11_drug_133 (by decide) (fun c9 => absurd c9 (by decide)) (fun c9 => ?_)
        exact gx_vret hx hb hr hlocks hK hf_106 hW hS dX11_drug_136
    · have hf_97 := hf.trans (if_pos c_97)
      refine lv_iconst (v := 1) hx hb dX11_drug_100 (by decide) ?_
      refine lv_goto (tgt := 126) hx hb dX11_drug_101 (by decide) ?_
      refine fx_put (ci := 11) (v := .int (1)) hx hb hts i11 tyX11_ok nmX11 hown hK (rwc_0 hW) (rA_o (o := 0) (by decide)) hS rfl 0 (by decide) kl159 rfl rfl rfl (Nat.le_of_ble_eq_true rfl) dX11_drug_126 (fun H locs hat hne hS => ?_)
      have hW : rw_ E rr (sR y 0 0 (1)) H := rwf_0 (v := 1) hW hat hne
      refine lv_aload_n hx hb dX11_drug_129 rfl (lv_at hl 1 rfl) ?_
      refine fx_get (ci := 11) (v := .int (1)) hx hb hts i11 hown hK (rwc_0 hW) rfl 0 (by decide) kl159 rfl dX11_drug_130 ?_
      refine lv_if_le (tgt := 137) hx hb dX11_drug_133 (by decide) (fun c9 => absurd c9 (by decide)) (fun c9 => ?_)
      exact gx_vret hx hb hr hlocks hK hf_97 hW hS dX11_drug_136
  have J84 : ∀ (H : Heap) (locs : List Loc) (ls : Array Slot) (y : RS), rw_ E rr y H → va_S (rA rr) s.heap H locs → lv_has ls 9 [(0, .ref (rr + 0)), (1, .int (p1)), (2, .int (p2)), (3, .int (p3)), (4, .int (p4)), (5, .int (p5)), (6, .int (p6)), (7, .int (p7))] → okR tg bg y → fX11_drug p1 p2 p3 p4 p5 p6 p7 x = fX11_drug_J84 p1 p2 p3 p4 p5 p6 p7 y → W p l e (headSpec wsX11_drug { frames := 1, cells := 0, slots := 0, locals := 25 }).room s m ([.ref (rr + 0), .int (p1), .int (p2), .int (p3), .int (p4), .int (p5), .int (p6), .int (p7)] : List Value).toArray below meth c H locs 0 0 (MQ below (gQv E (rw_ E rr) (fX11_drug p1 p2 p3 p4 p5 p6 p7 x) (rA rr)) ([.ref (rr + 0), .int (p1), .int (p2), .int (p3), .int (p4), .int (p5), .int (p6), .int (p7)] : List Value).toArray s 0 0 (rA rr)) (F0 m 84 ls []) := by
    intro H locs ls y hW hS hl hok hf
    replace hf : fX11_drug p1 p2 p3 p4 p5 p6 p7 x = (fX11_drug_J85 p1 p2 p3 p4 p5 p6 p7 y 0) := hf
    refine lv_iconst (v := 0) hx hb dX11_drug_84 (by decide) ?_
    exact J85 _ _ _ y 0 hW hS (lv_sub hl [0, 1, 2, 3, 4, 5, 6, 7] rfl) hok hf
  have hf : fX11_drug p1 p2 p3 p4 p5 p6 p7 x = (if (fX11_isIn p2.toInt64 0 1 x) = 0 then (fX11_drug_J84 p1 p2 p3 p4 p5 p6 p7 x) else (if (fX11_isIn p3.toInt64 1 10000 x) = 0 then (fX11_drug_J84 p1 p2 p3 p4 p5 p6 p7 x) else (if (fX11_isIn p4.toInt64 1 99999 x) = 0 then (fX11_drug_J84 p1 p2 p3 p4 p5 p6 p7 x) else (if (fX11_isIn p5.toInt64 p4.toInt64 99999 x) = 0 then (fX11_drug_J84 p1 p2 p3 p4 p5 p6 p7 x) else (if (fX11_isIn p6.toInt64 p5.toInt64 99999 x) = 0 then (fX11_drug_J84 p1 p2 p3 p4 p5 p6 p7 x) else (if (fX11_isIn p7.toInt64 p6.toInt64 99999 x) = 0 then (fX11_drug_J84 p1 p2 p3 p4 p5 p6 p7 x) else (fX11_drug_J85 p1 p2 p3 p4 p5 p6 p7 x 1))))))) := rfl
  refine lv_iload_n hx hb dX11_drug_0 rfl (lv_at hl 2 rfl) ?_
  refine lv_i2l (v := p2.toInt64) hx hb dX11_drug_1 rfl ?_
  refine lv_lconst (v := 0) hx hb dX11_drug_2 (by decide) ?_
  refine lv_lconst (v := 1) hx hb dX11_drug_3 (by decide) ?_
  refine gx_si (rest := []) ⟨hx, hb, hml, hown, hts⟩ (mX11_isIn l E rr x p2.toInt64 0 1) (va_cwS 3 hts gX11_drug_X11_isIn rfl rfl rfl (by decide +kernel) ⟨Nat.le_of_ble_eq_true rfl, Nat.le_of_ble_eq_true rfl⟩) hW hK rfl hl.1 rfl (Nat.le_of_ble_eq_true rfl) dX11_drug_4 ⟨Nat.le_of_ble_eq_true rfl, Nat.le_of_ble_eq_true rfl⟩ hS (fun _ h => h) (fun _ r1 H locs _ e1 hW hS => ?_)
  have e1 : fX11_isIn p2.toInt64 0 1 x = r1 := e1
  try rw [e1] at hf
  refine lv_if_eq (tgt := 84) hx hb dX11_drug_7 (by decide) (fun c_7 => ?_) (fun c_7 => ?_)
  · have hf_7 := hf.trans (if_pos c_7)
    exact J84 _ _ _ x hW hS (lv_sub hl [0, 1, 2, 3, 4, 5, 6, 7] rfl) hok hf_7
  · have hf_7 := hf.trans (if_neg c_7)
    refine lv_iload_n hx hb dX11_drug_10 rfl (lv_at hl 3 rfl) ?_
    refine lv_i2l (v := p3.toInt64) hx hb dX11_drug_11 rfl ?_
    refine lv_lconst (v := 1) hx hb dX11_drug_12 (by decide) ?_
    refine lv_ldc2 hx hb hown (hts (.constantLong RX11 178 (10000)) (by decide +kernel)) dX11_drug_13 ?_
    refine gx_si (rest := []) ⟨hx, hb, hml, hown, hts⟩ (mX11_isIn l E rr x p3.toInt64 1 10000) (va_cwS 3 hts gX11_drug_X11_isIn rfl rfl rfl (by decide +kernel) ⟨Nat.le_of_ble_eq_true rfl, Nat.le_of_ble_eq_true rfl⟩) hW hK rfl hl.1 rfl (Nat.le_of_ble_eq_true rfl) dX11_drug_16 ⟨Nat.le_of_ble_eq_true rfl, Nat.le_of_ble_eq_true rfl⟩ hS (fun _ h => h) (fun _ r2 H locs _ e2 hW hS => ?_)
    have e2 : fX11_isIn p3.toInt64 1 10000 x = r2 := e2
    try rw [e2] at hf_7
    refine lv_if_eq (tgt := 84) hx hb dX11_drug_19 (by decide) (fun c_19 => ?_) (fun c_19 => ?_)
    · have hf_19 := hf_7.trans (if_pos c_19)
      exact J84 _ _ _ x hW hS (lv_sub hl [0, 1, 2, 3, 4, 5, 6, 7] rfl) hok hf_19
    · have hf_19 := hf_7.trans (if_neg c_19)
      refine lv_iload hx hb dX11_drug_22 (lv_at hl 4 rfl) ?_
      refine lv_i2l (v := p4.toInt64) hx hb dX11_drug_24 rfl ?_
      refine lv_lconst (v := 1) hx hb dX11_drug_25 (by decide) ?_
      refine lv_ldc2 hx hb hown (hts (.constantLong RX11 180 (99999)) (by decide +kernel)) dX11_drug_26 ?_
      refine gx_si (rest := []) ⟨hx, hb, hml, hown, hts⟩ (mX11_isIn l E rr x p4.toInt64 1 99999) (va_cwS 3 hts gX11_drug_X11_isIn rfl rfl rfl (by decide +kernel) ⟨Nat.le_of_ble_eq_true rfl, Nat.le_of_ble_eq_true rfl⟩) hW hK rfl hl.1 rfl (Nat.le_of_ble_eq_true rfl) dX11_drug_29 ⟨Nat.le_of_ble_eq_true rfl, Nat.le_of_ble_eq_true rfl⟩ hS (fun _ h => h) (fun _ r3 H locs _ e3 hW hS => ?_)
      have e3 : fX11_isIn p4.toInt64 1 99999 x = r3 := e3
      try rw [e3] at hf_19
      refine lv_if_eq (tgt := 84) hx hb dX11_drug_32 (by decide) (fun c_32 => ?_) (fun c_32 => ?_)
      · have hf_32 := hf_19.trans (if_pos c_32)
        exact J84 _ _ _ x hW hS (lv_sub hl [0, 1, 2, 3, 4, 5, 6, 7] rfl) hok hf_32
      · have hf_32 := hf_19.trans (if_neg c_32)
        refine lv_iload hx hb dX11_drug_35 (lv_at hl 5 rfl) ?_
        refine lv_i2l (v := p5.toInt64) hx hb dX11_drug_37 rfl ?_
        refine lv_iload hx hb dX11_drug_38 (lv_at hl 4 rfl) ?_
        refine lv_i2l (v := p4.toInt64) hx hb dX11_drug_40 rfl ?_
        refine lv_ldc2 hx hb hown (hts (.constantLong RX11 180 (99999)) (by decide +kernel)) dX11_drug_41 ?_
        refine gx_si (rest := []) ⟨hx, hb, hml, hown, hts⟩ (mX11_isIn l E rr x p5.toInt64 p4.toInt64 99999) (va_cwS 3 hts gX11_drug_X11_isIn rfl rfl rfl (by decide +kernel) ⟨Nat.le_of_ble_eq_true rfl, Nat.le_of_ble_eq_true rfl⟩) hW hK rfl hl.1 rfl (Nat.le_of_ble_eq_true rfl) dX11_drug_44 ⟨Nat.le_of_ble_eq_true rfl, Nat.le_of_ble_eq_true rfl⟩ hS (fun _ h => h) (fun _ r4 H locs _ e4 hW hS => ?_)
        have e4 : fX11_isIn p5.toInt64 p4.toInt64 99999 x = r4 := e4
        try rw [e4] at hf_32
        refine lv_if_eq (tgt := 84) hx hb dX11_drug_47 (by decide) (fun c_47 => ?_) (fun c_47 => ?_)
        · have hf_47 := hf_32.trans (if_pos c_47)
          exact J84 _ _ _ x hW hS (lv_sub hl [0, 1, 2, 3, 4, 5, 6, 7] rfl) hok hf_47
        · have hf_47 := hf_32.trans (if_neg c_47)
          refine lv_iload hx hb dX11_drug_50 (lv_at hl 6 rfl) ?_
          refine lv_i2l (v := p6.toInt64) hx hb dX11_drug_52 rfl ?_
          refine lv_iload hx hb dX11_drug_53 (lv_at hl 5 rfl) ?_
          refine lv_i2l (v := p5.toInt64) hx hb dX11_drug_55 rfl ?_
          refine lv_ldc2 hx hb hown (hts (.constantLong RX11 180 (99999)) (by decide +kernel)) dX11_drug_56 ?_
          refine gx_si (rest := []) ⟨hx, hb, hml, hown, hts⟩ (mX11_isIn l E rr x p6.toInt64 p5.toInt64 99999) (va_cwS 3 hts gX11_drug_X11_isIn rfl rfl rfl (by decide +kernel) ⟨Nat.le_of_ble_eq_true rfl, Nat.le_of_ble_eq_true rfl⟩) hW hK rfl hl.1 rfl (Nat.le_of_ble_eq_true rfl) dX11_drug_59 ⟨Nat.le_of_ble_eq_true rfl, Nat.le_of_ble_eq_true rfl⟩ hS (fun _ h => h) (fun _ r5 H locs _ e5 hW hS => ?_)
          have e5 : fX11_isIn p6.toInt64 p5.toInt64 99999 x = r5 := e5
          try rw [e5] at hf_47
          refine lv_if_eq (tgt := 84) hx hb dX11_drug_62 (by decide) (fun c_62 => ?_) (fun c_62 => ?_)
          · have hf_62 := hf_47.trans (if_pos c_62)
            exact J84 _ _ _ x hW hS (lv_sub hl [0, 1, 2, 3, 4, 5, 6, 7] rfl) hok hf_62
          · have hf_62 := hf_47.trans (if_neg c_62)
            refine lv_iload hx hb dX11_drug_65 (lv_at hl 7 rfl) ?_
            refine lv_i2l (v := p7.toInt64) hx hb dX11_drug_67 rfl ?_
            refine lv_iload hx hb dX11_drug_68 (lv_at hl 6 rfl) ?_
            refine lv_i2l (v := p6.toInt64) hx hb dX11_drug_70 rfl ?_
            refine lv_ldc2 hx hb hown (hts (.constantLong RX11 180 (99999)) (by decide +kernel)) dX11_drug_71 ?_
            refine gx_si (rest := []) ⟨hx, hb, hml, hown, hts⟩ (mX11_isIn l E rr x p7.toInt64 p6.toInt64 99999) (va_cwS 3 hts gX11_drug_X11_isIn rfl rfl rfl (by decide +kernel) ⟨Nat.le_of_ble_eq_true rfl, Nat.le_of_ble_eq_true rfl⟩) hW hK rfl hl.1 rfl (Nat.le_of_ble_eq_true rfl) dX11_drug_74 ⟨Nat.le_of_ble_eq_true rfl, Nat.le_of_ble_eq_true rfl⟩ hS (fun _ h => h) (fun _ r6 H locs _ e6 hW hS => ?_)
            have e6 : fX11_isIn p7.toInt64 p6.toInt64 99999 x = r6 := e6
            try rw [e6] at hf_62
            refine lv_if_eq (tgt := 84) hx hb dX11_drug_77 (by decide) (fun c_77 => ?_) (fun c_77 => ?_)
            · have hf_77 := hf_62.trans (if_pos c_77)
              exact J84 _ _ _ x hW hS (lv_sub hl [0, 1, 2, 3, 4, 5, 6, 7] rfl) hok hf_77
            · have hf_77 := hf_62.trans (if_neg c_77)
              refine lv_iconst (v := 1) hx hb dX11_drug_80 (by decide) ?_
              refine lv_goto (tgt := 85) hx hb dX11_drug_81 (by decide) ?_
              exact J85 _ _ _ x 1 hW hS (lv_sub hl [0, 1, 2, 3, 4, 5, 6, 7] rfl) hok hf_77
theorem okX11_drug_J85 {tg bg : Nat} {p1 : Int32} {p2 : Int32} {p3 : Int32} {p4 : Int32} {p5 : Int32} {p6 : Int32} {p7 : Int32} {y : RS} {w0 : Int32} (hok : okR tg bg y) : okR tg bg (fX11_drug_J85 p1 p2 p3 p4 p5 p6 p7 y w0) := by unfold fX11_drug_J85; exact (okR_ite (fun c_97 => (okR_sR rfl hok)) (fun c_97 => (okR_ite (fun c_106 => (okR_sR rfl hok)) (fun c_106 => (okR_ite (fun c_118 => (okR_sR rfl (okR_sR rfl (okR_sR rfl (okR_sR rfl (okR_sR rfl (okR_sR rfl (okR_sR rfl (okR_sR rfl (okR_sR rfl (okR_sR rfl (okR_sR rfl (okR_sR rfl (okR_sR rfl hok)))))))))))))) (fun c_118 => (okR_sR rfl hok)))))))
theorem okX11_drug_J84 {tg bg : Nat} {p1 : Int32} {p2 : Int32} {p3 : Int32} {p4 : Int32} {p5 : Int32} {p6 : Int32} {p7 : Int32} {y : RS} (hok : okR tg bg y) : okR tg bg (fX11_drug_J84 p1 p2 p3 p4 p5 p6 p7 y) := by unfold fX11_drug_J84; exact (okX11_drug_J85 hok)
theorem okX11_drug {tg bg : Nat} {p1 : Int32} {p2 : Int32} {p3 : Int32} {p4 : Int32} {p5 : Int32} {p6 : Int32} {p7 : Int32} {x : RS} (hok : okR tg bg x) : okR tg bg (fX11_drug p1 p2 p3 p4 p5 p6 p7 x) := by unfold fX11_drug; exact (okR_ite (fun c_7 => (okX11_drug_J84 hok)) (fun c_7 => (okR_ite (fun c_19 => (okX11_drug_J84 hok)) (fun c_19 => (okR_ite (fun c_32 => (okX11_drug_J84 hok)) (fun c_32 => (okR_ite (fun c_47 => (okX11_drug_J84 hok)) (fun c_47 => (okR_ite (fun c_62 => (okX11_drug_J84 hok)) (fun c_62 => (okR_ite (fun c_77 => (okX11_drug_J84 hok)) (fun c_77 => (okX11_drug_J85 hok)))))))))))))

def fX11_more_J68 (p1 : Int32) (p2 : Int32) (p3 : Int32) (p4 : Int32) (p5 : Int32) (p6 : Int32) (y : RS) (w0 : Int32) : RS := if (fX11_isDrug p1 y) = 0 then ((sR y 0 0 (1))) else (if w0 = 0 then ((sR y 0 0 (2))) else (if (fX11_isUsed p1 y) = 0 then ((sR (sR (sR (sR (sR (sR y 0 0 (0)) 8 p1.toNatClampNeg (p2)) 9 p1.toNatClampNeg (p3)) 10 p1.toNatClampNeg (p4)) 11 p1.toNatClampNeg (p5)) 12 p1.toNatClampNeg (p6))) else ((sR y 0 0 (3)))))
def fX11_more_J67 (p1 : Int32) (p2 : Int32) (p3 : Int32) (p4 : Int32) (p5 : Int32) (p6 : Int32) (y : RS) : RS := fX11_more_J68 p1 p2 p3 p4 p5 p6 y 0
def fX11_more (p1 : Int32) (p2 : Int32) (p3 : Int32) (p4 : Int32) (p5 : Int32) (p6 : Int32) (x : RS) : RS := if (fX11_isIn p2.toInt64 1 100000 x) = 0 then (fX11_more_J67 p1 p2 p3 p4 p5 p6 x) else (if (fX11_isIn p3.toInt64 0 5000 x) = 0 then (fX11_more_J67 p1 p2 p3 p4 p5 p6 x) else (if (fX11_isIn p4.toInt64 1 30 x) = 0 then (fX11_more_J67 p1 p2 p3 p4 p5 p6 x) else (if (fX11_isIn p5.toInt64 0 3600 x) = 0 then (fX11_more_J67 p1 p2 p3 p4 p5 p6 x) else (if (fX11_isIn p6.toInt64 1 20 x) = 0 then (fX11_more_J67 p1 p2 p3 p4 p5 p6 x) else (fX11_more_J68 p1 p2 p3 p4 p5 p6 x 1)))))
set_option maxHeartbeats 4000000 in
set_option maxRecDepth 100000 in
theorem mX11_more (l : Launch) (E : eE) (rr : Nat) (x : RS) (p1 : Int32) (p2 : Int32) (p3 : Int32) (p4 : Int32) (p5 : Int32) (p6 : Int32) (tg : Nat) (bg : Nat) (hok : okR tg bg x) : Met l yX11_more wsX11_more ({ frames := 2, cells := 0, slots := 0, locals := 46 }) (gPre E (rw_ E rr x) [.ref (rr + 0), .int (p1), .int (p2), .int (p3), .int (p4), .int (p5), .int (p6)]) (gQv E (rw_ E rr) (fX11_more p1 p2 p3 p4 p5 p6 x) (rA rr)) 0 0 (rA rr) := by
  refine Met.ofW (cc := cX11_more) (maxL := 8) (ret := none) (by decide) rfl ?_
  intro p e s m args below meth c s₁ B hml hv
  obtain ⟨rfl, hW, hK⟩ := hv
  have hx := B.exec
  have hb := B.bytes
  have hr := B.returns
  have hts := atoms_spec (ws := wsX11_more) B.pre
  have hown : s.vm.findClass RX11 = some m.cls := findClass_of_methodNamed B.named
  have hlocks := B.notSynchronized
  have i11 : ∀ w ∈ wsX110, w ∈ wsX11_more := by decide +kernel
  have kl32 := hts (.fieldLink RX11 32 "DosePumpModel" "limit" "[I") (by decide +kernel)
  have kl35 := hts (.fieldLink RX11 35 "DosePumpModel" "bolus" "[I") (by decide +kernel)
  have kl38 := hts (.fieldLink RX11 38 "DosePumpModel" "pace" "[I") (by decide +kernel)
  have kl41 := hts (.fieldLink RX11 41 "DosePumpModel" "lockout" "[I") (by decide +kernel)
  have kl44 := hts (.fieldLink RX11 44 "DosePumpModel" "many" "[I") (by decide +kernel)
  have kl159 := hts (.fieldLink RX11 159 "DosePumpModel" "thrown" "I") (by decide +kernel)
  have hS : va_S (rA rr) s.heap s.heap [] := va_S.rf
  have hl := lv_entry ([.ref (rr + 0), .int (p1), .int (p2), .int (p3), .int (p4), .int (p5), .int (p6)]) (n := 8) (Nat.le_of_ble_eq_true rfl)
  rw [lg_entry_eq]
  generalize (lg_sl ([.ref (rr + 0), .int (p1), .int (p2), .int (p3), .int (p4), .int (p5), .int (p6)]) ++ List.replicate (8 - (lg_sl ([.ref (rr + 0), .int (p1), .int (p2), .int (p3), .int (p4), .int (p5), .int (p6)])).length) Slot.unset).toArray = ls at hl ⊢
  have hl : lv_has ls 8 [(0, .ref (rr + 0)), (1, .int (p1)), (2, .int (p2)), (3, .int (p3)), (4, .int (p4)), (5, .int (p5)), (6, .int (p6))] := hl
  have J68 : ∀ (H : Heap) (locs : List Loc) (ls : Array Slot) (y : RS) (w0 : Int32), rw_ E rr y H → va_S (rA rr) s.heap H locs → lv_has ls 8 [(0, .ref (rr + 0)), (1, .int (p1)), (2, .int (p2)), (3, .int (p3)), (4, .int (p4)), (5, .int (p5)), (6, .int (p6))] → okR tg bg y → fX11_more p1 p2 p3 p4 p5 p6 x = fX11_more_J68 p1 p2 p3 p4 p5 p6 y w0 → W p l e (headSpec wsX11_more { frames := 2, cells := 0, slots := 0, locals := 46 }).room s m ([.ref (rr + 0), .int (p1), .int (p2), .int (p3), .int (p4), .int (p5), .int (p6)] : List Value).toArray below meth c H locs 0 0 (MQ below (gQv E (rw_ E rr) (fX11_more p1 p2 p3 p4 p5 p6 x) (rA rr)) ([.ref (rr + 0), .int (p1), .int (p2), .int (p3), .int (p4), .int (p5), .int (p6)] : List Value).toArray s 0 0 (rA rr)) (F0 m 68 ls [.int (w0)]) := by
    intro H locs ls y w0 hW hS hl hok hf
    replace hf : fX11_more p1 p2 p3 p4 p5 p6 x = (if (fX11_isDrug p1 y) = 0 then ((sR y 0 0 (1))) else (if w0 = 0 then ((sR y 0 0 (2))) else (if (fX11_isUsed p1 y) = 0 then ((sR (sR (sR (sR (sR (sR y 0 0 (0)) 8 p1.toNatClampNeg (p2)) 9 p1.toNatClampNeg (p3)) 10 p1.toNatClampNeg (p4)) 11 p1.toNatClampNeg (p5)) 12 p1.toNatClampNeg (p6))) else ((sR y 0 0 (3)))))) := hf
    refine lv_istore (lv' := [(7, .int (w0)), (0, .ref (rr + 0)), (1, .int (p1)), (2, .int (p2)), (3, .int (p3)), (4, .int (p4)), (5, .int (p5)), (6, .int (p6))]) hx hb dX11_more_68 hl (by decide) rfl (fun ls hl => ?_)
    refine lv_aload_n hx hb dX11_more_70 rfl (lv_at hl 1 rfl) ?_
    refine lv_aload_n hx hb dX11_more_71 rfl (lv_at hl 1 rfl) ?_
    refine lv_iload_n hx hb dX11_more_72 rfl (lv_at hl 2 rfl) ?_
    refine gx_i (rest := [.ref (rr + 0)]) ⟨hx, hb, hml, hown, hts⟩ (mX11_isDrug l E rr y p1) (cwV 1 hts gX11_more_X11_isDrug rfl rfl rfl (by decide +kernel) ⟨Nat.le_of_ble_eq_true rfl, Nat.le_of_ble_eq_true rfl⟩) hW hK (fx_recv hK (rwc_0 hW) rfl) rfl hl.1 rfl (Nat.le_of_ble_eq_true rfl) dX11_more_73 ⟨Nat.le_of_ble_eq_true rfl, Nat.le_of_ble_eq_true rfl⟩ hS (fun _ h => h) (fun _ r6 H locs _ e6 hW hS => ?_)
    have e6 : fX11_isDrug p1 y = r6 := e6
    try rw [e6] at hf
    refine lv_if_ne (tgt := 83) hx hb dX11_more_76 (by decide) (fun c_76 => ?_) (fun c_76 => ?_)
    · have hf_76 := hf.trans (if_neg c_76)
      refine lv_iload hx hb dX11_more_83 (lv_at hl 0 rfl) ?_
      refine lv_if_ne (tgt := 92) hx hb dX11_more_85 (by decide) (fun c_85 => ?_) (fun c_85 => ?_)
      · have hf_85 := hf_76.trans (if_neg c_85)
        refine lv_aload_n hx hb dX11_more_92 rfl (lv_at hl 1 rfl) ?_
        refine lv_iload_n hx hb dX11_more_93 rfl (lv_at hl 2 rfl) ?_
        refine gx_i (rest := [.ref (rr + 0)]) ⟨hx, hb, hml, hown, hts⟩ (mX11_isUsed l E rr y p1) (cwV 1 hts gX11_more_X11_isUsed rfl rfl rfl (by decide +kernel) ⟨Nat.le_of_ble_eq_true rfl, Nat.le_of_ble_eq_true rfl⟩) hW hK (fx_recv hK (rwc_0 hW) rfl) rfl hl.1 rfl (Nat.le_of_ble_eq_true rfl) dX11_more_94 ⟨Nat.le_of_ble_eq_true rfl, Nat.le_of_ble_eq_true rfl⟩ hS (fun _ h => h) (fun _ r7 H locs _ e7 hW hS => ?_)
        have e7 : fX11_isUsed p1 y = r7 := e7
        try rw [e7] at hf_85
        refine lv_if_eq (tgt := 104) hx hb dX11_more_97 (by decide) (fun c_97 => ?_) (fun c_97 => ?_)
        · have hf_97 := hf_85.trans (if_pos c_97)
          refine lv_iconst (v := 0) hx hb dX11_more_104 (by decide) ?_
          refine fx_put (ci := 11) (v := .int (0)) hx hb hts i11 tyX11_ok nmX11 hown hK (rwc_0 hW) (rA_o (o := 0) (by decide)) hS rfl 0 (by decide) kl159 rfl rfl rfl (Nat.le_of_ble_eq_true rfl) dX11_more_105 (fun H locs hat hne hS => ?_)
          have hW : rw_ E rr (sR y 0 0 (0)) H := rwf_0 (v := 0) hW hat hne
          refine lv_aload_n hx hb dX11_more_108 rfl (lv_at hl 1 rfl) ?_
          refine fx_get (ci := 11) (v := .int (0)) hx hb hts i11 hown hK (rwc_0 hW) rfl 0 (by decide) kl159 rfl dX11_more_109 ?_
          refine lv_if_le (tgt := 116) hx hb dX11_more_112 (by decide) (fun c9 => ?_) (fun c9 => absurd c9 (by decide))
          refine lv_aload_n hx hb dX11_more_116 rfl (lv_at hl 1 rfl) ?_
          refine fx_get (ci := 11) (v := .ref (rr + 8)) hx hb hts i11 hown hK (rwc_0 hW) rfl 8 (by decide) kl32 rfl dX11_more_117 ?_
          refine lv_iload_n hx hb dX11_more_120 rfl (lv_at hl 2 rfl) ?_
          refine lv_iload_n hx hb dX11_more_121 rfl (lv_at hl 3 rfl) ?_
          refine fx_ist hx hb hK 0 (rwc_8 hW) (rA_o (o := 8) (by decide)) hS rfl (isdrug_in (p1 := p1) (x := y) (by rw [e6]; exact c_76)) dX11_more_122 (fun H locs hat hne hS => ?_)
          have hW : rw_ E rr (sR (sR y 0 0 (0)) 8 p1.toNatClampNeg (p2)) H := rws_8 (k := p1.toNatClampNeg) (v := p2) hW hat hne
          refine lv_aload_n hx hb dX11_more_123 rfl (lv_at hl 1 rfl) ?_
          refine fx_get (ci := 11) (v := .ref (rr + 9)) hx hb hts i11 hown hK (rwc_0 hW) rfl 9 (by decide) kl35 rfl dX11_more_124 ?_
          refine lv_iload_n hx hb dX11_more_127 rfl (lv_at hl 2 rfl) ?_
          refine lv_iload_n hx hb dX11_more_128 rfl (lv_at hl 4 rfl) ?_
          refine fx_ist hx hb hK 0 (rwc_9 hW) (rA_o (o := 9) (by decide)) hS rfl (isdrug_in (p1 := p1) (x := y) (by rw [e6]; exact c_76)) dX11_more_129 (fun H locs hat hne hS => ?_)
          have hW : rw_ E rr (sR (sR (sR y 0 0 (0)) 8 p1.toNatClampNeg (p2)) 9 p1.toNatClampNeg (p3)) H := rws_9 (k := p1.toNatClampNeg) (v := p3) hW hat hne
          refine lv_aload_n hx hb dX11_more_130 rfl (lv_at hl 1 rfl) ?_
          refine fx_get (ci := 11) (v := .ref (rr + 10)) hx hb hts i11 hown hK (rwc_0 hW) rfl 10 (by decide) kl38 rfl dX11_more_131 ?_
          refine lv_iload_n hx hb dX11_more_134 rfl (lv_at hl 2 rfl) ?_
          refine lv_iload hx hb dX11_more_135 (lv_at hl 5 rfl) ?_
          refine fx_ist hx hb hK 0 (rwc_10 hW) (rA_o (o := 10) (by decide)) hS rfl (isdrug_in (p1 := p1) (x := y) (by rw [e6]; exact c_76)) dX11_more_137 (fun H locs hat hne hS => ?_)
          have hW : rw_ E rr (sR (sR (sR (sR y 0 0 (0)) 8 p1.toNatClampNeg (p2)) 9 p1.toNatClampNeg (p3)) 10 p1.toNatClampNeg (p4)) H := rws_10 (k := p1.toNatClampNeg) (v := p4) hW hat hne
          refine lv_aload_n hx hb dX11_more_138 rfl (lv_at hl 1 rfl) ?_
          refine fx_get (ci := 11) (v := .ref (rr + 11)) hx hb hts i11 hown hK (rwc_0 hW) rfl 11 (by decide) kl41 rfl dX11_more_139 ?_
          refine lv_iload_n hx hb dX11_more_142 rfl (lv_at hl 2 rfl) ?_
          refine lv_iload hx hb dX11_more_143 (lv_at hl 6 rfl) ?_
          refine fx_ist hx hb hK 0 (rwc_11 hW) (rA_o (o := 11) (by decide)) hS rfl (isdrug_in (p1 := p1) (x := y) (by rw [e6]; exact c_76)) dX11_more_145 (fun H locs hat hne hS => ?_)
          have hW : rw_ E rr (sR (sR (sR (sR (sR y 0 0 (0)) 8 p1.toNatClampNeg (p2)) 9 p1.toNatClampNeg (p3)) 10 p1.toNatClampNeg (p4)) 11 p1.toNatClampNeg (p5)) H := rws_11 (k := p1.toNatClampNeg) (v := p5) hW hat hne
          refine lv_aload_n hx hb dX11_more_146 rfl (lv_at hl 1 rfl) ?_
          refine fx_get (ci := 11) (v := .ref (rr + 12)) hx hb hts i11 hown hK (rwc_0 hW) rfl 12 (by decide) kl44 rfl dX11_more_147 ?_
          refine lv_iload_n hx hb dX11_more_150 rfl (lv_at hl 2 rfl) ?_
          refine lv_iload hx hb dX11_more_151 (lv_at hl 7 rfl) ?_
          refine fx_ist hx hb hK 0 (rwc_12 hW) (rA_o (o := 12) (by decide)) hS rfl (isdrug_in (p1 := p1) (x := y) (by rw [e6]; exact c_76)) dX11_more_153 (fun H locs hat hne hS => ?_)
          have hW : rw_ E rr (sR (sR (sR (sR (sR (sR y 0 0 (0)) 8 p1.toNatClampNeg (p2)) 9 p1.toNatClampNeg (p3)) 10 p1.toNatClampNeg (p4)) 11 p1.toNatClampNeg (p5)) 12 p1.toNatClampNeg (p6)) H := rws_12 (k := p1.toNatClampNeg) (v := p6) hW hat hne
          exact gx_vret hx hb hr hlocks hK hf_97 hW hS dX11_more_154
        · have hf_97 := hf_85.trans (if_neg c_97)
          refine lv_iconst (v := 3) hx hb dX11_more_100 (by decide) ?_
          refine lv_goto (tgt := 105) hx hb dX11_more_101 (by decide) ?_
          refine fx_put (ci := 11) (v := .int (3)) hx hb hts i11 tyX11_ok nmX11 hown hK (rwc_0 hW) (rA_o (o := 0) (by decide)) hS rfl 0 (by decide) kl159 rfl rfl rfl (Nat.le_of_ble_eq_true rfl) dX11_more_105 (fun H locs hat hne hS => ?_)
          have hW : rw_ E rr (sR y 0 0 (3)) H := rwf_0 (v := 3) hW hat hne
          refine lv_aload_n hx hb dX11_more_108 rfl (lv_at hl 1 rfl) ?_
          refine fx_get (ci := 11) (v := .int (3)) hx hb hts i11 hown hK (rwc_0 hW) rfl 0 (by decide) kl159 rfl dX11_more_109 ?_
          refine lv_if_le (tgt := 116) hx hb dX11_more_112 (by decide) (fun c9 => absurd c9 (by decide)) (fun c9 => ?_)
          exact gx_vret hx hb hr hlocks hK hf_97 hW hS dX11_more_115
      · have hf_85 := hf_76.trans (if_pos c_85)
        refine lv_iconst (v := 2) hx hb dX11_more_88 (by decide) ?_
        refine lv_goto (tgt := 105) hx hb dX11_more_89 (by decide) ?_
        refine fx_put (ci := 11) (v := .int (2)) hx hb hts i11 tyX11_ok nmX11 hown hK (rwc_0 hW) (rA_o (o := 0) (by decide)) hS rfl 0 (by decide) kl159 rfl rfl rfl (Nat.le_of_ble_eq_true rfl) dX11_more_105 (fun H locs hat hne hS => ?_)
        have hW : rw_ E rr (sR y 0 0 (2)) H := rwf_0 (v := 2) hW hat hne
        refine lv_aload_n hx hb dX11_more_108 rfl (lv_at hl 1 rfl) ?_
        refine fx_get (ci := 11) (v := .int (2)) hx hb hts i11 hown hK (rwc_0 hW) rfl 0 (by decide) kl159 rfl dX11_more_109 ?_
        refine lv_if_le (tgt := 116) hx hb dX11_more_112 (by decide) (fun c9 => absurd c9 (by decide)) (fun c9 => ?_)
        exact gx_vret hx hb hr hlocks hK hf_85 hW hS dX11_more_115
    · have hf_76 := hf.trans (if_pos c_76)
      refine lv_iconst (v := 1) hx hb dX11_more_79 (by decide) ?_
      refine lv_goto (tgt := 105) hx hb dX11_more_80 (by decide) ?_
      refine fx_put (ci := 11) (v := .int (1)) hx hb hts i11 tyX11_ok nmX11 hown hK (rwc_0 hW) (rA_o (o := 0) (by decide)) hS rfl 0 (by decide) kl159 rfl rfl rfl (Nat.le_of_ble_eq_true rfl) dX11_more_105 (fun H locs hat hne hS => ?_)
      have hW : rw_ E rr (sR y 0 0 (1)) H := rwf_0 (v := 1) hW hat hne
      refine lv_aload_n hx hb dX11_more_108 rfl (lv_at hl 1 rfl) ?_
      refine fx_get (ci := 11) (v := .int (1)) hx hb hts i11 hown hK (rwc_0 hW) rfl 0 (by decide) kl159 rfl dX11_more_109 ?_
      refine lv_if_le (tgt := 116) hx hb dX11_more_112 (by decide) (fun c9 => absurd c9 (by decide)) (fun c9 => ?_)
      exact gx_vret hx hb hr hlocks hK hf_76 hW hS dX11_more_115
  have J67 : ∀ (H : Heap) (locs : List Loc) (ls : Array Slot) (y : RS), rw_ E rr y H → va_S (rA rr) s.heap H locs → lv_has ls 8 [(0, .ref (rr + 0)), (1, .int (p1)), (2, .int (p2)), (3, .int (p3)), (4, .int (p4)), (5, .int (p5)), (6, .int (p6))] → okR tg bg y → fX11_more p1 p2 p3 p4 p5 p6 x = fX11_more_J67 p1 p2 p3 p4 p5 p6 y → W p l e (headSpec wsX11_more { frames := 2, cells := 0, slots := 0, locals := 46 }).room s m ([.ref (rr + 0), .int (p1), .int (p2), .int (p3), .int (p4), .int (p5), .int (p6)] : List Value).toArray below meth c H locs 0 0 (MQ below (gQv E (rw_ E rr) (fX11_more p1 p2 p3 p4 p5 p6 x) (rA rr)) ([.ref (rr + 0), .int (p1), .int (p2), .int (p3), .int (p4), .int (p5), .int (p6)] : List Value).toArray s 0 0 (rA rr)) (F0 m 67 ls []) := by
    intro H locs ls y hW hS hl hok hf
    replace hf : fX11_more p1 p2 p3 p4 p5 p6 x = (fX11_more_J68 p1 p2 p3 p4 p5 p6 y 0) := hf
    refine lv_iconst (v := 0) hx hb dX11_more_67 (by decide) ?_
    exact J68 _ _ _ y 0 hW hS (lv_sub hl [0, 1, 2, 3, 4, 5, 6] rfl) hok hf
  have hf : fX11_more p1 p2 p3 p4 p5 p6 x = (if (fX11_isIn p2.toInt64 1 100000 x) = 0 then (fX11_more_J67 p1 p2 p3 p4 p5 p6 x) else (if (fX11_isIn p3.toInt64 0 5000 x) = 0 then (fX11_more_J67 p1 p2 p3 p4 p5 p6 x) else (if (fX11_isIn p4.toInt64 1 30 x) = 0 then (fX11_more_J67 p1 p2 p3 p4 p5 p6 x) else (if (fX11_isIn p5.toInt64 0 3600 x) = 0 then (fX11_more_J67 p1 p2 p3 p4 p5 p6 x) else (if (fX11_isIn p6.toInt64 1 20 x) = 0 then (fX11_more_J67 p1 p2 p3 p4 p5 p6 x) else (fX11_more_J68 p1 p2 p3 p4 p5 p6 x 1)))))) := rfl
  refine lv_iload_n hx hb dX11_more_0 rfl (lv_at hl 2 rfl) ?_
  refine lv_i2l (v := p2.toInt64) hx hb dX11_more_1 rfl ?_
  refine lv_lconst (v := 1) hx hb dX11_more_2 (by decide) ?_
  refine lv_ldc2 hx hb hown (hts (.constantLong RX11 189 (100000)) (by decide +kernel)) dX11_more_3 ?_
  refine gx_si (rest := []) ⟨hx, hb, hml, hown, hts⟩ (mX11_isIn l E rr x p2.toInt64 1 100000) (va_cwS 3 hts gX11_more_X11_isIn rfl rfl rfl (by decide +kernel) ⟨Nat.le_of_ble_eq_true rfl, Nat.le_of_ble_eq_true rfl⟩) hW hK rfl hl.1 rfl (Nat.le_of_ble_eq_true rfl) dX11_more_6 ⟨Nat.le_of_ble_eq_true rfl, Nat.le_of_ble_eq_true rfl⟩ hS (fun _ h => h) (fun _ r1 H locs _ e1 hW hS => ?_)
  have e1 : fX11_isIn p2.toInt64 1 100000 x = r1 := e1
  try rw [e1] at hf
  refine lv_if_eq (tgt := 67) hx hb dX11_more_9 (by decide) (fun c_9 => ?_) (fun c_9 => ?_)
  · have hf_9 := hf.trans (if_pos c_9)
    exact J67 _ _ _ x hW hS (lv_sub hl [0, 1, 2, 3, 4, 5, 6] rfl) hok hf_9
  · have hf_9 := hf.trans (if_neg c_9)
    refine lv_iload_n hx hb dX11_more_12 rfl (lv_at hl 3 rfl) ?_
    refine lv_i2l (v := p3.toInt64) hx hb dX11_more_13 rfl ?_
    refine lv_lconst (v := 0) hx hb dX11_more_14 (by decide) ?_
    refine lv_ldc2 hx hb hown (hts (.constantLong RX11 191 (5000)) (by decide +kernel)) dX11_more_15 ?_
    refine gx_si (rest := []) ⟨hx, hb, hml, hown, hts⟩ (mX11_isIn l E rr x p3.toInt64 0 5000) (va_cwS 3 hts gX11_more_X11_isIn rfl rfl rfl (by decide +kernel) ⟨Nat.le_of_ble_eq_true rfl, Nat.le_of_ble_eq_true rfl⟩) hW hK rfl hl.1 rfl (Nat.le_of_ble_eq_true rfl) dX11_more_18 ⟨Nat.le_of_ble_eq_true rfl, Nat.le_of_ble_eq_true rfl⟩ hS (fun _ h => h) (fun _ r2 H locs _ e2 hW hS => ?_)
    have e2 : fX11_isIn p3.toInt64 0 5000 x = r2 := e2
    try rw [e2] at hf_9
    refine lv_if_eq (tgt := 67) hx hb dX11_more_21 (by decide) (fun c_21 => ?_) (fun c_21 => ?_)
    · have hf_21 := hf_9.trans (if_pos c_21)
      exact J67 _ _ _ x hW hS (lv_sub hl [0, 1, 2, 3, 4, 5, 6] rfl) hok hf_21
    · have hf_21 := hf_9.trans (if_neg c_21)
      refine lv_iload hx hb dX11_more_24 (lv_at hl 4 rfl) ?_
      refine lv_i2l (v := p4.toInt64) hx hb dX11_more_26 rfl ?_
      refine lv_lconst (v := 1) hx hb dX11_more_27 (by decide) ?_
      refine lv_ldc2 hx hb hown (hts (.constantLong RX11 193 (30)) (by decide +kernel)) dX11_more_28 ?_
      refine gx_si (rest := []) ⟨hx, hb, hml, hown, hts⟩ (mX11_isIn l E rr x p4.toInt64 1 30) (va_cwS 3 hts gX11_more_X11_isIn rfl rfl rfl (by decide +kernel) ⟨Nat.le_of_ble_eq_true rfl, Nat.le_of_ble_eq_true rfl⟩) hW hK rfl hl.1 rfl (Nat.le_of_ble_eq_true rfl) dX11_more_31 ⟨Nat.le_of_ble_eq_true rfl, Nat.le_of_ble_eq_true rfl⟩ hS (fun _ h => h) (fun _ r3 H locs _ e3 hW hS => ?_)
      have e3 : fX11_isIn p4.toInt64 1 30 x = r3 := e3
      try rw [e3] at hf_21
      refine lv_if_eq (tgt := 67) hx hb dX11_more_34 (by decide) (fun c_34 => ?_) (fun c_34 => ?_)
      · have hf_34 := hf_21.trans (if_pos c_34)
        exact J67 _ _ _ x hW hS (lv_sub hl [0, 1, 2, 3, 4, 5, 6] rfl) hok hf_34
      · have hf_34 := hf_21.trans (if_neg c_34)
        refine lv_iload hx hb dX11_more_37 (lv_at hl 5 rfl) ?_
        refine lv_i2l (v := p5.toInt64) hx hb dX11_more_39 rfl ?_
        refine lv_lconst (v := 0) hx hb dX11_more_40 (by decide) ?_
        refine lv_ldc2 hx hb hown (hts (.constantLong RX11 195 (3600)) (by decide +kernel)) dX11_more_41 ?_
        refine gx_si (rest := []) ⟨hx, hb, hml, hown, hts⟩ (mX11_isIn l E rr x p5.toInt64 0 3600) (va_cwS 3 hts gX11_more_X11_isIn rfl rfl rfl (by decide +kernel) ⟨Nat.le_of_ble_eq_true rfl, Nat.le_of_ble_eq_true rfl⟩) hW hK rfl hl.1 rfl (Nat.le_of_ble_eq_true rfl) dX11_more_44 ⟨Nat.le_of_ble_eq_true rfl, Nat.le_of_ble_eq_true rfl⟩ hS (fun _ h => h) (fun _ r4 H locs _ e4 hW hS => ?_)
        have e4 : fX11_isIn p5.toInt64 0 3600 x = r4 := e4
        try rw [e4] at hf_34
        refine lv_if_eq (tgt := 67) hx hb dX11_more_47 (by decide) (fun c_47 => ?_) (fun c_47 => ?_)
        · have hf_47 := hf_34.trans (if_pos c_47)
          exact J67 _ _ _ x hW hS (lv_sub hl [0, 1, 2, 3, 4, 5, 6] rfl) hok hf_47
        · have hf_47 := hf_34.trans (if_neg c_47)
          refine lv_iload hx hb dX11_more_50 (lv_at hl 6 rfl) ?_
          refine lv_i2l (v := p6.toInt64) hx hb dX11_more_52 rfl ?_
          refine lv_lconst (v := 1) hx hb dX11_more_53 (by decide) ?_
          refine lv_ldc2 hx hb hown (hts (.constantLong RX11 197 (20)) (by decide +kernel)) dX11_more_54 ?_
          refine gx_si (rest := []) ⟨hx, hb, hml, hown, hts⟩ (mX11_isIn l E rr x p6.toInt64 1 20) (va_cwS 3 hts gX11_more_X11_isIn rfl rfl rfl (by decide +kernel) ⟨Nat.le_of_ble_eq_true rfl, Nat.le_of_ble_eq_true rfl⟩) hW hK rfl hl.1 rfl (Nat.le_of_ble_eq_true rfl) dX11_more_57 ⟨Nat.le_of_ble_eq_true rfl, Nat.le_of_ble_eq_true rfl⟩ hS (fun _ h => h) (fun _ r5 H locs _ e5 hW hS => ?_)
          have e5 : fX11_isIn p6.toInt64 1 20 x = r5 := e5
          try rw [e5] at hf_47
          refine lv_if_eq (tgt := 67) hx hb dX11_more_60 (by decide) (fun c_60 => ?_) (fun c_60 => ?_)
          · have hf_60 := hf_47.trans (if_pos c_60)
            exact J67 _ _ _ x hW hS (lv_sub hl [0, 1, 2, 3, 4, 5, 6] rfl) hok hf_60
          · have hf_60 := hf_47.trans (if_neg c_60)
            refine lv_iconst (v := 1) hx hb dX11_more_63 (by decide) ?_
            refine lv_goto (tgt := 68) hx hb dX11_more_64 (by decide) ?_
            exact J68 _ _ _ x 1 hW hS (lv_sub hl [0, 1, 2, 3, 4, 5, 6] rfl) hok hf_60
theorem okX11_more_J68 {tg bg : Nat} {p1 : Int32} {p2 : Int32} {p3 : Int32} {p4 : Int32} {p5 : Int32} {p6 : Int32} {y : RS} {w0 : Int32} (hok : okR tg bg y) : okR tg bg (fX11_more_J68 p1 p2 p3 p4 p5 p6 y w0) := by unfold fX11_more_J68; exact (okR_ite (fun c_76 => (okR_sR rfl hok)) (fun c_76 => (okR_ite (fun c_85 => (okR_sR rfl hok)) (fun c_85 => (okR_ite (fun c_97 => (okR_sR rfl (okR_sR rfl (okR_sR rfl (okR_sR rfl (okR_sR rfl (okR_sR rfl hok))))))) (fun c_97 => (okR_sR rfl hok)))))))
theorem okX11_more_J67 {tg bg : Nat} {p1 : Int32} {p2 : Int32} {p3 : Int32} {p4 : Int32} {p5 : Int32} {p6 : Int32} {y : RS} (hok : okR tg bg y) : okR tg bg (fX11_more_J67 p1 p2 p3 p4 p5 p6 y) := by unfold fX11_more_J67; exact (okX11_more_J68 hok)
theorem okX11_more {tg bg : Nat} {p1 : Int32} {p2 : Int32} {p3 : Int32} {p4 : Int32} {p5 : Int32} {p6 : Int32} {x : RS} (hok : okR tg bg x) : okR tg bg (fX11_more p1 p2 p3 p4 p5 p6 x) := by unfold fX11_more; exact (okR_ite (fun c_9 => (okX11_more_J67 hok)) (fun c_9 => (okR_ite (fun c_21 => (okX11_more_J67 hok)) (fun c_21 => (okR_ite (fun c_34 => (okX11_more_J67 hok)) (fun c_34 => (okR_ite (fun c_47 => (okX11_more_J67 hok)) (fun c_47 => (okR_ite (fun c_60 => (okX11_more_J67 hok)) (fun c_60 => (okX11_more_J68 hok)))))))))))
