/-! the reference: a tick -/
def fX11_beginTick_L12 : Nat → RS → Int32 → RS
  | 0, y, v1 => y
  | k9 + 1, y, v1 => if (3 : Int32) ≤ v1 then (y) else (fX11_beginTick_L12 k9 (sR (sR (sR (sR (sR (sR (sR y 30 v1.toNatClampNeg (0)) 35 v1.toNatClampNeg ((y.1 35 v1.toNatClampNeg) - (y.1 32 ((((3600 : Int32) * v1) + ((y.1 0 45) - (y.1 0 45) / 3600 * 3600)).toNatClampNeg)))) 32 ((((3600 : Int32) * v1) + ((y.1 0 45) - (y.1 0 45) / 3600 * 3600)).toNatClampNeg) (0)) 36 v1.toNatClampNeg ((y.1 36 v1.toNatClampNeg) - (y.1 33 ((((3600 : Int32) * v1) + ((y.1 0 45) - (y.1 0 45) / 3600 * 3600)).toNatClampNeg)))) 33 ((((3600 : Int32) * v1) + ((y.1 0 45) - (y.1 0 45) / 3600 * 3600)).toNatClampNeg) (0)) 37 v1.toNatClampNeg ((y.1 37 v1.toNatClampNeg) - (y.1 34 ((((900 : Int32) * v1) + ((y.1 0 45) - (y.1 0 45) / 900 * 900)).toNatClampNeg)))) 34 ((((900 : Int32) * v1) + ((y.1 0 45) - (y.1 0 45) / 900 * 900)).toNatClampNeg) (0)) (v1 + 1))
def fX11_beginTick (x : RS) : RS := fX11_beginTick_L12 (mu32 0 3 + 1) (sR x 0 45 ((x.1 0 45) + 1)) 0
set_option maxHeartbeats 4000000 in
set_option maxRecDepth 100000 in
theorem mX11_beginTick (l : Launch) (E : eE) (rr : Nat) (x : RS) (tg : Nat) (bg : Nat) (hok : okR (tg + 1) bg x) : Met l yX11_beginTick wsX11_beginTick ({ frames := 0, cells := 0, slots := 0, locals := 0 }) (gPre E (rw_ E rr x) [.ref (rr + 0)]) (gQv E (rw_ E rr) (fX11_beginTick x) (rA rr)) 0 0 (rA rr) := by
  refine Met.ofW (cc := cX11_beginTick) (maxL := 2) (ret := none) (by decide) rfl ?_
  intro p e s m args below meth c s₁ B hml hv
  obtain ⟨rfl, hW, hK⟩ := hv
  have hx := B.exec
  have hb := B.bytes
  have hr := B.returns
  have hts := atoms_spec (ws := wsX11_beginTick) B.pre
  have hown : s.vm.findClass RX11 = some m.cls := findClass_of_methodNamed B.named
  have hlocks := B.notSynchronized
  have i11 : ∀ w ∈ wsX110, w ∈ wsX11_beginTick := by decide +kernel
  have kl98 := hts (.fieldLink RX11 98 "DosePumpModel" "done" "[Z") (by decide +kernel)
  have kl104 := hts (.fieldLink RX11 104 "DosePumpModel" "strokes" "[I") (by decide +kernel)
  have kl107 := hts (.fieldLink RX11 107 "DosePumpModel" "begun" "[I") (by decide +kernel)
  have kl110 := hts (.fieldLink RX11 110 "DosePumpModel" "airs" "[I") (by decide +kernel)
  have kl113 := hts (.fieldLink RX11 113 "DosePumpModel" "inHour" "[I") (by decide +kernel)
  have kl116 := hts (.fieldLink RX11 116 "DosePumpModel" "begunInHour" "[I") (by decide +kernel)
  have kl119 := hts (.fieldLink RX11 119 "DosePumpModel" "airsNow" "[I") (by decide +kernel)
  have kl167 := hts (.fieldLink RX11 167 "DosePumpModel" "time" "I") (by decide +kernel)
  have hS : va_S (rA rr) s.heap s.heap [] := va_S.rf
  have hl := lv_entry ([.ref (rr + 0)]) (n := 2) (Nat.le_of_ble_eq_true rfl)
  rw [lg_entry_eq]
  generalize (lg_sl ([.ref (rr + 0)]) ++ List.replicate (2 - (lg_sl ([.ref (rr + 0)])).length) Slot.unset).toArray = ls at hl ⊢
  have hl : lv_has ls 2 [(0, .ref (rr + 0))] := hl
  have J12 : ∀ (k8 : Nat) (H : Heap) (locs : List Loc) (ls : Array Slot) (y : RS) (v1 : Int32), rw_ E rr y H → va_S (rA rr) s.heap H locs → lv_has ls 2 [(0, .ref (rr + 0)), (1, .int (v1))] → okR tg bg y → mu32 v1 3 < k8 ∧ 0 ≤ v1.toInt → fX11_beginTick x = fX11_beginTick_L12 k8 y v1 → W p l e (headSpec wsX11_beginTick { frames := 0, cells := 0, slots := 0, locals := 0 }).room s m ([.ref (rr + 0)] : List Value).toArray below meth c H locs 0 0 (MQ below (gQv E (rw_ E rr) (fX11_beginTick x) (rA rr)) ([.ref (rr + 0)] : List Value).toArray s 0 0 (rA rr)) (F0 m 12 ls []) := by
    intro k8
    induction k8 with
    | zero =>
      intro H locs ls y v1 hW hS hl hok hmu hf
      exact absurd hmu (by omega)
    | succ k9 ih =>
      intro H locs ls y v1 hW hS hl hok hmu hf
      replace hf : fX11_beginTick x = (if (3 : Int32) ≤ v1 then (y) else (fX11_beginTick_L12 k9 (sR (sR (sR (sR (sR (sR (sR y 30 v1.toNatClampNeg (0)) 35 v1.toNatClampNeg ((y.1 35 v1.toNatClampNeg) - (y.1 32 ((((3600 : Int32) * v1) + ((y.1 0 45) - (y.1 0 45) / 3600 * 3600)).toNatClampNeg)))) 32 ((((3600 : Int32) * v1) + ((y.1 0 45) - (y.1 0 45) / 3600 * 3600)).toNatClampNeg) (0)) 36 v1.toNatClampNeg ((y.1 36 v1.toNatClampNeg) - (y.1 33 ((((3600 : Int32) * v1) + ((y.1 0 45) - (y.1 0 45) / 3600 * 3600)).toNatClampNeg)))) 33 ((((3600 : Int32) * v1) + ((y.1 0 45) - (y.1 0 45) / 3600 * 3600)).toNatClampNeg) (0)) 37 v1.toNatClampNeg ((y.1 37 v1.toNatClampNeg) - (y.1 34 ((((900 : Int32) * v1) + ((y.1 0 45) - (y.1 0 45) / 900 * 900)).toNatClampNeg)))) 34 ((((900 : Int32) * v1) + ((y.1 0 45) - (y.1 0 45) / 900 * 900)).toNatClampNeg) (0)) (v1 + 1))) := hf
      refine lv_iload_n hx hb dX11_beginTick_12 rfl (lv_at hl 1 rfl) ?_
      refine lv_iconst (v := 3) hx hb dX11_beginTick_13 (by decide) ?_
      refine lv_icmp_ge (tgt := 174) hx hb dX11_beginTick_14 (by decide) (fun c_14 => ?_) (fun c_14 => ?_)
      · have hf_14 := hf.trans (if_pos c_14)
        exact gx_vret hx hb hr hlocks hK hf_14 hW hS dX11_beginTick_174
      · have hf_14 := hf.trans (if_neg c_14)
        refine lv_aload_n hx hb dX11_beginTick_17 rfl (lv_at hl 0 rfl) ?_
        refine fx_get (ci := 11) (v := .ref (rr + 30)) hx hb hts i11 hown hK (rwc_0 hW) rfl 30 (by decide) kl98 rfl dX11_beginTick_18 ?_
        refine lv_iload_n hx hb dX11_beginTick_21 rfl (lv_at hl 1 rfl) ?_
        refine lv_iconst (v := 0) hx hb dX11_beginTick_22 (by decide) ?_
        refine fx_zst hx hb hK 1 (rwc_30 hW) (rA_o (o := 30) (by decide)) hS rfl (by decide) (vi_c3 hmu.2 c_14) dX11_beginTick_23 (fun H locs hat hne hS => ?_)
        have hW : rw_ E rr (sR y 30 v1.toNatClampNeg (0)) H := rws_30 (k := v1.toNatClampNeg) (v := 0) hW hat hne
        refine lv_aload_n hx hb dX11_beginTick_24 rfl (lv_at hl 0 rfl) ?_
        refine fx_get (ci := 11) (v := .ref (rr + 35)) hx hb hts i11 hown hK (rwc_0 hW) rfl 35 (by decide) kl113 rfl dX11_beginTick_25 ?_
        refine lv_iload_n hx hb dX11_beginTick_28 rfl (lv_at hl 1 rfl) ?_
        refine lv_dup2_11 hx hb dX11_beginTick_29 rfl rfl ?_
        refine fx_ild hx hb hK 0 (rwc_35 hW) rfl (vi_c3 hmu.2 c_14) dX11_beginTick_30 ?_
        refine lv_aload_n hx hb dX11_beginTick_31 rfl (lv_at hl 0 rfl) ?_
        refine fx_get (ci := 11) (v := .ref (rr + 32)) hx hb hts i11 hown hK (rwc_0 hW) rfl 32 (by decide) kl104 rfl dX11_beginTick_32 ?_
        refine lv_sipush (v := 3600) hx hb dX11_beginTick_35 (by decide) ?_
        refine lv_iload_n hx hb dX11_beginTick_38 rfl (lv_at hl 1 rfl) ?_
        refine lv_imul hx hb dX11_beginTick_39 ?_
        refine lv_aload_n hx hb dX11_beginTick_40 rfl (lv_at hl 0 rfl) ?_
        refine fx_get (ci := 11) (v := .int (y.1 0 45)) hx hb hts i11 hown hK (rwc_0 hW) rfl 45 (by decide) kl167 rfl dX11_beginTick_41 ?_
        refine lv_sipush (v := 3600) hx hb dX11_beginTick_44 (by decide) ?_
        refine lv_irem hx hb dX11_beginTick_47 (by decide) ?_
        refine lv_iadd hx hb dX11_beginTick_48 ?_
        refine fx_ild hx hb hK 0 (rwc_32 hW) rfl (vi_hr (vi_c3 hmu.2 c_14) hok.1.1) dX11_beginTick_49 ?_
        refine lv_isub hx hb dX11_beginTick_50 ?_
        refine fx_ist hx hb hK 0 (rwc_35 hW) (rA_o (o := 35) (by decide)) hS rfl (vi_c3 hmu.2 c_14) dX11_beginTick_51 (fun H locs hat hne hS => ?_)
        have hW : rw_ E rr (sR (sR y 30 v1.toNatClampNeg (0)) 35 v1.toNatClampNeg ((y.1 35 v1.toNatClampNeg) - (y.1 32 ((((3600 : Int32) * v1) + ((y.1 0 45) - (y.1 0 45) / 3600 * 3600)).toNatClampNeg)))) H := rws_35 (k := v1.toNatClampNeg) (v := (y.1 35 v1.toNatClampNeg) - (y.1 32 ((((3600 : Int32) * v1) + ((y.1 0 45) - (y.1 0 45) / 3600 * 3600)).toNatClampNeg))) hW hat hne
        refine lv_aload_n hx hb dX11_beginTick_52 rfl (lv_at hl 0 rfl) ?_
        refine fx_get (ci := 11) (v := .ref (rr + 32)) hx hb hts i11 hown hK (rwc_0 hW) rfl 32 (by decide) kl104 rfl dX11_beginTick_53 ?_
        refine lv_sipush (v := 3600) hx hb dX11_beginTick_56 (by decide) ?_
        refine lv_iload_n hx hb dX11_beginTick_59 rfl (lv_at hl 1 rfl) ?_
        refine lv_imul hx hb dX11_beginTick_60 ?_
        refine lv_aload_n hx hb dX11_beginTick_61 rfl (lv_at hl 0 rfl) ?_
        refine fx_get (ci := 11) (v := .int (y.1 0 45)) hx hb hts i11 hown hK (rwc_0 hW) rfl 45 (by decide) kl167 rfl dX11_beginTick_62 ?_
        refine lv_sipush (v := 3600) hx hb dX11_beginTick_65 (by decide) ?_
        refine lv_irem hx hb dX11_beginTick_68 (by decide) ?_
        refine lv_iadd hx hb dX11_beginTick_69 ?_
        refine lv_iconst (v := 0) hx hb dX11_beginTick_70 (by decide) ?_
        refine fx_ist hx hb hK 0 (rwc_32 hW) (rA_o (o := 32) (by decide)) hS rfl (vi_hr (vi_c3 hmu.2 c_14) hok.1.1) dX11_beginTick_71 (fun H locs hat hne hS => ?_)
        have hW : rw_ E rr (sR (sR (sR y 30 v1.toNatClampNeg (0)) 35 v1.toNatClampNeg ((y.1 35 v1.toNatClampNeg) - (y.1 32 ((((3600 : Int32) * v1) + ((y.1 0 45) - (y.1 0 45) / 3600 * 3600)).toNatClampNeg)))) 32 ((((3600 : Int32) * v1) + ((y.1 0 45) - (y.1 0 45) / 3600 * 3600)).toNatClampNeg) (0)) H := rws_32 (k := ((((3600 : Int32) * v1) + ((y.1 0 45) - (y.1 0 45) / 3600 * 3600)).toNatClampNeg)) (v := 0) hW hat hne
        refine lv_aload_n hx hb dX11_beginTick_72 rfl (lv_at hl 0 rfl) ?_
        refine fx_get (ci := 11) (v := .ref (rr + 36)) hx hb hts i11 hown hK (rwc_0 hW) rfl 36 (by decide) kl116 rfl dX11_beginTick_73 ?_
        refine lv_iload_n hx hb dX11_beginTick_76 rfl (lv_at hl 1 rfl) ?_
        refine lv_dup2_11 hx hb dX11_beginTick_77 rfl rfl ?_
        refine fx_ild hx hb hK 0 (rwc_36 hW) rfl (vi_c3 hmu.2 c_14) dX11_beginTick_78 ?_
        refine lv_aload_n hx hb dX11_beginTick_79 rfl (lv_at hl 0 rfl) ?_
        refine fx_get (ci := 11) (v := .ref (rr + 33)) hx hb hts i11 hown hK (rwc_0 hW) rfl 33 (by decide) kl107 rfl dX11_beginTick_80 ?_
        refine lv_sipush (v := 3600) hx hb dX11_beginTick_83 (by decide) ?_
        refine lv_iload_n hx hb dX11_beginTick_86 rfl (lv_at hl 1 rfl) ?_
        refine lv_imul hx hb dX11_beginTick_87 ?_
        refine lv_aload_n hx hb dX11_beginTick_88 rfl (lv_at hl 0 rfl) ?_
        refine fx_get (ci := 11) (v := .int (y.1 0 45)) hx hb hts i11 hown hK (rwc_0 hW) rfl 45 (by decide) kl167 rfl dX11_beginTick_89 ?_
        refine lv_sipush (v := 3600) hx hb dX11_beginTick_92 (by decide) ?_
        refine lv_irem hx hb dX11_beginTick_95 (by decide) ?_
        refine lv_iadd hx hb dX11_beginTick_96 ?_
        refine fx_ild hx hb hK 0 (rwc_33 hW) rfl (vi_hr (vi_c3 hmu.2 c_14) hok.1.1) dX11_beginTick_97 ?_
        refine lv_isub hx hb dX11_beginTick_98 ?_
        refine fx_ist hx hb hK 0 (rwc_36 hW) (rA_o (o := 36) (by decide)) hS rfl (vi_c3 hmu.2 c_14) dX11_beginTick_99 (fun H locs hat hne hS => ?_)
        have hW : rw_ E rr (sR (sR (sR (sR y 30 v1.toNatClampNeg (0)) 35 v1.toNatClampNeg ((y.1 35 v1.toNatClampNeg) - (y.1 32 ((((3600 : Int32) * v1) + ((y.1 0 45) - (y.1 0 45) / 3600 * 3600)).toNatClampNeg)))) 32 ((((3600 : Int32) * v1) + ((y.1 0 45) - (y.1 0 45) / 3600 * 3600)).toNatClampNeg) (0)) 36 v1.toNatClampNeg ((y.1 36 v1.toNatClampNeg) - (y.1 33 ((((3600 : Int32) * v1) + ((y.1 0 45) - (y.1 0 45) / 3600 * 3600)).toNatClampNeg)))) H := rws_36 (k := v1.toNatClampNeg) (v := (y.1 36 v1.toNatClampNeg) - (y.1 33 ((((3600 : Int32) * v1) + ((y.1 0 45) - (y.1 0 45) / 3600 * 3600)).toNatClampNeg))) hW hat hne
        refine lv_aload_n hx hb dX11_beginTick_100 rfl (lv_at hl 0 rfl) ?_
        refine fx_get (ci := 11) (v := .ref (rr + 33)) hx hb hts i11 hown hK (rwc_0 hW) rfl 33 (by decide) kl107 rfl dX11_beginTick_101 ?_
        refine lv_sipush (v := 3600) hx hb dX11_beginTick_104 (by decide) ?_
        refine lv_iload_n hx hb dX11_beginTick_107 rfl (lv_at hl 1 rfl) ?_
        refine lv_imul hx hb dX11_beginTick_108 ?_
        refine lv_aload_n hx hb dX11_beginTick_109 rfl (lv_at hl 0 rfl) ?_
        refine fx_get (ci := 11) (v := .int (y.1 0 45)) hx hb hts i11 hown hK (rwc_0 hW) rfl 45 (by decide) kl167 rfl dX11_beginTick_110 ?_
        refine lv_sipush (v := 3600) hx hb dX11_beginTick_113 (by decide) ?_
        refine lv_irem hx hb dX11_beginTick_116 (by decide) ?_
        refine lv_iadd hx hb dX11_beginTick_117 ?_
        refine lv_iconst (v := 0) hx hb dX11_beginTick_118 (by decide) ?_
        refine fx_ist hx hb hK 0 (rwc_33 hW) (rA_o (o := 33) (by decide)) hS rfl (vi_hr (vi_c3 hmu.2 c_14) hok.1.1) dX11_beginTick_119 (fun H locs hat hne hS => ?_)
        have hW : rw_ E rr (sR (sR (sR (sR (sR y 30 v1.toNatClampNeg (0)) 35 v1.toNatClampNeg ((y.1 35 v1.toNatClampNeg) - (y.1 32 ((((3600 : Int32) * v1) + ((y.1 0 45) - (y.1 0 45) / 3600 * 3600)).toNatClampNeg)))) 32 ((((3600 : Int32) * v1) + ((y.1 0 45) - (y.1 0 45) / 3600 * 3600)).toNatClampNeg) (0)) 36 v1.toNatClampNeg ((y.1 36 v1.toNatClampNeg) - (y.1 33 ((((3600 : Int32) * v1) + ((y.1 0 45) - (y.1 0 45) / 3600 * 3600)).toNatClampNeg)))) 33 ((((3600 : Int32) * v1) + ((y.1 0 45) - (y.1 0 45) / 3600 * 3600)).toNatClampNeg) (0)) H := rws_33 (k := ((((3600 : Int32) * v1) + ((y.1 0 45) - (y.1 0 45) / 3600 * 3600)).toNatClampNeg)) (v := 0) hW hat hne
        refine lv_aload_n hx hb dX11_beginTick_120 rfl (lv_at hl 0 rfl) ?_
        refine fx_get (ci := 11) (v := .ref (rr + 37)) hx hb hts i11 hown hK (rwc_0 hW) rfl 37 (by decide) kl119 rfl dX11_beginTick_121 ?_
        refine lv_iload_n hx hb dX11_beginTick_124 rfl (lv_at hl 1 rfl) ?_
        refine lv_dup2_11 hx hb dX11_beginTick_125 rfl rfl ?_
        refine fx_ild hx hb hK 0 (rwc_37 hW) rfl (vi_c3 hmu.2 c_14) dX11_beginTick_126 ?_
        refine lv_aload_n hx hb dX11_beginTick_127 rfl (lv_at hl 0 rfl) ?_
        refine fx_get (ci := 11) (v := .ref (rr + 34)) hx hb hts i11 hown hK (rwc_0 hW) rfl 34 (by decide) kl110 rfl dX11_beginTick_128 ?_
        refine lv_sipush (v := 900) hx hb dX11_beginTick_131 (by decide) ?_
        refine lv_iload_n hx hb dX11_beginTick_134 rfl (lv_at hl 1 rfl) ?_
        refine lv_imul hx hb dX11_beginTick_135 ?_
        refine lv_aload_n hx hb dX11_beginTick_136 rfl (lv_at hl 0 rfl) ?_
        refine fx_get (ci := 11) (v := .int (y.1 0 45)) hx hb hts i11 hown hK (rwc_0 hW) rfl 45 (by decide) kl167 rfl dX11_beginTick_137 ?_
        refine lv_sipush (v := 900) hx hb dX11_beginTick_140 (by decide) ?_
        refine lv_irem hx hb dX11_beginTick_143 (by decide) ?_
        refine lv_iadd hx hb dX11_beginTick_144 ?_
        refine fx_ild hx hb hK 0 (rwc_34 hW) rfl (vi_ar (vi_c3 hmu.2 c_14) hok.1.1) dX11_beginTick_145 ?_
        refine lv_isub hx hb dX11_beginTick_146 ?_
        refine fx_ist hx hb hK 0 (rwc_37 hW) (rA_o (o := 37) (by decide)) hS rfl (vi_c3 hmu.2 c_14) dX11_beginTick_147 (fun H locs hat hne hS => ?_)
        have hW : rw_ E rr (sR (sR (sR (sR (sR (sR y 30 v1.toNatClampNeg (0)) 35 v1.toNatClampNeg ((y.1 35 v1.toNatClampNeg) - (y.1 32 ((((3600 : Int32) * v1) + ((y.1 0 45) - (y.1 0 45) / 3600 * 3600)).toNatClampNeg)))) 32 ((((3600 : Int32) * v1) + ((y.1 0 45) - (y.1 0 45) / 3600 * 3600)).toNatClampNeg) (0)) 36 v1.toNatClampNeg ((y.1 36 v1.toNatClampNeg) - (y.1 33 ((((3600 : Int32) * v1) + ((y.1 0 45) - (y.1 0 45) / 3600 * 3600)).toNatClampNeg)))) 33 ((((3600 : Int32) * v1) + ((y.1 0 45) - (y.1 0 45) / 3600 * 3600)).toNatClampNeg) (0)) 37 v1.toNatClampNeg ((y.1 37 v1.toNatClampNeg) - (y.1 34 ((((900 : Int32) * v1) + ((y.1 0 45) - (y.1 0 45) / 900 * 900)).toNatClampNeg)))) H := rws_37 (k := v1.toNatClampNeg) (v := (y.1 37 v1.toNatClampNeg) - (y.1 34 ((((900 : Int32) * v1) + ((y.1 0 45) - (y.1 0 45) / 900 * 900)).toNatClampNeg))) hW hat hne
        refine lv_aload_n hx hb dX11_beginTick_148 rfl (lv_at hl 0 rfl) ?_
        refine fx_get (ci := 11) (v := .ref (rr + 34)) hx hb hts i11 hown hK (rwc_0 hW) rfl 34 (by decide) kl110 rfl dX11_beginTick_149 ?_
        refine lv_sipush (v := 900) hx hb dX11_beginTick_152 (by decide) ?_
        refine lv_iload_n hx hb dX11_beginTick_155 rfl (lv_at hl 1 rfl) ?_
        refine lv_imul hx hb dX11_beginTick_156 ?_
        refine lv_aload_n hx hb dX11_beginTick_157 rfl (lv_at hl 0 rfl) ?_
        refine fx_get (ci := 11) (v := .int (y.1 0 45)) hx hb hts i11 hown hK (rwc_0 hW) rfl 45 (by decide) kl167 rfl dX11_beginTick_158 ?_
        refine lv_sipush (v := 900) hx hb dX11_beginTick_161 (by decide) ?_
        refine lv_irem hx hb dX11_beginTick_164 (by decide) ?_
        refine lv_iadd hx hb dX11_beginTick_165 ?_
        refine lv_iconst (v := 0) hx hb dX11_beginTick_166 (by decide) ?_
        refine fx_ist hx hb hK 0 (rwc_34 hW) (rA_o (o := 34) (by decide)) hS rfl (vi_ar (vi_c3 hmu.2 c_14) hok.1.1) dX11_beginTick_167 (fun H locs hat hne hS => ?_)
        have hW : rw_ E rr (sR (sR (sR (sR (sR (sR (sR y 30 v1.toNatClampNeg (0)) 35 v1.toNatClampNeg ((y.1 35 v1.toNatClampNeg) - (y.1 32 ((((3600 : Int32) * v1) + ((y.1 0 45) - (y.1 0 45) / 3600 * 3600)).toNatClampNeg)))) 32 ((((3600 : Int32) * v1) + ((y.1 0 45) - (y.1 0 45) / 3600 * 3600)).toNatClampNeg) (0)) 36 v1.toNatClampNeg ((y.1 36 v1.toNatClampNeg) - (y.1 33 ((((3600 : Int32) * v1) + ((y.1 0 45) - (y.1 0 45) / 3600 * 3600)).toNatClampNeg)))) 33 ((((3600 : Int32) * v1) + ((y.1 0 45) - (y.1 0 45) / 3600 * 3600)).toNatClampNeg) (0)) 37 v1.toNatClampNeg ((y.1 37 v1.toNatClampNeg) - (y.1 34 ((((900 : Int32) * v1) + ((y.1 0 45) - (y.1 0 45) / 900 * 900)).toNatClampNeg)))) 34 ((((900 : Int32) * v1) + ((y.1 0 45) - (y.1 0 45) / 900 * 900)).toNatClampNeg) (0)) H := rws_34 (k := ((((900 : Int32) * v1) + ((y.1 0 45) - (y.1 0 45) / 900 * 900)).toNatClampNeg)) (v := 0) hW hat hne
        refine lv_iinc (v := v1 + 1) (lv' := [(1, .int (v1 + 1)), (0, .ref (rr + 0))]) hx hb dX11_beginTick_168 hl (k := 1) rfl (by first | rfl | decide) (by decide) rfl (fun ls hl => ?_)
        refine lv_goto (tgt := 12) hx hb dX11_beginTick_171 (by decide) ?_
        exact ih _ _ _ (sR (sR (sR (sR (sR (sR (sR y 30 v1.toNatClampNeg (0)) 35 v1.toNatClampNeg ((y.1 35 v1.toNatClampNeg) - (y.1 32 ((((3600 : Int32) * v1) + ((y.1 0 45) - (y.1 0 45) / 3600 * 3600)).toNatClampNeg)))) 32 ((((3600 : Int32) * v1) + ((y.1 0 45) - (y.1 0 45) / 3600 * 3600)).toNatClampNeg) (0)) 36 v1.toNatClampNeg ((y.1 36 v1.toNatClampNeg) - (y.1 33 ((((3600 : Int32) * v1) + ((y.1 0 45) - (y.1 0 45) / 3600 * 3600)).toNatClampNeg)))) 33 ((((3600 : Int32) * v1) + ((y.1 0 45) - (y.1 0 45) / 3600 * 3600)).toNatClampNeg) (0)) 37 v1.toNatClampNeg ((y.1 37 v1.toNatClampNeg) - (y.1 34 ((((900 : Int32) * v1) + ((y.1 0 45) - (y.1 0 45) / 900 * 900)).toNatClampNeg)))) 34 ((((900 : Int32) * v1) + ((y.1 0 45) - (y.1 0 45) / 900 * 900)).toNatClampNeg) (0)) (v1 + 1) hW hS (lv_sub hl [1, 0] rfl) hok ⟨mu32_step c_14 hmu.1, vi_c3s hmu.2 c_14⟩ hf_14
  have hf : fX11_beginTick x = (fX11_beginTick_L12 (mu32 0 3 + 1) (sR x 0 45 ((x.1 0 45) + 1)) 0) := rfl
  refine lv_aload_n hx hb dX11_beginTick_0 rfl (lv_at hl 0 rfl) ?_
  refine lv_dup hx hb dX11_beginTick_1 rfl ?_
  refine fx_get (ci := 11) (v := .int (x.1 0 45)) hx hb hts i11 hown hK (rwc_0 hW) rfl 45 (by decide) kl167 rfl dX11_beginTick_2 ?_
  refine lv_iconst (v := 1) hx hb dX11_beginTick_5 (by decide) ?_
  refine lv_iadd hx hb dX11_beginTick_6 ?_
  refine fx_put (ci := 11) (v := .int ((x.1 0 45) + 1)) hx hb hts i11 tyX11_ok nmX11 hown hK (rwc_0 hW) (rA_o (o := 0) (by decide)) hS rfl 45 (by decide) kl167 rfl rfl rfl (Nat.le_of_ble_eq_true rfl) dX11_beginTick_7 (fun H locs hat hne hS => ?_)
  have hW : rw_ E rr (sR x 0 45 ((x.1 0 45) + 1)) H := rwf_45 (v := (x.1 0 45) + 1) hW hat hne
  refine lv_iconst (v := 0) hx hb dX11_beginTick_10 (by decide) ?_
  refine lv_istore_n (lv' := [(1, .int (0)), (0, .ref (rr + 0))]) hx hb dX11_beginTick_11 rfl hl (by decide) rfl (fun ls hl => ?_)
  exact J12 _ _ _ _ (sR x 0 45 ((x.1 0 45) + 1)) 0 hW hS (lv_sub hl [1, 0] rfl) (okR_time hok) ⟨Nat.lt_succ_self _, Int.le_refl 0⟩ hf
theorem okX11_beginTick_L12 {tg bg : Nat} : ∀ (k8 : Nat) (y : RS) (v1 : Int32), okR tg bg y → okR tg bg (fX11_beginTick_L12 k8 y v1) := by
  intro k8
  induction k8 with
  | zero => intro y v1 hok; exact hok
  | succ k9 ih => intro y v1 hok; unfold fX11_beginTick_L12; exact (okR_ite (fun c_14 => hok) (fun c_14 => (ih _ _ (okR_sR rfl (okR_sR rfl (okR_sR rfl (okR_sR rfl (okR_sR rfl (okR_sR rfl (okR_sR rfl hok))))))))))
theorem okX11_beginTick {tg bg : Nat} {x : RS} (hok : okR (tg + 1) bg x) : okR tg bg (fX11_beginTick x) := by unfold fX11_beginTick; exact (okX11_beginTick_L12 _ _ _ (okR_time hok))
