/-! the reference: a tick -/
def fX11_beginTick_L12 : Nat → RS → Int32 → RS
  | 0, y, v1 => y
  | k9 + 1, y, v1 => if (3 : Int32) ≤ v1 then (y) else (fX11_beginTick_L12 k9 (sR (sR (sR (sR (sR (sR (sR y 30 v1.toNatClampNeg (0)) 35 v1.toNatClampNeg ((y.1 35 v1.toNatClampNeg) - (y.1 32 ((((3600 : Int32) * v1) + ((y.1 0 45) - (y.1 0 45) / 3600 * 3600)).toNatClampNeg)))) 32 ((((3600 : Int32) * v1) + ((y.1 0 45) - (y.1 0 45) / 3600 * 3600)).toNatClampNeg) (0)) 36 v1.toNatClampNeg ((y.1 36 v1.toNatClampNeg) - (y.1 33 ((((3600 : Int32) * v1) + ((y.1 0 45) - (y.1 0 45) / 3600 * 3600)).toNatClampNeg)))) 33 ((((3600 : Int32) * v1) + ((y.1 0 45) - (y.1 0 45) / 3600 * 3600)).toNatClampNeg) (0)) 37 v1.toNatClampNeg ((y.1 37 v1.toNatClampNeg) - (y.1 34 ((((900 : Int32) * v1) + ((y.1 0 45) - (y.1 0 45) / 900 * 900)).toNatClampNeg)))) 34 ((((900 : Int32) * v1) + ((y.1 0 45) - (y.1 0 45) / 900 * 900)).toNatClampNeg) (0)) (v1 + 1))
def fX11_beginTick (x : RS) : RS := fX11_beginTick_L12 (mu32 0 3 + 1) (sR x 0 45 ((x.1 0 45) + 1)) 0
set_option maxHeartbeats 4000000 in
set_option maxRecDepth 100000 in
theorem mX11_beginTick (l : Launch) (E : eE) (rr : Nat) (x : RS) (tg : Nat) (bg : Nat) (hok : okR (tg + 1) bg x) : Met l yX11_beginTick wsX11_beginTick ({ frames := 0, cells := 0, slots := 0, locals := 0 }) (gPre E (rw_ E rr x) [.ref (rr + 0)]) (gQv E (rw_ E rr) (fX11_beginTick x) (rA rr)) 0 0 (rA rr) := by
  refine Met.ofW (cc := cX11_beginTick) (maxL := 2) (ret := none) (by decide) rfl ?_
  intro p e s m args below meth c s₁ B hml hv
  obtain ⟨rfl, hW, hK⟩ := hv
  have hx := B.exec
  have hb := B.bytes
  have hr := B.returns
  have hts := atoms_spec (ws := wsX11_beginTick) B.pre
  have hown : s.vm.findClass RX11 = some m.cls := findClass_of_methodNamed B.named
  have hlocks := B.notSynchronized
  have i11 : ∀ w ∈ wsX110, w ∈ wsX11_beginTick := by decide +kernel
  have kl98 := hts (.fieldLink RX11 98 "DosePumpModel" "done" "[Z") (by decide +kernel)
  have kl104 := hts (.fieldLink RX11 104 "DosePumpModel" "strokes" "[I") (by decide +kernel)
  have kl107 := hts (.fieldLink RX11 107 "DosePumpModel" "begun" "[I") (by decide +kernel)
  have kl110 := hts (.fieldLink RX11 110 "DosePumpModel" "airs" "[I") (by decide +kernel)
  have kl113 := hts (.fieldLink RX11 113 "DosePumpModel" "inHour" "[I") (by decide +kernel)
  have kl116 := hts (.fieldLink RX11 116 "DosePumpModel" "begunInHour" "[I") (by decide +kernel)
  have kl119 := hts (.fieldLink RX11 119 "DosePumpModel" "airsNow" "[I") (by decide +kernel)
  have kl167 := hts (.fieldLink RX11 167 "DosePumpModel" "time" "I") (by decide +kernel)
  have hS : va_S (rA rr) s.heap s.heap [] := va_S.rf
  have hl := lv_entry ([.ref (rr + 0)]) (n := 2) (Nat.le_of_ble_eq_true rfl)
  rw [lg_entry_eq]
  generalize (lg_sl ([.ref (rr + 0)]) ++ List.replicate (2 - (lg_sl ([.ref (rr + 0)])).length) Slot.unset).toArray = ls at hl ⊢
  have hl : lv_has ls 2 [(0, .ref (rr + 0))] := hl
  have J12 : ∀ (k8 : Nat) (H : Heap) (locs : List Loc) (ls : Array Slot) (y : RS) (v1 : Int32), rw_ E rr y H → va_S (rA rr) s.heap H locs → lv_has ls 2 [(0, .ref (rr + 0)), (1, .int (v1))] → okR tg bg y → mu32 v1 3 < k8 ∧ 0 ≤ v1.toInt → fX11_beginTick x = fX11_beginTick_L12 k8 y v1 → W p l e (headSpec wsX11_beginTick { frames := 0, cells := 0, slots := 0, locals := 0 }).room s m ([.ref (rr + 0)] : List Value).toArray below meth c H locs 0 0 (MQ below (gQv E (rw_ E rr) (fX11_beginTick x) (rA rr)) ([.ref (rr + 0)] : List Value).toArray s 0 0 (rA rr)) (F0 m 12 ls []) := by
    intro k8
    induction k8 with
    | zero =>
      intro H locs ls y v1 hW hS hl hok hmu hf
      exact absurd hmu (by omega)
    | succ k9 ih =>
      intro H locs ls y v1 hW hS hl hok hmu hf
      replace hf : fX11_beginTick x = (if (3 : Int32) ≤ v1 then (y) else (fX11_beginTick_L12 k9 (sR (sR (sR (sR (sR (sR (sR y 30 v1.toNatClampNeg (0)) 35 v1.toNatClampNeg ((y.1 35 v1.toNatClampNeg) - (y.1 32 ((((3600 : Int32) * v1) + ((y.1 0 45) - (y.1 0 45) / 3600 * 3600)).toNatClampNeg)))) 32 ((((3600 : Int32) * v1) + ((y.1 0 45) - (y.1 0 45) / 3600 * 3600)).toNatClampNeg) (0)) 36 v1.toNatClampNeg ((y.1 36 v1.toNatClampNeg) - (y.1 33 ((((3600 : Int32) * v1) + ((y.1 0 45) - (y.1 0 45) / 3600 * 3600)).toNatClampNeg)))) 33 ((((3600 : Int32) * v1) + ((y.1 0 45) - (y.1 0 45) / 3600 * 3600)).toNatClampNeg) (0)) 37 v1.toNatClampNeg ((y.1 37 v1.toNatClampNeg) - (y.1 34 ((((900 : Int32) * v1) + ((y.1 0 45) - (y.1 0 45) / 900 * 900)).toNatClampNeg)))) 34 ((((900 : Int32) * v1) + ((y.1 0 45) - (y.1 0 45) / 900 * 900)).toNatClampNeg) (0)) (v1 + 1))) := hf
      refine lv_iload_n hx hb dX11_beginTick_12 rfl (lv_at hl 1 rfl) ?_
      refine lv_iconst (v := 3) hx hb dX11_beginTick_13 (by decide) ?_
      refine lv_icmp_ge (tgt := 174) hx hb dX11_beginTick_14 (by decide) (fun c_14 => ?_) (fun c_14 => ?_)
      · have hf_14 := hf.trans (if_pos c_14)
        exact gx_vret hx hb hr hlocks hK hf_14 hW hS dX11_beginTick_174
      · have hf_14 := hf.trans (if_neg c_14)
        refine lv_aload_n hx hb dX11_beginTick_17 rfl (lv_at hl 0 rfl) ?_
        refine fx_get (ci := 11) (v := .ref (rr + 30)) hx hb hts i11 hown hK (rwc_0 hW) rfl 30 (by decide) kl98 rfl dX11_beginTick_18 ?_
        refine lv_iload_n hx hb dX11_beginTick_21 rfl (lv_at hl 1 rfl) ?_
        refine lv_iconst (v := 0) hx hb dX11_beginTick_22 (by decide) ?_
        refine fx_zst hx hb hK 1 (rwc_30 hW) (rA_o (o := 30) (by decide)) hS rfl (by decide) (vi_c3 hmu.2 c_14) dX11_beginTick_23 (fun H locs hat hne hS => ?_)
        have hW : rw_ E rr (sR y 30 v1.toNatClampNeg (0)) H := rws_30 (k := v1.toNatClampNeg) (v := 0) hW hat hne
        refine lv_aload_n hx hb dX11_beginTick_24 rfl (lv_at hl 0 rfl) ?_
        refine fx_get (ci := 11) (v := .ref (rr + 35)) hx hb hts i11 hown hK (rwc_0 hW) rfl 35 (by decide) kl113 rfl dX11_beginTick_25 ?_
        refine lv_iload_n hx hb dX11_beginTick_28 rfl (lv_at hl 1 rfl) ?_
        refine lv_dup2_11 hx hb dX11_beginTick_29 rfl rfl ?_
        refine fx_ild hx hb hK 0 (rwc_35 hW) rfl (vi_c3 hmu.2 c_14) dX11_beginTick_30 ?_
        refine lv_aload_n hx hb dX11_beginTick_31 rfl (lv_at hl 0 rfl) ?_
        refine fx_get (ci := 11) (v := .ref (rr + 32)) hx hb hts i11 hown hK (rwc_0 hW) rfl 32 (by decide) kl104 rfl dX11_beginTick_32 ?_
        refine lv_sipush (v := 3600) hx hb dX11_beginTick_35 (by decide) ?_
        refine lv_iload_n hx hb dX11_beginTick_38 rfl (lv_at hl 1 rfl) ?_
        refine lv_imul hx hb dX11_beginTick_39 ?_
        refine lv_aload_n hx hb dX11_beginTick_40 rfl (lv_at hl 0 rfl) ?_
        refine fx_get (ci := 11) (v := .int (y.1 0 45)) hx hb hts i11 hown hK (rwc_0 hW) rfl 45 (by decide) kl167 rfl dX11_beginTick_41 ?_
        refine lv_sipush (v := 3600) hx hb dX11_beginTick_44 (by decide) ?_
        refine lv_irem hx hb dX11_beginTick_47 (by decide) ?_
        refine lv_iadd hx hb dX11_beginTick_48 ?_
        refine fx_ild hx hb hK 0 (rwc_32 hW) rfl (vi_hr (vi_c3 hmu.2 c_14) hok.1.1) dX11_beginTick_49 ?_
        refine lv_isub hx hb dX11_beginTick_50 ?_
        refine fx_ist hx hb hK 0 (rwc_35 hW) (rA_o (o := 35) (by decide)) hS rfl (vi_c3 hmu.2 c_14) dX11_beginTick_51 (fun H locs hat hne hS => ?_)
        have hW : rw_ E rr (sR (sR y 30 v1.toNatClampNeg (0)) 35 v1.toNatClampNeg ((y.1 35 v1.toNatClampNeg) - (y.1 32 ((((3600 : Int32) * v1) + ((y.1 0 45) - (y.1 0 45) / 3600 * 3600)).toNatClampNeg)))) H := rws_35 (k := v1.toNatClampNeg) (v := (y.1 35 v1.toNatClampNeg) - (y.1 32 ((((3600 : Int32) * v1) + ((y.1 0 45) - (y.1 0 45) / 3600 * 3600)).toNatClampNeg))) hW hat hne
        refine lv_aload_n hx hb dX11_beginTick_52 rfl (lv_at hl 0 rfl) ?_
        refine fx_get (ci := 11) (v := .ref (rr + 32)) hx hb hts i11 hown hK (rwc_0 hW) rfl 32 (by decide) kl104 rfl dX11_beginTick_53 ?_
        refine lv_sipush (v := 3600) hx hb dX11_beginTick_56 (by decide) ?_
        refine lv_iload_n hx hb dX11_beginTick_59 rfl (lv_at hl 1 rfl) ?_
        refine lv_imul hx hb dX11_beginTick_60 ?_
        refine lv_aload_n hx hb dX11_beginTick_61 rfl (lv_at hl 0 rfl) ?_
        refine fx_get (ci := 11) (v := .int (y.1 0 45)) hx hb hts i11 hown hK (rwc_0 hW) rfl 45 (by decide) kl167 rfl dX11_beginTick_62 ?_
        refine lv_sipush (v := 3600) hx hb dX11_beginTick_65 (by decide) ?_
        refine lv_irem hx hb dX11_beginTick_68 (by decide) ?_
        refine lv_iadd hx hb dX11_beginTick_69 ?_
        refine lv_iconst (v := 0) hx hb dX11_beginTick_70 (by decide) ?_
        refine fx_ist hx hb hK 0 (rwc_32 hW) (rA_o (o := 32) (by decide)) hS rfl (vi_hr (vi_c3 hmu.2 c_14) hok.1.1) dX11_beginTick_71 (fun H locs hat hne hS => ?_)
        have hW : rw_ E rr (sR (sR (sR y 30 v1.toNatClampNeg (0)) 35 v1.toNatClampNeg ((y.1 35 v1.toNatClampNeg) - (y.1 32 ((((3600 : Int32) * v1) + ((y.1 0 45) - (y.1 0 45) / 3600 * 3600)).toNatClampNeg)))) 32 ((((3600 : Int32) * v1) + ((y.1 0 45) - (y.1 0 45) / 3600 * 3600)).toNatClampNeg) (0)) H := rws_32 (k := ((((3600 : Int32) * v1) + ((y.1 0 45) - (y.1 0 45) / 3600 * 3600)).toNatClampNeg)) (v := 0) hW hat hne
        refine lv_aload_n hx hb dX11_beginTick_72 rfl (lv_at hl 0 rfl) ?_
        refine fx_get (ci := 11) (v := .ref (rr + 36)) hx hb hts i11 hown hK (rwc_0 hW) rfl 36 (by decide) kl116 rfl dX11_beginTick_73 ?_
        refine lv_iload_n hx hb dX11_beginTick_76 rfl (lv_at hl 1 rfl) ?_
        refine lv_dup2_11 hx hb dX11_beginTick_77 rfl rfl ?_
        refine fx_ild hx hb hK 0 (rwc_36 hW) rfl (vi_c3 hmu.2 c_14) dX11_beginTick_78 ?_
        refine lv_aload_n hx hb dX11_beginTick_79 rfl (lv_at hl 0 rfl) ?_
        refine fx_get (ci := 11) (v := .ref (rr + 33)) hx hb hts i11 hown hK (rwc_0 hW) rfl 33 (by decide) kl107 rfl dX11_beginTick_80 ?_
        refine lv_sipush (v := 3600) hx hb dX11_beginTick_83 (by decide) ?_
        refine lv_iload_n hx hb dX11_beginTick_86 rfl (lv_at hl 1 rfl) ?_
        refine lv_imul hx hb dX11_beginTick_87 ?_
        refine lv_aload_n hx hb dX11_beginTick_88 rfl (lv_at hl 0 rfl) ?_
        refine fx_get (ci := 11) (v := .int (y.1 0 45)) hx hb hts i11 hown hK (rwc_0 hW) rfl 45 (by decide) kl167 rfl dX11_beginTick_89 ?_
        refine lv_sipush (v := 3600) hx hb dX11_beginTick_92 (by decide) ?_
        refine lv_irem hx hb dX11_beginTick_95 (by decide) ?_
        refine lv_iadd hx hb dX11_beginTick_96 ?_
        refine fx_ild hx hb hK 0 (rwc_33 hW) rfl (vi_hr (vi_c3 hmu.2 c_14) hok.1.1) dX11_beginTick_97 ?_
        refine lv_isub hx hb dX11_beginTick_98 ?_
        refine fx_ist hx hb hK 0 (rwc_36 hW) (rA_o (o := 36) (by decide)) hS rfl (vi_c3 hmu.2 c_14) dX11_beginTick_99 (fun H locs hat hne hS => ?_)
        have hW : rw_ E rr (sR (sR (sR (sR y 30 v1.toNatClampNeg (0)) 35 v1.toNatClampNeg ((y.1 35 v1.toNatClampNeg) - (y.1 32 ((((3600 : Int32) * v1) + ((y.1 0 45) - (y.1 0 45) / 3600 * 3600)).toNatClampNeg)))) 32 ((((3600 : Int32) * v1) + ((y.1 0 45) - (y.1 0 45) / 3600 * 3600)).toNatClampNeg) (0)) 36 v1.toNatClampNeg ((y.1 36 v1.toNatClampNeg) - (y.1 33 ((((3600 : Int32) * v1) + ((y.1 0 45) - (y.1 0 45) / 3600 * 3600)).toNatClampNeg)))) H := rws_36 (k := v1.toNatClampNeg) (v := (y.1 36 v1.toNatClampNeg) - (y.1 33 ((((3600 : Int32) * v1) + ((y.1 0 45) - (y.1 0 45) / 3600 * 3600)).toNatClampNeg))) hW hat hne
        refine lv_aload_n hx hb dX11_beginTick_100 rfl (lv_at hl 0 rfl) ?_
        refine fx_get (ci := 11) (v := .ref (rr + 33)) hx hb hts i11 hown hK (rwc_0 hW) rfl 33 (by decide) kl107 rfl dX11_beginTick_101 ?_
        refine lv_sipush (v := 3600) hx hb dX11_beginTick_104 (by decide) ?_
        refine lv_iload_n hx hb dX11_beginTick_107 rfl (lv_at hl 1 rfl) ?_
        refine lv_imul hx hb dX11_beginTick_108 ?_
        refine lv_aload_n hx hb dX11_beginTick_109 rfl (lv_at hl 0 rfl) ?_
        refine fx_get (ci := 11) (v := .int (y.1 0 45)) hx hb hts i11 hown hK (rwc_0 hW) rfl 45 (by decide) kl167 rfl dX11_beginTick_110 ?_
        refine lv_sipush (v := 3600) hx hb dX11_beginTick_113 (by decide) ?_
        refine lv_irem hx hb dX11_beginTick_116 (by decide) ?_
        refine lv_iadd hx hb dX11_beginTick_117 ?_
        refine lv_iconst (v := 0) hx hb dX11_beginTick_118 (by decide) ?_
        refine fx_ist hx hb hK 0 (rwc_33 hW) (rA_o (o := 33) (by decide)) hS rfl (vi_hr (vi_c3 hmu.2 c_14) hok.1.1) dX11_beginTick_119 (fun H locs hat hne hS => ?_)
        have hW : rw_ E rr (sR (sR (sR (sR (sR y 30 v1.toNatClampNeg (0)) 35 v1.toNatClampNeg ((y.1 35 v1.toNatClampNeg) - (y.1 32 ((((3600 : Int32) * v1) + ((y.1 0 45) - (y.1 0 45) / 3600 * 3600)).toNatClampNeg)))) 32 ((((3600 : Int32) * v1) + ((y.1 0 45) - (y.1 0 45) / 3600 * 3600)).toNatClampNeg) (0)) 36 v1.toNatClampNeg ((y.1 36 v1.toNatClampNeg) - (y.1 33 ((((3600 : Int32) * v1) + ((y.1 0 45) - (y.1 0 45) / 3600 * 3600)).toNatClampNeg)))) 33 ((((3600 : Int32) * v1) + ((y.1 0 45) - (y.1 0 45) / 3600 * 3600)).toNatClampNeg) (0)) H := rws_33 (k := ((((3600 : Int32) * v1) + ((y.1 0 45) - (y.1 0 45) / 3600 * 3600)).toNatClampNeg)) (v := 0) hW hat hne
        refine lv_aload_n hx hb dX11_beginTick_120 rfl (lv_at hl 0 rfl) ?_
        refine fx_get (ci := 11) (v := .ref (rr + 37)) hx hb hts i11 hown hK (rwc_0 hW) rfl 37 (by decide) kl119 rfl dX11_beginTick_121 ?_
        refine lv_iload_n hx hb dX11_beginTick_124 rfl (lv_at hl 1 rfl) ?_
        refine lv_dup2_11 hx hb dX11_beginTick_125 rfl rfl ?_
        refine fx_ild hx hb hK 0 (rwc_37 hW) rfl (vi_c3 hmu.2 c_14) dX11_beginTick_126 ?_
        refine lv_aload_n hx hb dX11_beginTick_127 rfl (lv_at hl 0 rfl) ?_
        refine fx_get (ci := 11) (v := .ref (rr + 34)) hx hb hts i11 hown hK (rwc_0 hW) rfl 34 (by decide) kl110 rfl dX11_beginTick_128 ?_
        refine lv_sipush (v := 900) hx hb dX11_beginTick_131 (by decide) ?_
        refine lv_iload_n hx hb dX11_beginTick_134 rfl (lv_at hl 1 rfl) ?_
        refine lv_imul hx hb dX11_beginTick_135 ?_
        refine lv_aload_n hx hb dX11_beginTick_136 rfl (lv_at hl 0 rfl) ?_
        refine fx_get (ci := 11) (v := .int (y.1 0 45)) hx hb hts i11 hown hK (rwc_0 hW) rfl 45 (by decide) kl167 rfl dX11_beginTick_137 ?_
        refine lv_sipush (v := 900) hx hb dX11_beginTick_140 (by decide) ?_
        refine lv_irem hx hb dX11_beginTick_143 (by decide) ?_
        refine lv_iadd hx hb dX11_beginTick_144 ?_
        refine fx_ild hx hb hK 0 (rwc_34 hW) rfl (vi_ar (vi_c3 hmu.2 c_14) hok.1.1) dX11_beginTick_145 ?_
        refine lv_isub hx hb dX11_beginTick_146 ?_
        refine fx_ist hx hb hK 0 (rwc_37 hW) (rA_o (o := 37) (by decide)) hS rfl (vi_c3 hmu.2 c_14) dX11_beginTick_147 (fun H locs hat hne hS => ?_)
        have hW : rw_ E rr (sR (sR (sR (sR (sR (sR y 30 v1.toNatClampNeg (0)) 35 v1.toNatClampNeg ((y.1 35 v1.toNatClampNeg) - (y.1 32 ((((3600 : Int32) * v1) + ((y.1 0 45) - (y.1 0 45) / 3600 * 3600)).toNatClampNeg)))) 32 ((((3600 : Int32) * v1) + ((y.1 0 45) - (y.1 0 45) / 3600 * 3600)).toNatClampNeg) (0)) 36 v1.toNatClampNeg ((y.1 36 v1.toNatClampNeg) - (y.1 33 ((((3600 : Int32) * v1) + ((y.1 0 45) - (y.1 0 45) / 3600 * 3600)).toNatClampNeg)))) 33 ((((3600 : Int32) * v1) + ((y.1 0 45) - (y.1 0 45) / 3600 * 3600)).toNatClampNeg) (0)) 37 v1.toNatClampNeg ((y.1 37 v1.toNatClampNeg) - (y.1 34 ((((900 : Int32) * v1) + ((y.1 0 45) - (y.1 0 45) / 900 * 900)).toNatClampNeg)))) H := rws_37 (k := v1.toNatClampNeg) (v := (y.1 37 v1.toNatClampNeg) - (y.1 34 ((((900 : Int32) * v1) + ((y.1 0 45) - (y.1 0 45) / 900 * 900)).toNatClampNeg))) hW hat hne
        refine lv_aload_n hx hb dX11_beginTick_148 rfl (lv_at hl 0 rfl) ?_
        refine fx_get (ci := 11) (v := .ref (rr + 34)) hx hb hts i11 hown hK (rwc_0 hW) rfl 34 (by decide) kl110 rfl dX11_beginTick_149 ?_
        refine lv_sipush (v := 900) hx hb dX11_beginTick_152 (by decide) ?_
        refine lv_iload_n hx hb dX11_beginTick_155 rfl (lv_at hl 1 rfl) ?_
        refine lv_imul hx hb dX11_beginTick_156 ?_
        refine lv_aload_n hx hb dX11_beginTick_157 rfl (lv_at hl 0 rfl) ?_
        refine fx_get (ci := 11) (v := .int (y.1 0 45)) hx hb hts i11 hown hK (rwc_0 hW) rfl 45 (by decide) kl167 rfl dX11_beginTick_158 ?_
        refine lv_sipush (v := 900) hx hb dX11_beginTick_161 (by decide) ?_
        refine lv_irem hx hb dX11_beginTick_164 (by decide) ?_
        refine lv_iadd hx hb dX11_beginTick_165 ?_
        refine lv_iconst (v := 0) hx hb dX11_beginTick_166 (by decide) ?_
        refine fx_ist hx hb hK 0 (rwc_34 hW) (rA_o (o := 34) (by decide)) hS rfl (vi_ar (vi_c3 hmu.2 c_14) hok.1.1) dX11_beginTick_167 (fun H locs hat hne hS => ?_)
        have hW : rw_ E rr (sR (sR (sR (sR (sR (sR (sR y 30 v1.toNatClampNeg (0)) 35 v1.toNatClampNeg ((y.1 35 v1.toNatClampNeg) - (y.1 32 ((((3600 : Int32) * v1) + ((y.1 0 45) - (y.1 0 45) / 3600 * 3600)).toNatClampNeg)))) 32 ((((3600 : Int32) * v1) + ((y.1 0 45) - (y.1 0 45) / 3600 * 3600)).toNatClampNeg) (0)) 36 v1.toNatClampNeg ((y.1 36 v1.toNatClampNeg) - (y.1 33 ((((3600 : Int32) * v1) + ((y.1 0 45) - (y.1 0 45) / 3600 * 3600)).toNatClampNeg)))) 33 ((((3600 : Int32) * v1) + ((y.1 0 45) - (y.1 0 45) / 3600 * 3600)).toNatClampNeg) (0)) 37 v1.toNatClampNeg ((y.1 37 v1.toNatClampNeg) - (y.1 34 ((((900 : Int32) * v1) + ((y.1 0 45) - (y.1 0 45) / 900 * 900)).toNatClampNeg)))) 34 ((((900 : Int32) * v1) + ((y.1 0 45) - (y.1 0 45) / 900 * 900)).toNatClampNeg) (0)) H := rws_34 (k := ((((900 : Int32) * v1) + ((y.1 0 45) - (y.1 0 45) / 900 * 900)).toNatClampNeg)) (v := 0) hW hat hne
        refine lv_iinc (v := v1 + 1) (lv' := [(1, .int (v1 + 1)), (0, .ref (rr + 0))]) hx hb dX11_beginTick_168 hl (k := 1) rfl (by first | rfl | decide) (by decide) rfl (fun ls hl => ?_)
        refine lv_goto (tgt := 12) hx hb dX11_beginTick_171 (by decide) ?_
        exact ih _ _ _ (sR (sR (sR (sR (sR (sR (sR y 30 v1.toNatClampNeg (0)) 35 v1.toNatClampNeg ((y.1 35 v1.toNatClampNeg) - (y.1 32 ((((3600 : Int32) * v1) + ((y.1 0 45) - (y.1 0 45) / 3600 * 3600)).toNatClampNeg)))) 32 ((((3600 : Int32) * v1) + ((y.1 0 45) - (y.1 0 45) / 3600 * 3600)).toNatClampNeg) (0)) 36 v1.toNatClampNeg ((y.1 36 v1.toNatClampNeg) - (y.1 33 ((((3600 : Int32) * v1) + ((y.1 0 45) - (y.1 0 45) / 3600 * 3600)).toNatClampNeg)))) 33 ((((3600 : Int32) * v1) + ((y.1 0 45) - (y.1 0 45) / 3600 * 3600)).toNatClampNeg) (0)) 37 v1.toNatClampNeg ((y.1 37 v1.toNatClampNeg) - (y.1 34 ((((900 : Int32) * v1) + ((y.1 0 45) - (y.1 0 45) / 900 * 900)).toNatClampNeg)))) 34 ((((900 : Int32) * v1) + ((y.1 0 45) - (y.1 0 45) / 900 * 900)).toNatClampNeg) (0)) (v1 + 1) hW hS (lv_sub hl [1, 0] rfl) hok ⟨mu32_step c_14 hmu.1, vi_c3s hmu.2 c_14⟩ hf_14
  have hf : fX11_beginTick x = (fX11_beginTick_L12 (mu32 0 3 + 1) (sR x 0 45 ((x.1 0 45) + 1)) 0) := rfl
  refine lv_aload_n hx hb dX11_beginTick_0 rfl (lv_at hl 0 rfl) ?_
  refine lv_dup hx hb dX11_beginTick_1 rfl ?_
  refine fx_get (ci := 11) (v := .int (x.1 0 45)) hx hb hts i11 hown hK (rwc_0 hW) rfl 45 (by decide) kl167 rfl dX11_beginTick_2 ?_
  refine lv_iconst (v := 1) hx hb dX11_beginTick_5 (by decide) ?_
  refine lv_iadd hx hb dX11_beginTick_6 ?_
  refine fx_put (ci := 11) (v := .int ((x.1 0 45) + 1)) hx hb hts i11 tyX11_ok nmX11 hown hK (rwc_0 hW) (rA_o (o := 0) (by decide)) hS rfl 45 (by decide) kl167 rfl rfl rfl (Nat.le_of_ble_eq_true rfl) dX11_beginTick_7 (fun H locs hat hne hS => ?_)
  have hW : rw_ E rr (sR x 0 45 ((x.1 0 45) + 1)) H := rwf_45 (v := (x.1 0 45) + 1) hW hat hne
  refine lv_iconst (v := 0) hx hb dX11_beginTick_10 (by decide) ?_
  refine lv_istore_n (lv' := [(1, .int (0)), (0, .ref (rr + 0))]) hx hb dX11_beginTick_11 rfl hl (by decide) rfl (fun ls hl => ?_)
  exact J12 _ _ _ _ (sR x 0 45 ((x.1 0 45) + 1)) 0 hW hS (lv_sub hl [1, 0] rfl) (okR_time hok) ⟨Nat.lt_succ_self _, Int.le_refl 0⟩ hf
theorem okX11_beginTick_L12 {tg bg : Nat} : ∀ (k8 : Nat) (y : RS) (v1 : Int32), okR tg bg y → okR tg bg (fX11_beginTick_L12 k8 y v1) := by
  intro k8
  induction k8 with
  | zero => intro y v1 hok; exact hok
  | succ k9 ih => intro y v1 hok; unfold fX11_beginTick_L12; exact (okR_ite (fun c_14 => hok) (fun c_14 => (ih _ _ (okR_sR rfl (okR_sR rfl (okR_sR rfl (okR_sR rfl (okR_sR rfl (okR_sR rfl (okR_sR rfl hok))))))))))
theorem okX11_beginTick {tg bg : Nat} {x : RS} (hok : okR (tg + 1) bg x) : okR tg bg (fX11_beginTick x) := by unfold fX11_beginTick; exact (okX11_beginTick_L12 _ _ _ (okR_time hok))

theorem mu03 : mu32 0 3 = 3 := by decide
theorem vi_pv {v : Int32} (hc : vp_in v 3) : vp_in (v + 2 - (v + 2) / 3 * 3) 3 := by
  obtain ⟨i, hi, e⟩ := vp_in_of hc (by decide)
  rcases (show i = 0 ∨ i = 1 ∨ i = 2 by omega) with rfl | rfl | rfl <;> rw [e] <;> (unfold vp_in; decide)

def fX11_tick_L172 : Nat → RS → Int32 → Int32 → RS × Int32
  | 0, y, v1, v2 => (y, 0)
  | k9 + 1, y, v1, v2 => if (3 : Int32) ≤ v2 then ((y, v1)) else (if (y.1 29 v2.toNatClampNeg) = 0 then (fX11_tick_L172 k9 y v1 (v2 + 1)) else (if (y.1 30 (((v2 + 2) - (v2 + 2) / 3 * 3).toNatClampNeg)) = 0 then (fX11_tick_L172 k9 y v1 (v2 + 1)) else (fX11_tick_L172 k9 (sR (fX11_run v2 y).1 29 v2.toNatClampNeg (0)) v1 (v2 + 1))))
def fX11_tick_L135 : Nat → RS → Int32 → Int32 → RS × Int32
  | 0, y, v1, v2 => (y, 0)
  | k9 + 1, y, v1, v2 => if (3 : Int32) ≤ v2 then (fX11_tick_L172 (mu32 0 3 + 1) y v1 0) else (if (y.1 0 46) = 0 then (if (y.1 13 v2.toNatClampNeg) = 7 then (fX11_tick_L135 k9 (fX11_latch v2 3 y) v1 (v2 + 1)) else (fX11_tick_L135 k9 y v1 (v2 + 1))) else (fX11_tick_L135 k9 y v1 (v2 + 1)))
def fX11_tick_J133 (y : RS) (v1 : Int32) : RS × Int32 := fX11_tick_L135 (mu32 0 3 + 1) y v1 0
def fX11_tick_J106 (y : RS) (v1 : Int32) (w0 : Int32) : RS × Int32 := if (y.1 0 47) = 0 then (if (3600 : Int32) ≤ w0 then (fX11_tick_J133 (sR y 0 46 (w0)) v1) else (fX11_tick_J133 (fX11_latch 0 6 (sR y 0 46 (w0))) v1)) else (fX11_tick_J133 (sR y 0 46 (w0)) v1)
def fX11_tick_L8 : Nat → RS → Int32 → Int32 → RS × Int32
  | 0, y, v1, v2 => (y, 0)
  | k9 + 1, y, v1, v2 => if (3 : Int32) ≤ v2 then (if (y.1 0 47) = 0 then (fX11_tick_J106 y v1 (fX11_most 0 (((y.1 0 46) - 1) - v1) y)) else (fX11_tick_J106 y v1 (fX11_least 36000 ((y.1 0 46) + 4) y))) else (if (y.1 13 v2.toNatClampNeg) = 7 then (if (fX11_isEntry v2 (fX11_lines v2 (fX11_deliver v2 y).1)) = 0 then (fX11_tick_L8 k9 (fX11_lines v2 (fX11_deliver v2 y).1) (v1 + ((fX11_deliver v2 y).2)) (v2 + 1)) else (if (((fX11_lines v2 (fX11_deliver v2 y).1).1 0 45) - ((fX11_lines v2 (fX11_deliver v2 y).1).1 44 v2.toNatClampNeg)) < 60 then (fX11_tick_L8 k9 (fX11_lines v2 (fX11_deliver v2 y).1) (v1 + ((fX11_deliver v2 y).2)) (v2 + 1)) else (fX11_tick_L8 k9 (fX11_drop v2 (fX11_lines v2 (fX11_deliver v2 y).1)) (v1 + ((fX11_deliver v2 y).2)) (v2 + 1)))) else (if (fX11_isEntry v2 (fX11_lines v2 y)) = 0 then (fX11_tick_L8 k9 (fX11_lines v2 y) v1 (v2 + 1)) else (if (((fX11_lines v2 y).1 0 45) - ((fX11_lines v2 y).1 44 v2.toNatClampNeg)) < 60 then (fX11_tick_L8 k9 (fX11_lines v2 y) v1 (v2 + 1)) else (fX11_tick_L8 k9 (fX11_drop v2 (fX11_lines v2 y)) v1 (v2 + 1)))))
def fX11_tick (x : RS) : RS × Int32 := fX11_tick_L8 (mu32 0 3 + 1) (fX11_beginTick x) 0 0
set_option maxHeartbeats 4000000 in
set_option maxRecDepth 100000 in
theorem mX11_tick (l : Launch) (E : eE) (rr : Nat) (x : RS) (tg : Nat) (bg : Nat) (hok : okR (tg + 1) (bg + 8) x) : Met l yX11_tick wsX11_tick ({ frames := 5, cells := 0, slots := 0, locals := 117 }) (gPre E (rw_ E rr x) [.ref (rr + 0)]) (gQi E (rw_ E rr) (fX11_tick x) (rA rr)) 0 0 (rA rr) := by
  refine Met.ofW (cc := cX11_tick) (maxL := 4) (ret := (some .int)) (by decide) rfl ?_
  intro p e s m args below meth c s₁ B hml hv
  obtain ⟨rfl, hW, hK⟩ := hv
  have hx := B.exec
  have hb := B.bytes
  have hr := B.returns
  have hts := atoms_spec (ws := wsX11_tick) B.pre
  have hown : s.vm.findClass RX11 = some m.cls := findClass_of_methodNamed B.named
  have hlocks := B.notSynchronized
  have i11 : ∀ w ∈ wsX110, w ∈ wsX11_tick := by decide +kernel
  have kl47 := hts (.fieldLink RX11 47 "DosePumpModel" "phase" "[I") (by decide +kernel)
  have kl95 := hts (.fieldLink RX11 95 "DosePumpModel" "relay" "[Z") (by decide +kernel)
  have kl98 := hts (.fieldLink RX11 98 "DosePumpModel" "done" "[Z") (by decide +kernel)
  have kl140 := hts (.fieldLink RX11 140 "DosePumpModel" "pushed" "[I") (by decide +kernel)
  have kl144 := hts (.fieldLink RX11 144 "DosePumpModel" "charge" "I") (by decide +kernel)
  have kl148 := hts (.fieldLink RX11 148 "DosePumpModel" "mains" "Z") (by decide +kernel)
  have kl167 := hts (.fieldLink RX11 167 "DosePumpModel" "time" "I") (by decide +kernel)
  have hS : va_S (rA rr) s.heap s.heap [] := va_S.rf
  have hl := lv_entry ([.ref (rr + 0)]) (n := 4) (Nat.le_of_ble_eq_true rfl)
  rw [lg_entry_eq]
  generalize (lg_sl ([.ref (rr + 0)]) ++ List.replicate (4 - (lg_sl ([.ref (rr + 0)])).length) Slot.unset).toArray = ls at hl ⊢
  have hl : lv_has ls 4 [(0, .ref (rr + 0))] := hl
  have J172 : ∀ (k8 : Nat) (H : Heap) (locs : List Loc) (ls : Array Slot) (y : RS) (v1 : Int32) (v2 : Int32), rw_ E rr y H → va_S (rA rr) s.heap H locs → lv_has ls 4 [(0, .ref (rr + 0)), (1, .int (v1)), (2, .int (v2))] → okR tg (bg + 1 * k8) y → mu32 v2 3 < k8 ∧ 0 ≤ v2.toInt → fX11_tick x = fX11_tick_L172 k8 y v1 v2 → W p l e (headSpec wsX11_tick { frames := 5, cells := 0, slots := 0, locals := 117 }).room s m ([.ref (rr + 0)] : List Value).toArray below meth c H locs 0 0 (MQ below (gQi E (rw_ E rr) (fX11_tick x) (rA rr)) ([.ref (rr + 0)] : List Value).toArray s 0 0 (rA rr)) (F0 m 172 ls []) := by
    intro k8
    induction k8 with
    | zero =>
      intro H locs ls y v1 v2 hW hS hl hok hmu hf
      exact absurd hmu (by omega)
    | succ k9 ih =>
      intro H locs ls y v1 v2 hW hS hl hok hmu hf
      replace hf : fX11_tick x = (if (3 : Int32) ≤ v2 then ((y, v1)) else (if (y.1 29 v2.toNatClampNeg) = 0 then (fX11_tick_L172 k9 y v1 (v2 + 1)) else (if (y.1 30 (((v2 + 2) - (v2 + 2) / 3 * 3).toNatClampNeg)) = 0 then (fX11_tick_L172 k9 y v1 (v2 + 1)) else (fX11_tick_L172 k9 (sR (fX11_run v2 y).1 29 v2.toNatClampNeg (0)) v1 (v2 + 1))))) := hf
      refine lv_iload_n hx hb dX11_tick_172 rfl (lv_at hl 2 rfl) ?_
      refine lv_iconst (v := 3) hx hb dX11_tick_173 (by decide) ?_
      refine lv_icmp_ge (tgt := 221) hx hb dX11_tick_174 (by decide) (fun c_174 => ?_) (fun c_174 => ?_)
      · have hf_174 := hf.trans (if_pos c_174)
        refine lv_iload_n hx hb dX11_tick_221 rfl (lv_at hl 1 rfl) ?_
        exact gx_iret hx hb hr rfl hlocks hK hf_174 hW hS dX11_tick_222
      · have hf_174 := hf.trans (if_neg c_174)
        refine lv_aload_n hx hb dX11_tick_177 rfl (lv_at hl 0 rfl) ?_
        refine fx_get (ci := 11) (v := .ref (rr + 29)) hx hb hts i11 hown hK (rwc_0 hW) rfl 29 (by decide) kl95 rfl dX11_tick_178 ?_
        refine lv_iload_n hx hb dX11_tick_181 rfl (lv_at hl 2 rfl) ?_
        refine fx_zld hx hb hK 1 (rwc_29 hW) rfl (vi_c3 hmu.2 c_174) dX11_tick_182 ?_
        refine lv_if_eq (tgt := 215) hx hb dX11_tick_183 (by decide) (fun c_183 => ?_) (fun c_183 => ?_)
        · have hf_183 := hf_174.trans (if_pos c_183)
          refine lv_iinc (v := v2 + 1) (lv' := [(2, .int (v2 + 1)), (0, .ref (rr + 0)), (1, .int (v1))]) hx hb dX11_tick_215 hl (k := 2) rfl (by first | rfl | decide) (by decide) rfl (fun ls hl => ?_)
          refine lv_goto (tgt := 172) hx hb dX11_tick_218 (by decide) ?_
          exact ih _ _ _ y v1 (v2 + 1) hW hS (lv_sub hl [1, 2, 0] rfl) (okR_le (k := 1) hok) ⟨mu32_step c_174 hmu.1, vi_c3s hmu.2 c_174⟩ hf_183
        · have hf_183 := hf_174.trans (if_neg c_183)
          refine lv_aload_n hx hb dX11_tick_186 rfl (lv_at hl 0 rfl) ?_
          refine fx_get (ci := 11) (v := .ref (rr + 30)) hx hb hts i11 hown hK (rwc_0 hW) rfl 30 (by decide) kl98 rfl dX11_tick_187 ?_
          refine lv_iload_n hx hb dX11_tick_190 rfl (lv_at hl 2 rfl) ?_
          refine lv_iconst (v := 2) hx hb dX11_tick_191 (by decide) ?_
          refine lv_iadd hx hb dX11_tick_192 ?_
          refine lv_iconst (v := 3) hx hb dX11_tick_193 (by decide) ?_
          refine lv_irem hx hb dX11_tick_194 (by decide) ?_
          refine fx_zld hx hb hK 1 (rwc_30 hW) rfl (vi_pv (vi_c3 hmu.2 c_174)) dX11_tick_195 ?_
          refine lv_if_ne (tgt := 202) hx hb dX11_tick_196 (by decide) (fun c_196 => ?_) (fun c_196 => ?_)
          · have hf_196 := hf_183.trans (if_neg c_196)
            refine lv_aload_n hx hb dX11_tick_202 rfl (lv_at hl 0 rfl) ?_
            refine lv_iload_n hx hb dX11_tick_203 rfl (lv_at hl 2 rfl) ?_
            refine gx_i (rest := []) ⟨hx, hb, hml, hown, hts⟩ (mX11_run l E rr y v2 (vi_c3 hmu.2 c_174) _ _ hok) (cwV 1 hts gX11_tick_X11_run rfl rfl rfl (by decide +kernel) ⟨Nat.le_of_ble_eq_true rfl, Nat.le_of_ble_eq_true rfl⟩) hW hK (fx_recv hK (rwc_0 hW) rfl) rfl hl.1 rfl (Nat.le_of_ble_eq_true rfl) dX11_tick_204 ⟨Nat.le_of_ble_eq_true rfl, Nat.le_of_ble_eq_true rfl⟩ hS (fun _ h => h) (fun u13 r13 H locs e13 e13r hW hS => ?_)
            have e13 : (fX11_run v2 y).1 = u13 := e13
            have e13r : (fX11_run v2 y).2 = r13 := e13r
            try rw [e13] at hf_196
            try rw [e13r] at hf_196
            have hk13 : okR tg (bg + 1 * k9) u13 := e13 ▸ (okX11_run (vi_c3 hmu.2 c_174) hok)
            refine lv_istore_n (lv' := [(3, .int (r13)), (0, .ref (rr + 0)), (1, .int (v1)), (2, .int (v2))]) hx hb dX11_tick_207 rfl hl (by decide) rfl (fun ls hl => ?_)
            refine lv_aload_n hx hb dX11_tick_208 rfl (lv_at hl 1 rfl) ?_
            refine fx_get (ci := 11) (v := .ref (rr + 29)) hx hb hts i11 hown hK (rwc_0 hW) rfl 29 (by decide) kl95 rfl dX11_tick_209 ?_
            refine lv_iload_n hx hb dX11_tick_212 rfl (lv_at hl 3 rfl) ?_
            refine lv_iconst (v := 0) hx hb dX11_tick_213 (by decide) ?_
            refine fx_zst hx hb hK 1 (rwc_29 hW) (rA_o (o := 29) (by decide)) hS rfl (by decide) (vi_c3 hmu.2 c_174) dX11_tick_214 (fun H locs hat hne hS => ?_)
            have hW : rw_ E rr (sR u13 29 v2.toNatClampNeg (0)) H := rws_29 (k := v2.toNatClampNeg) (v := 0) hW hat hne
            refine lv_iinc (v := v2 + 1) (lv' := [(2, .int (v2 + 1)), (3, .int (r13)), (0, .ref (rr + 0)), (1, .int (v1))]) hx hb dX11_tick_215 hl (k := 3) rfl (by first | rfl | decide) (by decide) rfl (fun ls hl => ?_)
            refine lv_goto (tgt := 172) hx hb dX11_tick_218 (by decide) ?_
            exact ih _ _ _ (sR u13 29 v2.toNatClampNeg (0)) v1 (v2 + 1) hW hS (lv_sub hl [2, 3, 0] rfl) hk13 ⟨mu32_step c_174 hmu.1, vi_c3s hmu.2 c_174⟩ hf_196
          · have hf_196 := hf_183.trans (if_pos c_196)
            refine lv_goto (tgt := 215) hx hb dX11_tick_199 (by decide) ?_
            refine lv_iinc (v := v2 + 1) (lv' := [(2, .int (v2 + 1)), (0, .ref (rr + 0)), (1, .int (v1))]) hx hb dX11_tick_215 hl (k := 2) rfl (by first | rfl | decide) (by decide) rfl (fun ls hl => ?_)
            refine lv_goto (tgt := 172) hx hb dX11_tick_218 (by decide) ?_
            exact ih _ _ _ y v1 (v2 + 1) hW hS (lv_sub hl [1, 2, 0] rfl) (okR_le (k := 1) hok) ⟨mu32_step c_174 hmu.1, vi_c3s hmu.2 c_174⟩ hf_196
  have J135 : ∀ (k8 : Nat) (H : Heap) (locs : List Loc) (ls : Array Slot) (y : RS) (v1 : Int32) (v2 : Int32), rw_ E rr y H → va_S (rA rr) s.heap H locs → lv_has ls 4 [(0, .ref (rr + 0)), (1, .int (v1)), (2, .int (v2))] → okR tg (bg + 4) y → mu32 v2 3 < k8 ∧ 0 ≤ v2.toInt → fX11_tick x = fX11_tick_L135 k8 y v1 v2 → W p l e (headSpec wsX11_tick { frames := 5, cells := 0, slots := 0, locals := 117 }).room s m ([.ref (rr + 0)] : List Value).toArray below meth c H locs 0 0 (MQ below (gQi E (rw_ E rr) (fX11_tick x) (rA rr)) ([.ref (rr + 0)] : List Value).toArray s 0 0 (rA rr)) (F0 m 135 ls []) := by
    intro k8
    induction k8 with
    | zero =>
      intro H locs ls y v1 v2 hW hS hl hok hmu hf
      exact absurd hmu (by omega)
    | succ k9 ih =>
      intro H locs ls y v1 v2 hW hS hl hok hmu hf
      replace hf : fX11_tick x = (if (3 : Int32) ≤ v2 then (fX11_tick_L172 (mu32 0 3 + 1) y v1 0) else (if (y.1 0 46) = 0 then (if (y.1 13 v2.toNatClampNeg) = 7 then (fX11_tick_L135 k9 (fX11_latch v2 3 y) v1 (v2 + 1)) else (fX11_tick_L135 k9 y v1 (v2 + 1))) else (fX11_tick_L135 k9 y v1 (v2 + 1)))) := hf
      refine lv_iload_n hx hb dX11_tick_135 rfl (lv_at hl 2 rfl) ?_
      refine lv_iconst (v := 3) hx hb dX11_tick_136 (by decide) ?_
      refine lv_icmp_ge (tgt := 170) hx hb dX11_tick_137 (by decide) (fun c_137 => ?_) (fun c_137 => ?_)
      · have hf_137 := hf.trans (if_pos c_137)
        refine lv_iconst (v := 0) hx hb dX11_tick_170 (by decide) ?_
        refine lv_istore_n (lv' := [(2, .int (0)), (0, .ref (rr + 0)), (1, .int (v1))]) hx hb dX11_tick_171 rfl hl (by decide) rfl (fun ls hl => ?_)
        exact J172 _ _ _ _ y v1 0 hW hS (lv_sub hl [1, 2, 0] rfl) (by rw [mu03]; exact okR_mono (by omega) hok) ⟨Nat.lt_succ_self _, Int.le_refl 0⟩ hf_137
      · have hf_137 := hf.trans (if_neg c_137)
        refine lv_aload_n hx hb dX11_tick_140 rfl (lv_at hl 0 rfl) ?_
        refine fx_get (ci := 11) (v := .int (y.1 0 46)) hx hb hts i11 hown hK (rwc_0 hW) rfl 46 (by decide) kl144 rfl dX11_tick_141 ?_
        refine lv_if_ne (tgt := 164) hx hb dX11_tick_144 (by decide) (fun c_144 => ?_) (fun c_144 => ?_)
        · have hf_144 := hf_137.trans (if_neg c_144)
          refine lv_iinc (v := v2 + 1) (lv' := [(2, .int (v2 + 1)), (0, .ref (rr + 0)), (1, .int (v1))]) hx hb dX11_tick_164 hl (k := 2) rfl (by first | rfl | decide) (by decide) rfl (fun ls hl => ?_)
          refine lv_goto (tgt := 135) hx hb dX11_tick_167 (by decide) ?_
          exact ih _ _ _ y v1 (v2 + 1) hW hS (lv_sub hl [1, 2, 0] rfl) hok ⟨mu32_step c_137 hmu.1, vi_c3s hmu.2 c_137⟩ hf_144
        · have hf_144 := hf_137.trans (if_pos c_144)
          refine lv_aload_n hx hb dX11_tick_147 rfl (lv_at hl 0 rfl) ?_
          refine fx_get (ci := 11) (v := .ref (rr + 13)) hx hb hts i11 hown hK (rwc_0 hW) rfl 13 (by decide) kl47 rfl dX11_tick_148 ?_
          refine lv_iload_n hx hb dX11_tick_151 rfl (lv_at hl 2 rfl) ?_
          refine fx_ild hx hb hK 0 (rwc_13 hW) rfl (vi_c3 hmu.2 c_137) dX11_tick_152 ?_
          refine lv_bipush (v := 7) hx hb dX11_tick_153 (by decide) ?_
          refine lv_icmp_ne (tgt := 164) hx hb dX11_tick_155 (by decide) (fun c_155 => ?_) (fun c_155 => ?_)
          · have hf_155 := hf_144.trans (if_neg c_155)
            refine lv_iinc (v := v2 + 1) (lv' := [(2, .int (v2 + 1)), (0, .ref (rr + 0)), (1, .int (v1))]) hx hb dX11_tick_164 hl (k := 2) rfl (by first | rfl | decide) (by decide) rfl (fun ls hl => ?_)
            refine lv_goto (tgt := 135) hx hb dX11_tick_167 (by decide) ?_
            exact ih _ _ _ y v1 (v2 + 1) hW hS (lv_sub hl [1, 2, 0] rfl) hok ⟨mu32_step c_137 hmu.1, vi_c3s hmu.2 c_137⟩ hf_155
          · have hf_155 := hf_144.trans (if_pos c_155)
            refine lv_aload_n hx hb dX11_tick_158 rfl (lv_at hl 0 rfl) ?_
            refine lv_iload_n hx hb dX11_tick_159 rfl (lv_at hl 2 rfl) ?_
            refine lv_iconst (v := 3) hx hb dX11_tick_160 (by decide) ?_
            refine gx_v (rest := []) ⟨hx, hb, hml, hown, hts⟩ (mX11_latch l E rr y v2 3 (vi_c3 hmu.2 c_137) (by unfold vp_in; decide) (fun h => absurd h (by decide)) _ _ hok) (cwV 2 hts gX11_tick_X11_latch rfl rfl rfl (by decide +kernel) ⟨Nat.le_of_ble_eq_true rfl, Nat.le_of_ble_eq_true rfl⟩) hW hK (fx_recv hK (rwc_0 hW) rfl) rfl hl.1 rfl (Nat.le_of_ble_eq_true rfl) dX11_tick_161 ⟨Nat.le_of_ble_eq_true rfl, Nat.le_of_ble_eq_true rfl⟩ hS (fun _ h => h) (fun u12 H locs e12 hW hS => ?_)
            have e12 : fX11_latch v2 3 y = u12 := e12
            try rw [e12] at hf_155
            have hk12 : okR tg (bg + 4) u12 := e12 ▸ (okX11_latch (vi_c3 hmu.2 c_137) (by unfold vp_in; decide) (fun h => absurd h (by decide)) hok)
            refine lv_iinc (v := v2 + 1) (lv' := [(2, .int (v2 + 1)), (0, .ref (rr + 0)), (1, .int (v1))]) hx hb dX11_tick_164 hl (k := 2) rfl (by first | rfl | decide) (by decide) rfl (fun ls hl => ?_)
            refine lv_goto (tgt := 135) hx hb dX11_tick_167 (by decide) ?_
            exact ih _ _ _ u12 v1 (v2 + 1) hW hS (lv_sub hl [1, 2, 0] rfl) hk12 ⟨mu32_step c_137 hmu.1, vi_c3s hmu.2 c_137⟩ hf_155
  have J133 : ∀ (H : Heap) (locs : List Loc) (ls : Array Slot) (y : RS) (v1 : Int32), rw_ E rr y H → va_S (rA rr) s.heap H locs → lv_has ls 4 [(0, .ref (rr + 0)), (1, .int (v1))] → okR tg (bg + 4) y → fX11_tick x = fX11_tick_J133 y v1 → W p l e (headSpec wsX11_tick { frames := 5, cells := 0, slots := 0, locals := 117 }).room s m ([.ref (rr + 0)] : List Value).toArray below meth c H locs 0 0 (MQ below (gQi E (rw_ E rr) (fX11_tick x) (rA rr)) ([.ref (rr + 0)] : List Value).toArray s 0 0 (rA rr)) (F0 m 133 ls []) := by
    intro H locs ls y v1 hW hS hl hok hf
    replace hf : fX11_tick x = (fX11_tick_L135 (mu32 0 3 + 1) y v1 0) := hf
    refine lv_iconst (v := 0) hx hb dX11_tick_133 (by decide) ?_
    refine lv_istore_n (lv' := [(2, .int (0)), (0, .ref (rr + 0)), (1, .int (v1))]) hx hb dX11_tick_134 rfl hl (by decide) rfl (fun ls hl => ?_)
    exact J135 _ _ _ _ y v1 0 hW hS (lv_sub hl [1, 2, 0] rfl) hok ⟨Nat.lt_succ_self _, Int.le_refl 0⟩ hf
  have J106 : ∀ (H : Heap) (locs : List Loc) (ls : Array Slot) (y : RS) (v1 : Int32) (w0 : Int32), rw_ E rr y H → va_S (rA rr) s.heap H locs → lv_has ls 4 [(0, .ref (rr + 0)), (1, .int (v1))] → okR tg (bg + 4) y → fX11_tick x = fX11_tick_J106 y v1 w0 → W p l e (headSpec wsX11_tick { frames := 5, cells := 0, slots := 0, locals := 117 }).room s m ([.ref (rr + 0)] : List Value).toArray below meth c H locs 0 0 (MQ below (gQi E (rw_ E rr) (fX11_tick x) (rA rr)) ([.ref (rr + 0)] : List Value).toArray s 0 0 (rA rr)) (F0 m 106 ls [.int (w0), .ref (rr + 0)]) := by
    intro H locs ls y v1 w0 hW hS hl hok hf
    replace hf : fX11_tick x = (if (y.1 0 47) = 0 then (if (3600 : Int32) ≤ w0 then (fX11_tick_J133 (sR y 0 46 (w0)) v1) else (fX11_tick_J133 (fX11_latch 0 6 (sR y 0 46 (w0))) v1)) else (fX11_tick_J133 (sR y 0 46 (w0)) v1)) := hf
    refine fx_put (ci := 11) (v := .int (w0)) hx hb hts i11 tyX11_ok nmX11 hown hK (rwc_0 hW) (rA_o (o := 0) (by decide)) hS rfl 46 (by decide) kl144 rfl rfl rfl (Nat.le_of_ble_eq_true rfl) dX11_tick_106 (fun H locs hat hne hS => ?_)
    have hW : rw_ E rr (sR y 0 46 (w0)) H := rwf_46 (v := w0) hW hat hne
    refine lv_aload_n hx hb dX11_tick_109 rfl (lv_at hl 0 rfl) ?_
    refine fx_get (ci := 11) (v := .int (y.1 0 47)) hx hb hts i11 hown hK (rwc_0 hW) rfl 47 (by decide) kl148 rfl dX11_tick_110 ?_
    refine lv_if_ne (tgt := 133) hx hb dX11_tick_113 (by decide) (fun c_113 => ?_) (fun c_113 => ?_)
    · have hf_113 := hf.trans (if_neg c_113)
      exact J133 _ _ _ (sR y 0 46 (w0)) v1 hW hS (lv_sub hl [0, 1] rfl) hok hf_113
    · have hf_113 := hf.trans (if_pos c_113)
      refine lv_aload_n hx hb dX11_tick_116 rfl (lv_at hl 0 rfl) ?_
      refine fx_get (ci := 11) (v := .int (w0)) hx hb hts i11 hown hK (rwc_0 hW) rfl 46 (by decide) kl144 rfl dX11_tick_117 ?_
      refine lv_sipush (v := 3600) hx hb dX11_tick_120 (by decide) ?_
      refine lv_icmp_ge (tgt := 133) hx hb dX11_tick_123 (by decide) (fun c_123 => ?_) (fun c_123 => ?_)
      · have hf_123 := hf_113.trans (if_pos c_123)
        exact J133 _ _ _ (sR y 0 46 (w0)) v1 hW hS (lv_sub hl [0, 1] rfl) hok hf_123
      · have hf_123 := hf_113.trans (if_neg c_123)
        refine lv_aload_n hx hb dX11_tick_126 rfl (lv_at hl 0 rfl) ?_
        refine lv_iconst (v := 0) hx hb dX11_tick_127 (by decide) ?_
        refine lv_bipush (v := 6) hx hb dX11_tick_128 (by decide) ?_
        refine gx_v (rest := []) ⟨hx, hb, hml, hown, hts⟩ (mX11_latch l E rr (sR y 0 46 (w0)) 0 6 (by unfold vp_in; decide) (by unfold vp_in; decide) (fun h => absurd h (by decide)) _ _ hok) (cwV 2 hts gX11_tick_X11_latch rfl rfl rfl (by decide +kernel) ⟨Nat.le_of_ble_eq_true rfl, Nat.le_of_ble_eq_true rfl⟩) hW hK (fx_recv hK (rwc_0 hW) rfl) rfl hl.1 rfl (Nat.le_of_ble_eq_true rfl) dX11_tick_130 ⟨Nat.le_of_ble_eq_true rfl, Nat.le_of_ble_eq_true rfl⟩ hS (fun _ h => h) (fun u11 H locs e11 hW hS => ?_)
        have e11 : fX11_latch 0 6 (sR y 0 46 (w0)) = u11 := e11
        try rw [e11] at hf_123
        have hk11 : okR tg (bg + 4) u11 := e11 ▸ (okX11_latch (by unfold vp_in; decide) (by unfold vp_in; decide) (fun h => absurd h (by decide)) hok)
        exact J133 _ _ _ u11 v1 hW hS (lv_sub hl [0, 1] rfl) hk11 hf_123
  have J8 : ∀ (k8 : Nat) (H : Heap) (locs : List Loc) (ls : Array Slot) (y : RS) (v1 : Int32) (v2 : Int32), rw_ E rr y H → va_S (rA rr) s.heap H locs → lv_has ls 4 [(0, .ref (rr + 0)), (1, .int (v1)), (2, .int (v2))] → okR tg (bg + 1 * k8 + 4) y → mu32 v2 3 < k8 ∧ 0 ≤ v2.toInt → fX11_tick x = fX11_tick_L8 k8 y v1 v2 → W p l e (headSpec wsX11_tick { frames := 5, cells := 0, slots := 0, locals := 117 }).room s m ([.ref (rr + 0)] : List Value).toArray below meth c H locs 0 0 (MQ below (gQi E (rw_ E rr) (fX11_tick x) (rA rr)) ([.ref (rr + 0)] : List Value).toArray s 0 0 (rA rr)) (F0 m 8 ls []) := by
    intro k8
    induction k8 with
    | zero =>
      intro H locs ls y v1 v2 hW hS hl hok hmu hf
      exact absurd hmu (by omega)
    | succ k9 ih =>
      intro H locs ls y v1 v2 hW hS hl hok hmu hf
      replace hf : fX11_tick x = (if (3 : Int32) ≤ v2 then (if (y.1 0 47) = 0 then (fX11_tick_J106 y v1 (fX11_most 0 (((y.1 0 46) - 1) - v1) y)) else (fX11_tick_J106 y v1 (fX11_least 36000 ((y.1 0 46) + 4) y))) else (if (y.1 13 v2.toNatClampNeg) = 7 then (if (fX11_isEntry v2 (fX11_lines v2 (fX11_deliver v2 y).1)) = 0 then (fX11_tick_L8 k9 (fX11_lines v2 (fX11_deliver v2 y).1) (v1 + ((fX11_deliver v2 y).2)) (v2 + 1)) else (if (((fX11_lines v2 (fX11_deliver v2 y).1).1 0 45) - ((fX11_lines v2 (fX11_deliver v2 y).1).1 44 v2.toNatClampNeg)) < 60 then (fX11_tick_L8 k9 (fX11_lines v2 (fX11_deliver v2 y).1) (v1 + ((fX11_deliver v2 y).2)) (v2 + 1)) else (fX11_tick_L8 k9 (fX11_drop v2 (fX11_lines v2 (fX11_deliver v2 y).1)) (v1 + ((fX11_deliver v2 y).2)) (v2 + 1)))) else (if (fX11_isEntry v2 (fX11_lines v2 y)) = 0 then (fX11_tick_L8 k9 (fX11_lines v2 y) v1 (v2 + 1)) else (if (((fX11_lines v2 y).1 0 45) - ((fX11_lines v2 y).1 44 v2.toNatClampNeg)) < 60 then (fX11_tick_L8 k9 (fX11_lines v2 y) v1 (v2 + 1)) else (fX11_tick_L8 k9 (fX11_drop v2 (fX11_lines v2 y)) v1 (v2 + 1)))))) := hf
      refine lv_iload_n hx hb dX11_tick_8 rfl (lv_at hl 2 rfl) ?_
      refine lv_iconst (v := 3) hx hb dX11_tick_9 (by decide) ?_
      refine lv_icmp_ge (tgt := 72) hx hb dX11_tick_10 (by decide) (fun c_10 => ?_) (fun c_10 => ?_)
      · have hf_10 := hf.trans (if_pos c_10)
        refine lv_aload_n hx hb dX11_tick_72 rfl (lv_at hl 0 rfl) ?_
        refine lv_aload_n hx hb dX11_tick_73 rfl (lv_at hl 0 rfl) ?_
        refine fx_get (ci := 11) (v := .int (y.1 0 47)) hx hb hts i11 hown hK (rwc_0 hW) rfl 47 (by decide) kl148 rfl dX11_tick_74 ?_
        refine lv_if_eq (tgt := 94) hx hb dX11_tick_77 (by decide) (fun c_77 => ?_) (fun c_77 => ?_)
        · have hf_77 := hf_10.trans (if_pos c_77)
          refine lv_iconst (v := 0) hx hb dX11_tick_94 (by decide) ?_
          refine lv_aload_n hx hb dX11_tick_95 rfl (lv_at hl 0 rfl) ?_
          refine fx_get (ci := 11) (v := .int (y.1 0 46)) hx hb hts i11 hown hK (rwc_0 hW) rfl 46 (by decide) kl144 rfl dX11_tick_96 ?_
          refine lv_iconst (v := 1) hx hb dX11_tick_99 (by decide) ?_
          refine lv_isub hx hb dX11_tick_100 ?_
          refine lv_iload_n hx hb dX11_tick_101 rfl (lv_at hl 1 rfl) ?_
          refine lv_isub hx hb dX11_tick_102 ?_
          refine gx_si (rest := [.ref (rr + 0)]) ⟨hx, hb, hml, hown, hts⟩ (mX11_most l E rr y 0 (((y.1 0 46) - 1) - v1)) (va_cwS 2 hts gX11_tick_X11_most rfl rfl rfl (by decide +kernel) ⟨Nat.le_of_ble_eq_true rfl, Nat.le_of_ble_eq_true rfl⟩) hW hK rfl hl.1 rfl (Nat.le_of_ble_eq_true rfl) dX11_tick_103 ⟨Nat.le_of_ble_eq_true rfl, Nat.le_of_ble_eq_true rfl⟩ hS (fun _ h => h) (fun _ r2 H locs _ e2 hW hS => ?_)
          have e2 : fX11_most 0 (((y.1 0 46) - 1) - v1) y = r2 := e2
          try rw [e2] at hf_77
          exact J106 _ _ _ y v1 r2 hW hS (lv_sub hl [0, 1] rfl) (okR_mono (by omega) hok) hf_77
        · have hf_77 := hf_10.trans (if_neg c_77)
          refine lv_ldc hx hb hown (hts (.constant RX11 143 (36000)) (by decide +kernel)) dX11_tick_80 ?_
          refine lv_aload_n hx hb dX11_tick_82 rfl (lv_at hl 0 rfl) ?_
          refine fx_get (ci := 11) (v := .int (y.1 0 46)) hx hb hts i11 hown hK (rwc_0 hW) rfl 46 (by decide) kl144 rfl dX11_tick_83 ?_
          refine lv_iconst (v := 4) hx hb dX11_tick_86 (by decide) ?_
          refine lv_iadd hx hb dX11_tick_87 ?_
          refine gx_si (rest := [.ref (rr + 0)]) ⟨hx, hb, hml, hown, hts⟩ (mX11_least l E rr y 36000 ((y.1 0 46) + 4)) (va_cwS 2 hts gX11_tick_X11_least rfl rfl rfl (by decide +kernel) ⟨Nat.le_of_ble_eq_true rfl, Nat.le_of_ble_eq_true rfl⟩) hW hK rfl hl.1 rfl (Nat.le_of_ble_eq_true rfl) dX11_tick_88 ⟨Nat.le_of_ble_eq_true rfl, Nat.le_of_ble_eq_true rfl⟩ hS (fun _ h => h) (fun _ r3 H locs _ e3 hW hS => ?_)
          have e3 : fX11_least 36000 ((y.1 0 46) + 4) y = r3 := e3
          try rw [e3] at hf_77
          refine lv_goto (tgt := 106) hx hb dX11_tick_91 (by decide) ?_
          exact J106 _ _ _ y v1 r3 hW hS (lv_sub hl [0, 1] rfl) (okR_mono (by omega) hok) hf_77
      · have hf_10 := hf.trans (if_neg c_10)
        refine lv_aload_n hx hb dX11_tick_13 rfl (lv_at hl 0 rfl) ?_
        refine fx_get (ci := 11) (v := .ref (rr + 13)) hx hb hts i11 hown hK (rwc_0 hW) rfl 13 (by decide) kl47 rfl dX11_tick_14 ?_
        refine lv_iload_n hx hb dX11_tick_17 rfl (lv_at hl 2 rfl) ?_
        refine fx_ild hx hb hK 0 (rwc_13 hW) rfl (vi_c3 hmu.2 c_10) dX11_tick_18 ?_
        refine lv_bipush (v := 7) hx hb dX11_tick_19 (by decide) ?_
        refine lv_icmp_ne (tgt := 32) hx hb dX11_tick_21 (by decide) (fun c_21 => ?_) (fun c_21 => ?_)
        · have hf_21 := hf_10.trans (if_neg c_21)
          refine lv_aload_n hx hb dX11_tick_32 rfl (lv_at hl 0 rfl) ?_
          refine lv_iload_n hx hb dX11_tick_33 rfl (lv_at hl 2 rfl) ?_
          refine gx_v (rest := []) ⟨hx, hb, hml, hown, hts⟩ (mX11_lines l E rr y v2 (vi_c3 hmu.2 c_10) _ _ hok) (cwV 1 hts gX11_tick_X11_lines rfl rfl rfl (by decide +kernel) ⟨Nat.le_of_ble_eq_true rfl, Nat.le_of_ble_eq_true rfl⟩) hW hK (fx_recv hK (rwc_0 hW) rfl) rfl hl.1 rfl (Nat.le_of_ble_eq_true rfl) dX11_tick_34 ⟨Nat.le_of_ble_eq_true rfl, Nat.le_of_ble_eq_true rfl⟩ hS (fun _ h => h) (fun u4 H locs e4 hW hS => ?_)
          have e4 : fX11_lines v2 y = u4 := e4
          try rw [e4] at hf_21
          have hk4 : okR tg ((bg + 1 * k9) + 5) u4 := e4 ▸ (okX11_lines (vi_c3 hmu.2 c_10) hok)
          refine lv_aload_n hx hb dX11_tick_37 rfl (lv_at hl 0 rfl) ?_
          refine lv_iload_n hx hb dX11_tick_38 rfl (lv_at hl 2 rfl) ?_
          refine gx_i (rest := []) ⟨hx, hb, hml, hown, hts⟩ (mX11_isEntry l E rr u4 v2 (vi_c3 hmu.2 c_10)) (cwV 1 hts gX11_tick_X11_isEntry rfl rfl rfl (by decide +kernel) ⟨Nat.le_of_ble_eq_true rfl, Nat.le_of_ble_eq_true rfl⟩) hW hK (fx_recv hK (rwc_0 hW) rfl) rfl hl.1 rfl (Nat.le_of_ble_eq_true rfl) dX11_tick_39 ⟨Nat.le_of_ble_eq_true rfl, Nat.le_of_ble_eq_true rfl⟩ hS (fun _ h => h) (fun _ r5 H locs _ e5 hW hS => ?_)
          have e5 : fX11_isEntry v2 u4 = r5 := e5
          try rw [e5] at hf_21
          refine lv_if_eq (tgt := 66) hx hb dX11_tick_42 (by decide) (fun c_42 => ?_) (fun c_42 => ?_)
          · have hf_42 := hf_21.trans (if_pos c_42)
            refine lv_iinc (v := v2 + 1) (lv' := [(2, .int (v2 + 1)), (0, .ref (rr + 0)), (1, .int (v1))]) hx hb dX11_tick_66 hl (k := 2) rfl (by first | rfl | decide) (by decide) rfl (fun ls hl => ?_)
            refine lv_goto (tgt := 8) hx hb dX11_tick_69 (by decide) ?_
            exact ih _ _ _ u4 v1 (v2 + 1) hW hS (lv_sub hl [1, 2, 0] rfl) (okR_le (k := 1) hk4) ⟨mu32_step c_10 hmu.1, vi_c3s hmu.2 c_10⟩ hf_42
          · have hf_42 := hf_21.trans (if_neg c_42)
            refine lv_aload_n hx hb dX11_tick_45 rfl (lv_at hl 0 rfl) ?_
            refine fx_get (ci := 11) (v := .int (u4.1 0 45)) hx hb hts i11 hown hK (rwc_0 hW) rfl 45 (by decide) kl167 rfl dX11_tick_46 ?_
            refine lv_aload_n hx hb dX11_tick_49 rfl (lv_at hl 0 rfl) ?_
            refine fx_get (ci := 11) (v := .ref (rr + 44)) hx hb hts i11 hown hK (rwc_0 hW) rfl 44 (by decide) kl140 rfl dX11_tick_50 ?_
            refine lv_iload_n hx hb dX11_tick_53 rfl (lv_at hl 2 rfl) ?_
            refine fx_ild hx hb hK 0 (rwc_44 hW) rfl (vi_c3 hmu.2 c_10) dX11_tick_54 ?_
            refine lv_isub hx hb dX11_tick_55 ?_
            refine lv_bipush (v := 60) hx hb dX11_tick_56 (by decide) ?_
            refine lv_icmp_lt (tgt := 66) hx hb dX11_tick_58 (by decide) (fun c_58 => ?_) (fun c_58 => ?_)
            · have hf_58 := hf_42.trans (if_pos c_58)
              refine lv_iinc (v := v2 + 1) (lv' := [(2, .int (v2 + 1)), (0, .ref (rr + 0)), (1, .int (v1))]) hx hb dX11_tick_66 hl (k := 2) rfl (by first | rfl | decide) (by decide) rfl (fun ls hl => ?_)
              refine lv_goto (tgt := 8) hx hb dX11_tick_69 (by decide) ?_
              exact ih _ _ _ u4 v1 (v2 + 1) hW hS (lv_sub hl [1, 2, 0] rfl) (okR_le (k := 1) hk4) ⟨mu32_step c_10 hmu.1, vi_c3s hmu.2 c_10⟩ hf_58
            · have hf_58 := hf_42.trans (if_neg c_58)
              refine lv_aload_n hx hb dX11_tick_61 rfl (lv_at hl 0 rfl) ?_
              refine lv_iload_n hx hb dX11_tick_62 rfl (lv_at hl 2 rfl) ?_
              refine gx_v (rest := []) ⟨hx, hb, hml, hown, hts⟩ (mX11_drop l E rr u4 v2 (vi_c3 hmu.2 c_10) _ _ hk4) (cwV 1 hts gX11_tick_X11_drop rfl rfl rfl (by decide +kernel) ⟨Nat.le_of_ble_eq_true rfl, Nat.le_of_ble_eq_true rfl⟩) hW hK (fx_recv hK (rwc_0 hW) rfl) rfl hl.1 rfl (Nat.le_of_ble_eq_true rfl) dX11_tick_63 ⟨Nat.le_of_ble_eq_true rfl, Nat.le_of_ble_eq_true rfl⟩ hS (fun _ h => h) (fun u6 H locs e6 hW hS => ?_)
              have e6 : fX11_drop v2 u4 = u6 := e6
              try rw [e6] at hf_58
              have hk6 : okR tg ((bg + 1 * k9) + 4) u6 := e6 ▸ (okX11_drop (vi_c3 hmu.2 c_10) hk4)
              refine lv_iinc (v := v2 + 1) (lv' := [(2, .int (v2 + 1)), (0, .ref (rr + 0)), (1, .int (v1))]) hx hb dX11_tick_66 hl (k := 2) rfl (by first | rfl | decide) (by decide) rfl (fun ls hl => ?_)
              refine lv_goto (tgt := 8) hx hb dX11_tick_69 (by decide) ?_
              exact ih _ _ _ u6 v1 (v2 + 1) hW hS (lv_sub hl [1, 2, 0] rfl) hk6 ⟨mu32_step c_10 hmu.1, vi_c3s hmu.2 c_10⟩ hf_58
        · have hf_21 := hf_10.trans (if_pos c_21)
          refine lv_iload_n hx hb dX11_tick_24 rfl (lv_at hl 1 rfl) ?_
          refine lv_aload_n hx hb dX11_tick_25 rfl (lv_at hl 0 rfl) ?_
          refine lv_iload_n hx hb dX11_tick_26 rfl (lv_at hl 2 rfl) ?_
          refine gx_i (rest := [.int (v1)]) ⟨hx, hb, hml, hown, hts⟩ (mX11_deliver l E rr y v2 (vi_c3 hmu.2 c_10) c_21 _ _ hok) (cwV 1 hts gX11_tick_X11_deliver rfl rfl rfl (by decide +kernel) ⟨Nat.le_of_ble_eq_true rfl, Nat.le_of_ble_eq_true rfl⟩) hW hK (fx_recv hK (rwc_0 hW) rfl) rfl hl.1 rfl (Nat.le_of_ble_eq_true rfl) dX11_tick_27 ⟨Nat.le_of_ble_eq_true rfl, Nat.le_of_ble_eq_true rfl⟩ hS (fun _ h => h) (fun u7 r7 H locs e7 e7r hW hS => ?_)
          have e7 : (fX11_deliver v2 y).1 = u7 := e7
          have e7r : (fX11_deliver v2 y).2 = r7 := e7r
          try rw [e7] at hf_21
          try rw [e7r] at hf_21
          have hk7 : okR tg ((bg + 1 * k9) + 5) u7 := e7 ▸ (okX11_deliver (vi_c3 hmu.2 c_10) hok)
          refine lv_iadd hx hb dX11_tick_30 ?_
          refine lv_istore_n (lv' := [(1, .int (v1 + r7)), (0, .ref (rr + 0)), (2, .int (v2))]) hx hb dX11_tick_31 rfl hl (by decide) rfl (fun ls hl => ?_)
          refine lv_aload_n hx hb dX11_tick_32 rfl (lv_at hl 1 rfl) ?_
          refine lv_iload_n hx hb dX11_tick_33 rfl (lv_at hl 2 rfl) ?_
          refine gx_v (rest := []) ⟨hx, hb, hml, hown, hts⟩ (mX11_lines l E rr u7 v2 (vi_c3 hmu.2 c_10) _ _ hk7) (cwV 1 hts gX11_tick_X11_lines rfl rfl rfl (by decide +kernel) ⟨Nat.le_of_ble_eq_true rfl, Nat.le_of_ble_eq_true rfl⟩) hW hK (fx_recv hK (rwc_0 hW) rfl) rfl hl.1 rfl (Nat.le_of_ble_eq_true rfl) dX11_tick_34 ⟨Nat.le_of_ble_eq_true rfl, Nat.le_of_ble_eq_true rfl⟩ hS (fun _ h => h) (fun u8 H locs e8 hW hS => ?_)
          have e8 : fX11_lines v2 u7 = u8 := e8
          try rw [e8] at hf_21
          have hk8 : okR tg ((bg + 1 * k9) + 5) u8 := e8 ▸ (okX11_lines (vi_c3 hmu.2 c_10) hk7)
          refine lv_aload_n hx hb dX11_tick_37 rfl (lv_at hl 1 rfl) ?_
          refine lv_iload_n hx hb dX11_tick_38 rfl (lv_at hl 2 rfl) ?_
          refine gx_i (rest := []) ⟨hx, hb, hml, hown, hts⟩ (mX11_isEntry l E rr u8 v2 (vi_c3 hmu.2 c_10)) (cwV 1 hts gX11_tick_X11_isEntry rfl rfl rfl (by decide +kernel) ⟨Nat.le_of_ble_eq_true rfl, Nat.le_of_ble_eq_true rfl⟩) hW hK (fx_recv hK (rwc_0 hW) rfl) rfl hl.1 rfl (Nat.le_of_ble_eq_true rfl) dX11_tick_39 ⟨Nat.le_of_ble_eq_true rfl, Nat.le_of_ble_eq_true rfl⟩ hS (fun _ h => h) (fun _ r9 H locs _ e9 hW hS => ?_)
          have e9 : fX11_isEntry v2 u8 = r9 := e9
          try rw [e9] at hf_21
          refine lv_if_eq (tgt := 66) hx hb dX11_tick_42 (by decide) (fun c_42 => ?_) (fun c_42 => ?_)
          · have hf_42 := hf_21.trans (if_pos c_42)
            refine lv_iinc (v := v2 + 1) (lv' := [(2, .int (v2 + 1)), (1, .int (v1 + r7)), (0, .ref (rr + 0))]) hx hb dX11_tick_66 hl (k := 2) rfl (by first | rfl | decide) (by decide) rfl (fun ls hl => ?_)
            refine lv_goto (tgt := 8) hx hb dX11_tick_69 (by decide) ?_
            exact ih _ _ _ u8 (v1 + r7) (v2 + 1) hW hS (lv_sub hl [2, 1, 0] rfl) (okR_le (k := 1) hk8) ⟨mu32_step c_10 hmu.1, vi_c3s hmu.2 c_10⟩ hf_42
          · have hf_42 := hf_21.trans (if_neg c_42)
            refine lv_aload_n hx hb dX11_tick_45 rfl (lv_at hl 1 rfl) ?_
            refine fx_get (ci := 11) (v := .int (u8.1 0 45)) hx hb hts i11 hown hK (rwc_0 hW) rfl 45 (by decide) kl167 rfl dX11_tick_46 ?_
            refine lv_aload_n hx hb dX11_tick_49 rfl (lv_at hl 1 rfl) ?_
            refine fx_get (ci := 11) (v := .ref (rr + 44)) hx hb hts i11 hown hK (rwc_0 hW) rfl 44 (by decide) kl140 rfl dX11_tick_50 ?_
            refine lv_iload_n hx hb dX11_tick_53 rfl (lv_at hl 2 rfl) ?_
            refine fx_ild hx hb hK 0 (rwc_44 hW) rfl (vi_c3 hmu.2 c_10) dX11_tick_54 ?_
            refine lv_isub hx hb dX11_tick_55 ?_
            refine lv_bipush (v := 60) hx hb dX11_tick_56 (by decide) ?_
            refine lv_icmp_lt (tgt := 66) hx hb dX11_tick_58 (by decide) (fun c_58 => ?_) (fun c_58 => ?_)
            · have hf_58 := hf_42.trans (if_pos c_58)
              refine lv_iinc (v := v2 + 1) (lv' := [(2, .int (v2 + 1)), (1, .int (v1 + r7)), (0, .ref (rr + 0))]) hx hb dX11_tick_66 hl (k := 2) rfl (by first | rfl | decide) (by decide) rfl (fun ls hl => ?_)
              refine lv_goto (tgt := 8) hx hb dX11_tick_69 (by decide) ?_
              exact ih _ _ _ u8 (v1 + r7) (v2 + 1) hW hS (lv_sub hl [2, 1, 0] rfl) (okR_le (k := 1) hk8) ⟨mu32_step c_10 hmu.1, vi_c3s hmu.2 c_10⟩ hf_58
            · have hf_58 := hf_42.trans (if_neg c_58)
              refine lv_aload_n hx hb dX11_tick_61 rfl (lv_at hl 1 rfl) ?_
              refine lv_iload_n hx hb dX11_tick_62 rfl (lv_at hl 2 rfl) ?_
              refine gx_v (rest := []) ⟨hx, hb, hml, hown, hts⟩ (mX11_drop l E rr u8 v2 (vi_c3 hmu.2 c_10) _ _ hk8) (cwV 1 hts gX11_tick_X11_drop rfl rfl rfl (by decide +kernel) ⟨Nat.le_of_ble_eq_true rfl, Nat.le_of_ble_eq_true rfl⟩) hW hK (fx_recv hK (rwc_0 hW) rfl) rfl hl.1 rfl (Nat.le_of_ble_eq_true rfl) dX11_tick_63 ⟨Nat.le_of_ble_eq_true rfl, Nat.le_of_ble_eq_true rfl⟩ hS (fun _ h => h) (fun u10 H locs e10 hW hS => ?_)
              have e10 : fX11_drop v2 u8 = u10 := e10
              try rw [e10] at hf_58
              have hk10 : okR tg ((bg + 1 * k9) + 4) u10 := e10 ▸ (okX11_drop (vi_c3 hmu.2 c_10) hk8)
              refine lv_iinc (v := v2 + 1) (lv' := [(2, .int (v2 + 1)), (1, .int (v1 + r7)), (0, .ref (rr + 0))]) hx hb dX11_tick_66 hl (k := 2) rfl (by first | rfl | decide) (by decide) rfl (fun ls hl => ?_)
              refine lv_goto (tgt := 8) hx hb dX11_tick_69 (by decide) ?_
              exact ih _ _ _ u10 (v1 + r7) (v2 + 1) hW hS (lv_sub hl [2, 1, 0] rfl) hk10 ⟨mu32_step c_10 hmu.1, vi_c3s hmu.2 c_10⟩ hf_58
  have hf : fX11_tick x = (fX11_tick_L8 (mu32 0 3 + 1) (fX11_beginTick x) 0 0) := rfl
  refine lv_aload_n hx hb dX11_tick_0 rfl (lv_at hl 0 rfl) ?_
  refine gx_v (rest := []) ⟨hx, hb, hml, hown, hts⟩ (mX11_beginTick l E rr x _ _ hok) (cwV 0 hts gX11_tick_X11_beginTick rfl rfl rfl (by decide +kernel) ⟨Nat.le_of_ble_eq_true rfl, Nat.le_of_ble_eq_true rfl⟩) hW hK (fx_recv hK (rwc_0 hW) rfl) rfl hl.1 rfl (Nat.le_of_ble_eq_true rfl) dX11_tick_1 ⟨Nat.le_of_ble_eq_true rfl, Nat.le_of_ble_eq_true rfl⟩ hS (fun _ h => h) (fun u1 H locs e1 hW hS => ?_)
  have e1 : fX11_beginTick x = u1 := e1
  try rw [e1] at hf
  have hk1 : okR tg (bg + 8) u1 := e1 ▸ (okX11_beginTick hok)
  refine lv_iconst (v := 0) hx hb dX11_tick_4 (by decide) ?_
  refine lv_istore_n (lv' := [(1, .int (0)), (0, .ref (rr + 0))]) hx hb dX11_tick_5 rfl hl (by decide) rfl (fun ls hl => ?_)
  refine lv_iconst (v := 0) hx hb dX11_tick_6 (by decide) ?_
  refine lv_istore_n (lv' := [(2, .int (0)), (1, .int (0)), (0, .ref (rr + 0))]) hx hb dX11_tick_7 rfl hl (by decide) rfl (fun ls hl => ?_)
  exact J8 _ _ _ _ u1 0 0 hW hS (lv_sub hl [2, 1, 0] rfl) (by rw [mu03]; exact okR_mono (by omega) hk1) ⟨Nat.lt_succ_self _, Int.le_refl 0⟩ hf
theorem okX11_tick_L172 {tg bg : Nat} : ∀ (k8 : Nat) (y : RS) (v1 : Int32) (v2 : Int32), okR tg (bg + 1 * k8) y → 0 ≤ v2.toInt → okR tg bg (fX11_tick_L172 k8 y v1 v2).1 := by
  intro k8
  induction k8 with
  | zero => intro y v1 v2 hok h0; exact okR_mono2 (x := y) (by omega) (by omega) hok
  | succ k9 ih => intro y v1 v2 hok h0; unfold fX11_tick_L172; exact (okR_ite1 (fun c_174 => (okR_mono2 (by omega) (by omega) hok)) (fun c_174 => (okR_ite1 (fun c_183 => (ih _ _ _ (okR_le (k := 1) hok) (vi_c3s h0 c_174))) (fun c_183 => (okR_ite1 (fun c_196 => (ih _ _ _ (okR_le (k := 1) hok) (vi_c3s h0 c_174))) (fun c_196 => (ih _ _ _ (okR_sR rfl (okX11_run (vi_c3 h0 c_174) hok)) (vi_c3s h0 c_174))))))))
theorem okX11_tick_L135 {tg bg : Nat} : ∀ (k8 : Nat) (y : RS) (v1 : Int32) (v2 : Int32), okR tg (bg + 4) y → 0 ≤ v2.toInt → okR tg bg (fX11_tick_L135 k8 y v1 v2).1 := by
  intro k8
  induction k8 with
  | zero => intro y v1 v2 hok h0; exact okR_mono2 (x := y) (by omega) (by omega) hok
  | succ k9 ih => intro y v1 v2 hok h0; unfold fX11_tick_L135; exact (okR_ite1 (fun c_137 => (okX11_tick_L172 _ _ _ _ (by rw [mu03]; exact okR_mono (by omega) hok) (Int.le_refl 0))) (fun c_137 => (okR_ite1 (fun c_144 => (okR_ite1 (fun c_155 => (ih _ _ _ (okX11_latch (vi_c3 h0 c_137) (by unfold vp_in; decide) (fun h => absurd h (by decide)) hok) (vi_c3s h0 c_137))) (fun c_155 => (ih _ _ _ hok (vi_c3s h0 c_137))))) (fun c_144 => (ih _ _ _ hok (vi_c3s h0 c_137))))))
theorem okX11_tick_J133 {tg bg : Nat} {y : RS} {v1 : Int32} (hok : okR tg (bg + 4) y) : okR tg bg (fX11_tick_J133 y v1).1 := by unfold fX11_tick_J133; exact (okX11_tick_L135 _ _ _ _ hok (Int.le_refl 0))
theorem okX11_tick_J106 {tg bg : Nat} {y : RS} {v1 : Int32} {w0 : Int32} (hok : okR tg (bg + 4) y) : okR tg bg (fX11_tick_J106 y v1 w0).1 := by unfold fX11_tick_J106; exact (okR_ite1 (fun c_113 => (okR_ite1 (fun c_123 => (okX11_tick_J133 (okR_sR rfl hok))) (fun c_123 => (okX11_tick_J133 (okX11_latch (by unfold vp_in; decide) (by unfold vp_in; decide) (fun h => absurd h (by decide)) (okR_sR rfl hok)))))) (fun c_113 => (okX11_tick_J133 (okR_sR rfl hok))))
theorem okX11_tick_L8 {tg bg : Nat} : ∀ (k8 : Nat) (y : RS) (v1 : Int32) (v2 : Int32), okR tg (bg + 1 * k8 + 4) y → 0 ≤ v2.toInt → okR tg bg (fX11_tick_L8 k8 y v1 v2).1 := by
  intro k8
  induction k8 with
  | zero => intro y v1 v2 hok h0; exact okR_mono2 (x := y) (by omega) (by omega) hok
  | succ k9 ih => intro y v1 v2 hok h0; unfold fX11_tick_L8; exact (okR_ite1 (fun c_10 => (okR_ite1 (fun c_77 => (okX11_tick_J106 (okR_mono2 (by omega) (by omega) hok))) (fun c_77 => (okX11_tick_J106 (okR_mono2 (by omega) (by omega) hok))))) (fun c_10 => (okR_ite1 (fun c_21 => (okR_ite1 (fun c_42 => (ih _ _ _ (okR_le (k := 1) (okX11_lines (vi_c3 h0 c_10) (okX11_deliver (vi_c3 h0 c_10) hok))) (vi_c3s h0 c_10))) (fun c_42 => (okR_ite1 (fun c_58 => (ih _ _ _ (okR_le (k := 1) (okX11_lines (vi_c3 h0 c_10) (okX11_deliver (vi_c3 h0 c_10) hok))) (vi_c3s h0 c_10))) (fun c_58 => (ih _ _ _ (okX11_drop (vi_c3 h0 c_10) (okX11_lines (vi_c3 h0 c_10) (okX11_deliver (vi_c3 h0 c_10) hok))) (vi_c3s h0 c_10))))))) (fun c_21 => (okR_ite1 (fun c_42 => (ih _ _ _ (okR_le (k := 1) (okX11_lines (vi_c3 h0 c_10) hok)) (vi_c3s h0 c_10))) (fun c_42 => (okR_ite1 (fun c_58 => (ih _ _ _ (okR_le (k := 1) (okX11_lines (vi_c3 h0 c_10) hok)) (vi_c3s h0 c_10))) (fun c_58 => (ih _ _ _ (okX11_drop (vi_c3 h0 c_10) (okX11_lines (vi_c3 h0 c_10) hok)) (vi_c3s h0 c_10))))))))))
theorem okX11_tick {tg bg : Nat} {x : RS} (hok : okR (tg + 1) (bg + 8) x) : okR tg bg (fX11_tick x).1 := by unfold fX11_tick; exact (okX11_tick_L8 _ _ _ _ (by rw [mu03]; exact okR_mono (by omega) (okX11_beginTick hok)) (Int.le_refl 0))
