/-! the reference: a key -/
theorem okX11_press' {T B : Nat} {p1 p2 : Int32} {x : RS} (hc : vp_in p1 3) (hok : okR T (B + 16) x) : okR T B (fX11_press p1 p2 x).1 := okX11_press hc hok

def fX11_key_J138 (p1 : Int32) (y : RS) (v2 : Int32) (v3 : Int32) : RS × Int32 := if (0 : Int32) ≤ v3 then ((y, y.1 13 v2.toNatClampNeg)) else ((y, v3))
def fX11_key_J116 (p1 : Int32) (y : RS) (v2 : Int32) (v3 : Int32) (w0 : Int32) : RS × Int32 := if v3 = (-1) then (fX11_key_J138 p1 y v2 v3) else (if w0 = 0 then (fX11_key_J138 p1 y v2 v3) else (fX11_key_J138 p1 (sR y 44 v2.toNatClampNeg (y.1 0 45)) v2 v3))
def fX11_key_J115 (p1 : Int32) (y : RS) (v2 : Int32) (v3 : Int32) : RS × Int32 := fX11_key_J116 p1 y v2 v3 0
def fX11_key_J87 (p1 : Int32) (y : RS) (v2 : Int32) (v3 : Int32) : RS × Int32 := if p1 = 16 then (fX11_key_J115 p1 y v2 v3) else (if p1 = 18 then (fX11_key_J115 p1 y v2 v3) else (if p1 = 19 then (fX11_key_J115 p1 y v2 v3) else (if p1 = 20 then (fX11_key_J115 p1 y v2 v3) else (fX11_key_J116 p1 y v2 v3 1))))
def fX11_key_J72 (p1 : Int32) (y : RS) (v2 : Int32) (w0 : Int32) : RS × Int32 := fX11_key_J87 p1 y v2 w0
def fX11_key_J71 (p1 : Int32) (y : RS) (v2 : Int32) : RS × Int32 := fX11_key_J72 p1 y v2 (-1)
def fX11_key (p1 : Int32) (x : RS) : RS × Int32 := if (fX11_isIn p1.toInt64 0 21 x) = 0 then (((sR x 0 0 (1)), 0)) else (if p1 = 12 then (if (x.1 13 ((x.1 0 48).toNatClampNeg)) < 1 then (fX11_key_J71 p1 (sR x 0 0 (0)) (x.1 0 48)) else (if (4 : Int32) < (x.1 13 ((x.1 0 48).toNatClampNeg)) then (fX11_key_J71 p1 (sR x 0 0 (0)) (x.1 0 48)) else (fX11_key_J72 p1 (fX11_enter (x.1 0 48) (sR x 0 0 (0))).1 (x.1 0 48) ((fX11_enter (x.1 0 48) (sR x 0 0 (0))).2)))) else (if ((fX11_press (x.1 0 48) p1 (sR x 0 0 (0))).2) = 0 then (fX11_key_J87 p1 (fX11_press (x.1 0 48) p1 (sR x 0 0 (0))).1 (x.1 0 48) (-1)) else (fX11_key_J87 p1 (fX11_press (x.1 0 48) p1 (sR x 0 0 (0))).1 (x.1 0 48) 0)))
set_option maxHeartbeats 4000000 in
set_option maxRecDepth 100000 in
theorem mX11_key (l : Launch) (E : eE) (rr : Nat) (x : RS) (p1 : Int32) (hs : okS x) (tg : Nat) (bg : Nat) (hok : okR tg (bg + 16) x) : Met l yX11_key wsX11_key ({ frames := 5, cells := 0, slots := 0, locals := 112 }) (gPre E (rw_ E rr x) [.ref (rr + 0), .int (p1)]) (gQi E (rw_ E rr) (fX11_key p1 x) (rA rr)) 0 0 (rA rr) := by
  refine Met.ofW (cc := cX11_key) (maxL := 5) (ret := (some .int)) (by decide) rfl ?_
  intro p e s m args below meth c s₁ B hml hv
  obtain ⟨rfl, hW, hK⟩ := hv
  have hx := B.exec
  have hb := B.bytes
  have hr := B.returns
  have hts := atoms_spec (ws := wsX11_key) B.pre
  have hown : s.vm.findClass RX11 = some m.cls := findClass_of_methodNamed B.named
  have hlocks := B.notSynchronized
  have i11 : ∀ w ∈ wsX110, w ∈ wsX11_key := by decide +kernel
  have kl47 := hts (.fieldLink RX11 47 "DosePumpModel" "phase" "[I") (by decide +kernel)
  have kl140 := hts (.fieldLink RX11 140 "DosePumpModel" "pushed" "[I") (by decide +kernel)
  have kl159 := hts (.fieldLink RX11 159 "DosePumpModel" "thrown" "I") (by decide +kernel)
  have kl167 := hts (.fieldLink RX11 167 "DosePumpModel" "time" "I") (by decide +kernel)
  have kl268 := hts (.fieldLink RX11 268 "DosePumpModel" "chosen" "I") (by decide +kernel)
  have hS : va_S (rA rr) s.heap s.heap [] := va_S.rf
  have hl := lv_entry ([.ref (rr + 0), .int (p1)]) (n := 5) (Nat.le_of_ble_eq_true rfl)
  rw [lg_entry_eq]
  generalize (lg_sl ([.ref (rr + 0), .int (p1)]) ++ List.replicate (5 - (lg_sl ([.ref (rr + 0), .int (p1)])).length) Slot.unset).toArray = ls at hl ⊢
  have hl : lv_has ls 5 [(0, .ref (rr + 0)), (1, .int (p1))] := hl
  have J138 : ∀ (H : Heap) (locs : List Loc) (ls : Array Slot) (y : RS) (v2 : Int32) (v3 : Int32), rw_ E rr y H → va_S (rA rr) s.heap H locs → lv_has ls 5 [(0, .ref (rr + 0)), (2, .int (v2)), (3, .int (v3))] → okR tg bg y → vp_in v2 3 → fX11_key p1 x = fX11_key_J138 p1 y v2 v3 → W p l e (headSpec wsX11_key { frames := 5, cells := 0, slots := 0, locals := 112 }).room s m ([.ref (rr + 0), .int (p1)] : List Value).toArray below meth c H locs 0 0 (MQ below (gQi E (rw_ E rr) (fX11_key p1 x) (rA rr)) ([.ref (rr + 0), .int (p1)] : List Value).toArray s 0 0 (rA rr)) (F0 m 138 ls []) := by
    intro H locs ls y v2 v3 hW hS hl hok hr2 hf
    replace hf : fX11_key p1 x = (if (0 : Int32) ≤ v3 then ((y, y.1 13 v2.toNatClampNeg)) else ((y, v3))) := hf
    refine lv_iload_n hx hb dX11_key_138 rfl (lv_at hl 2 rfl) ?_
    refine lv_if_ge (tgt := 146) hx hb dX11_key_139 (by decide) (fun c_139 => ?_) (fun c_139 => ?_)
    · have hf_139 := hf.trans (if_pos c_139)
      refine lv_aload_n hx hb dX11_key_146 rfl (lv_at hl 0 rfl) ?_
      refine fx_get (ci := 11) (v := .ref (rr + 13)) hx hb hts i11 hown hK (rwc_0 hW) rfl 13 (by decide) kl47 rfl dX11_key_147 ?_
      refine lv_iload_n hx hb dX11_key_150 rfl (lv_at hl 1 rfl) ?_
      refine fx_ild hx hb hK 0 (rwc_13 hW) rfl hr2 dX11_key_151 ?_
      exact gx_iret hx hb hr rfl hlocks hK hf_139 hW hS dX11_key_152
    · have hf_139 := hf.trans (if_neg c_139)
      refine lv_iload_n hx hb dX11_key_142 rfl (lv_at hl 2 rfl) ?_
      refine lv_goto (tgt := 152) hx hb dX11_key_143 (by decide) ?_
      exact gx_iret hx hb hr rfl hlocks hK hf_139 hW hS dX11_key_152
  have J116 : ∀ (H : Heap) (locs : List Loc) (ls : Array Slot) (y : RS) (v2 : Int32) (v3 : Int32) (w0 : Int32), rw_ E rr y H → va_S (rA rr) s.heap H locs → lv_has ls 5 [(0, .ref (rr + 0)), (2, .int (v2)), (3, .int (v3))] → okR tg bg y → vp_in v2 3 → fX11_key p1 x = fX11_key_J116 p1 y v2 v3 w0 → W p l e (headSpec wsX11_key { frames := 5, cells := 0, slots := 0, locals := 112 }).room s m ([.ref (rr + 0), .int (p1)] : List Value).toArray below meth c H locs 0 0 (MQ below (gQi E (rw_ E rr) (fX11_key p1 x) (rA rr)) ([.ref (rr + 0), .int (p1)] : List Value).toArray s 0 0 (rA rr)) (F0 m 116 ls [.int (w0)]) := by
    intro H locs ls y v2 v3 w0 hW hS hl hok hr2 hf
    replace hf : fX11_key p1 x = (if v3 = (-1) then (fX11_key_J138 p1 y v2 v3) else (if w0 = 0 then (fX11_key_J138 p1 y v2 v3) else (fX11_key_J138 p1 (sR y 44 v2.toNatClampNeg (y.1 0 45)) v2 v3))) := hf
    refine lv_istore (lv' := [(4, .int (w0)), (0, .ref (rr + 0)), (2, .int (v2)), (3, .int (v3))]) hx hb dX11_key_116 hl (by decide) rfl (fun ls hl => ?_)
    refine lv_iload_n hx hb dX11_key_118 rfl (lv_at hl 3 rfl) ?_
    refine lv_iconst (v := -1) hx hb dX11_key_119 (by decide) ?_
    refine lv_icmp_eq (tgt := 138) hx hb dX11_key_120 (by decide) (fun c_120 => ?_) (fun c_120 => ?_)
    · have hf_120 := hf.trans (if_pos c_120)
      exact J138 _ _ _ y v2 v3 hW hS (lv_sub hl [1, 2, 3] rfl) hok hr2 hf_120
    · have hf_120 := hf.trans (if_neg c_120)
      refine lv_iload hx hb dX11_key_123 (lv_at hl 0 rfl) ?_
      refine lv_if_eq (tgt := 138) hx hb dX11_key_125 (by decide) (fun c_125 => ?_) (fun c_125 => ?_)
      · have hf_125 := hf_120.trans (if_pos c_125)
        exact J138 _ _ _ y v2 v3 hW hS (lv_sub hl [1, 2, 3] rfl) hok hr2 hf_125
      · have hf_125 := hf_120.trans (if_neg c_125)
        refine lv_aload_n hx hb dX11_key_128 rfl (lv_at hl 1 rfl) ?_
        refine fx_get (ci := 11) (v := .ref (rr + 44)) hx hb hts i11 hown hK (rwc_0 hW) rfl 44 (by decide) kl140 rfl dX11_key_129 ?_
        refine lv_iload_n hx hb dX11_key_132 rfl (lv_at hl 2 rfl) ?_
        refine lv_aload_n hx hb dX11_key_133 rfl (lv_at hl 1 rfl) ?_
        refine fx_get (ci := 11) (v := .int (y.1 0 45)) hx hb hts i11 hown hK (rwc_0 hW) rfl 45 (by decide) kl167 rfl dX11_key_134 ?_
        refine fx_ist hx hb hK 0 (rwc_44 hW) (rA_o (o := 44) (by decide)) hS rfl hr2 dX11_key_137 (fun H locs hat hne hS => ?_)
        have hW : rw_ E rr (sR y 44 v2.toNatClampNeg (y.1 0 45)) H := rws_44 (k := v2.toNatClampNeg) (v := y.1 0 45) hW hat hne
        exact J138 _ _ _ (sR y 44 v2.toNatClampNeg (y.1 0 45)) v2 v3 hW hS (lv_sub hl [1, 2, 3] rfl) hok hr2 hf_125
  have J115 : ∀ (H : Heap) (locs : List Loc) (ls : Array Slot) (y : RS) (v2 : Int32) (v3 : Int32), rw_ E rr y H → va_S (rA rr) s.heap H locs → lv_has ls 5 [(0, .ref (rr + 0)), (2, .int (v2)), (3, .int (v3))] → okR tg bg y → vp_in v2 3 → fX11_key p1 x = fX11_key_J115 p1 y v2 v3 → W p l e (headSpec wsX11_key { frames := 5, cells := 0, slots := 0, locals := 112 }).room s m ([.ref (rr + 0), .int (p1)] : List Value).toArray below meth c H locs 0 0 (MQ below (gQi E (rw_ E rr) (fX11_key p1 x) (rA rr)) ([.ref (rr + 0), .int (p1)] : List Value).toArray s 0 0 (rA rr)) (F0 m 115 ls []) := by
    intro H locs ls y v2 v3 hW hS hl hok hr2 hf
    replace hf : fX11_key p1 x = (fX11_key_J116 p1 y v2 v3 0) := hf
    refine lv_iconst (v := 0) hx hb dX11_key_115 (by decide) ?_
    exact J116 _ _ _ y v2 v3 0 hW hS (lv_sub hl [0, 1, 2] rfl) hok hr2 hf
  have J87 : ∀ (H : Heap) (locs : List Loc) (ls : Array Slot) (y : RS) (v2 : Int32) (v3 : Int32), rw_ E rr y H → va_S (rA rr) s.heap H locs → lv_has ls 5 [(0, .ref (rr + 0)), (1, .int (p1)), (2, .int (v2)), (3, .int (v3))] → okR tg bg y → vp_in v2 3 → fX11_key p1 x = fX11_key_J87 p1 y v2 v3 → W p l e (headSpec wsX11_key { frames := 5, cells := 0, slots := 0, locals := 112 }).room s m ([.ref (rr + 0), .int (p1)] : List Value).toArray below meth c H locs 0 0 (MQ below (gQi E (rw_ E rr) (fX11_key p1 x) (rA rr)) ([.ref (rr + 0), .int (p1)] : List Value).toArray s 0 0 (rA rr)) (F0 m 87 ls []) := by
    intro H locs ls y v2 v3 hW hS hl hok hr2 hf
    replace hf : fX11_key p1 x = (if p1 = 16 then (fX11_key_J115 p1 y v2 v3) else (if p1 = 18 then (fX11_key_J115 p1 y v2 v3) else (if p1 = 19 then (fX11_key_J115 p1 y v2 v3) else (if p1 = 20 then (fX11_key_J115 p1 y v2 v3) else (fX11_key_J116 p1 y v2 v3 1))))) := hf
    refine lv_iload_n hx hb dX11_key_87 rfl (lv_at hl 1 rfl) ?_
    refine lv_bipush (v := 16) hx hb dX11_key_88 (by decide) ?_
    refine lv_icmp_eq (tgt := 115) hx hb dX11_key_90 (by decide) (fun c_90 => ?_) (fun c_90 => ?_)
    · have hf_90 := hf.trans (if_pos c_90)
      exact J115 _ _ _ y v2 v3 hW hS (lv_sub hl [0, 2, 3] rfl) hok hr2 hf_90
    · have hf_90 := hf.trans (if_neg c_90)
      refine lv_iload_n hx hb dX11_key_93 rfl (lv_at hl 1 rfl) ?_
      refine lv_bipush (v := 18) hx hb dX11_key_94 (by decide) ?_
      refine lv_icmp_eq (tgt := 115) hx hb dX11_key_96 (by decide) (fun c_96 => ?_) (fun c_96 => ?_)
      · have hf_96 := hf_90.trans (if_pos c_96)
        exact J115 _ _ _ y v2 v3 hW hS (lv_sub hl [0, 2, 3] rfl) hok hr2 hf_96
      · have hf_96 := hf_90.trans (if_neg c_96)
        refine lv_iload_n hx hb dX11_key_99 rfl (lv_at hl 1 rfl) ?_
        refine lv_bipush (v := 19) hx hb dX11_key_100 (by decide) ?_
        refine lv_icmp_eq (tgt := 115) hx hb dX11_key_102 (by decide) (fun c_102 => ?_) (fun c_102 => ?_)
        · have hf_102 := hf_96.trans (if_pos c_102)
          exact J115 _ _ _ y v2 v3 hW hS (lv_sub hl [0, 2, 3] rfl) hok hr2 hf_102
        · have hf_102 := hf_96.trans (if_neg c_102)
          refine lv_iload_n hx hb dX11_key_105 rfl (lv_at hl 1 rfl) ?_
          refine lv_bipush (v := 20) hx hb dX11_key_106 (by decide) ?_
          refine lv_icmp_eq (tgt := 115) hx hb dX11_key_108 (by decide) (fun c_108 => ?_) (fun c_108 => ?_)
          · have hf_108 := hf_102.trans (if_pos c_108)
            exact J115 _ _ _ y v2 v3 hW hS (lv_sub hl [0, 2, 3] rfl) hok hr2 hf_108
          · have hf_108 := hf_102.trans (if_neg c_108)
            refine lv_iconst (v := 1) hx hb dX11_key_111 (by decide) ?_
            refine lv_goto (tgt := 116) hx hb dX11_key_112 (by decide) ?_
            exact J116 _ _ _ y v2 v3 1 hW hS (lv_sub hl [0, 2, 3] rfl) hok hr2 hf_108
  have J72 : ∀ (H : Heap) (locs : List Loc) (ls : Array Slot) (y : RS) (v2 : Int32) (w0 : Int32), rw_ E rr y H → va_S (rA rr) s.heap H locs → lv_has ls 5 [(0, .ref (rr + 0)), (1, .int (p1)), (2, .int (v2))] → okR tg (bg + 15) y → vp_in v2 3 → fX11_key p1 x = fX11_key_J72 p1 y v2 w0 → W p l e (headSpec wsX11_key { frames := 5, cells := 0, slots := 0, locals := 112 }).room s m ([.ref (rr + 0), .int (p1)] : List Value).toArray below meth c H locs 0 0 (MQ below (gQi E (rw_ E rr) (fX11_key p1 x) (rA rr)) ([.ref (rr + 0), .int (p1)] : List Value).toArray s 0 0 (rA rr)) (F0 m 72 ls [.int (w0)]) := by
    intro H locs ls y v2 w0 hW hS hl hok hr2 hf
    replace hf : fX11_key p1 x = (fX11_key_J87 p1 y v2 w0) := hf
    refine lv_istore_n (lv' := [(3, .int (w0)), (0, .ref (rr + 0)), (1, .int (p1)), (2, .int (v2))]) hx hb dX11_key_72 rfl hl (by decide) rfl (fun ls hl => ?_)
    refine lv_goto (tgt := 87) hx hb dX11_key_73 (by decide) ?_
    exact J87 _ _ _ y v2 w0 hW hS (lv_sub hl [1, 2, 3, 0] rfl) (okR_le (k := 15) hok) hr2 hf
  have J71 : ∀ (H : Heap) (locs : List Loc) (ls : Array Slot) (y : RS) (v2 : Int32), rw_ E rr y H → va_S (rA rr) s.heap H locs → lv_has ls 5 [(0, .ref (rr + 0)), (1, .int (p1)), (2, .int (v2))] → okR tg (bg + 16) y → vp_in v2 3 → fX11_key p1 x = fX11_key_J71 p1 y v2 → W p l e (headSpec wsX11_key { frames := 5, cells := 0, slots := 0, locals := 112 }).room s m ([.ref (rr + 0), .int (p1)] : List Value).toArray below meth c H locs 0 0 (MQ below (gQi E (rw_ E rr) (fX11_key p1 x) (rA rr)) ([.ref (rr + 0), .int (p1)] : List Value).toArray s 0 0 (rA rr)) (F0 m 71 ls []) := by
    intro H locs ls y v2 hW hS hl hok hr2 hf
    replace hf : fX11_key p1 x = (fX11_key_J72 p1 y v2 (-1)) := hf
    refine lv_iconst (v := -1) hx hb dX11_key_71 (by decide) ?_
    exact J72 _ _ _ y v2 (-1) hW hS (lv_sub hl [0, 1, 2] rfl) (okR_le (k := 1) hok) hr2 hf
  have hf : fX11_key p1 x = (if (fX11_isIn p1.toInt64 0 21 x) = 0 then (((sR x 0 0 (1)), 0)) else (if p1 = 12 then (if (x.1 13 ((x.1 0 48).toNatClampNeg)) < 1 then (fX11_key_J71 p1 (sR x 0 0 (0)) (x.1 0 48)) else (if (4 : Int32) < (x.1 13 ((x.1 0 48).toNatClampNeg)) then (fX11_key_J71 p1 (sR x 0 0 (0)) (x.1 0 48)) else (fX11_key_J72 p1 (fX11_enter (x.1 0 48) (sR x 0 0 (0))).1 (x.1 0 48) ((fX11_enter (x.1 0 48) (sR x 0 0 (0))).2)))) else (if ((fX11_press (x.1 0 48) p1 (sR x 0 0 (0))).2) = 0 then (fX11_key_J87 p1 (fX11_press (x.1 0 48) p1 (sR x 0 0 (0))).1 (x.1 0 48) (-1)) else (fX11_key_J87 p1 (fX11_press (x.1 0 48) p1 (sR x 0 0 (0))).1 (x.1 0 48) 0)))) := rfl
  refine lv_aload_n hx hb dX11_key_0 rfl (lv_at hl 0 rfl) ?_
  refine lv_iload_n hx hb dX11_key_1 rfl (lv_at hl 1 rfl) ?_
  refine lv_i2l (v := p1.toInt64) hx hb dX11_key_2 rfl ?_
  refine lv_lconst (v := 0) hx hb dX11_key_3 (by decide) ?_
  refine lv_ldc2 hx hb hown (hts (.constantLong RX11 274 (21)) (by decide +kernel)) dX11_key_4 ?_
  refine gx_si (rest := [.ref (rr + 0)]) ⟨hx, hb, hml, hown, hts⟩ (mX11_isIn l E rr x p1.toInt64 0 21) (va_cwS 3 hts gX11_key_X11_isIn rfl rfl rfl (by decide +kernel) ⟨Nat.le_of_ble_eq_true rfl, Nat.le_of_ble_eq_true rfl⟩) hW hK rfl hl.1 rfl (Nat.le_of_ble_eq_true rfl) dX11_key_7 ⟨Nat.le_of_ble_eq_true rfl, Nat.le_of_ble_eq_true rfl⟩ hS (fun _ h => h) (fun _ r1 H locs _ e1 hW hS => ?_)
  have e1 : fX11_isIn p1.toInt64 0 21 x = r1 := e1
  try rw [e1] at hf
  refine lv_if_eq (tgt := 17) hx hb dX11_key_10 (by decide) (fun c_10 => ?_) (fun c_10 => ?_)
  · have hf_10 := hf.trans (if_pos c_10)
    refine lv_iconst (v := 1) hx hb dX11_key_17 (by decide) ?_
    refine fx_put (ci := 11) (v := .int (1)) hx hb hts i11 tyX11_ok nmX11 hown hK (rwc_0 hW) (rA_o (o := 0) (by decide)) hS rfl 0 (by decide) kl159 rfl rfl rfl (Nat.le_of_ble_eq_true rfl) dX11_key_18 (fun H locs hat hne hS => ?_)
    have hW : rw_ E rr (sR x 0 0 (1)) H := rwf_0 (v := 1) hW hat hne
    refine lv_aload_n hx hb dX11_key_21 rfl (lv_at hl 0 rfl) ?_
    refine fx_get (ci := 11) (v := .int (1)) hx hb hts i11 hown hK (rwc_0 hW) rfl 0 (by decide) kl159 rfl dX11_key_22 ?_
    refine lv_if_le (tgt := 30) hx hb dX11_key_25 (by decide) (fun c9 => absurd c9 (by decide)) (fun c9 => ?_)
    refine lv_iconst (v := 0) hx hb dX11_key_28 (by decide) ?_
    exact gx_iret hx hb hr rfl hlocks hK hf_10 hW hS dX11_key_29
  · have hf_10 := hf.trans (if_neg c_10)
    refine lv_iconst (v := 0) hx hb dX11_key_13 (by decide) ?_
    refine lv_goto (tgt := 18) hx hb dX11_key_14 (by decide) ?_
    refine fx_put (ci := 11) (v := .int (0)) hx hb hts i11 tyX11_ok nmX11 hown hK (rwc_0 hW) (rA_o (o := 0) (by decide)) hS rfl 0 (by decide) kl159 rfl rfl rfl (Nat.le_of_ble_eq_true rfl) dX11_key_18 (fun H locs hat hne hS => ?_)
    have hW : rw_ E rr (sR x 0 0 (0)) H := rwf_0 (v := 0) hW hat hne
    refine lv_aload_n hx hb dX11_key_21 rfl (lv_at hl 0 rfl) ?_
    refine fx_get (ci := 11) (v := .int (0)) hx hb hts i11 hown hK (rwc_0 hW) rfl 0 (by decide) kl159 rfl dX11_key_22 ?_
    refine lv_if_le (tgt := 30) hx hb dX11_key_25 (by decide) (fun c9 => ?_) (fun c9 => absurd c9 (by decide))
    refine lv_aload_n hx hb dX11_key_30 rfl (lv_at hl 0 rfl) ?_
    refine fx_get (ci := 11) (v := .int (x.1 0 48)) hx hb hts i11 hown hK (rwc_0 hW) rfl 48 (by decide) kl268 rfl dX11_key_31 ?_
    refine lv_istore_n (lv' := [(2, .int (x.1 0 48)), (0, .ref (rr + 0)), (1, .int (p1))]) hx hb dX11_key_34 rfl hl (by decide) rfl (fun ls hl => ?_)
    refine lv_iconst (v := 0) hx hb dX11_key_35 (by decide) ?_
    refine lv_istore_n (lv' := [(3, .int (0)), (2, .int (x.1 0 48)), (0, .ref (rr + 0)), (1, .int (p1))]) hx hb dX11_key_36 rfl hl (by decide) rfl (fun ls hl => ?_)
    refine lv_iload_n hx hb dX11_key_37 rfl (lv_at hl 3 rfl) ?_
    refine lv_bipush (v := 12) hx hb dX11_key_38 (by decide) ?_
    refine lv_icmp_ne (tgt := 76) hx hb dX11_key_40 (by decide) (fun c_40 => ?_) (fun c_40 => ?_)
    · have hf_40 := hf_10.trans (if_neg c_40)
      refine lv_aload_n hx hb dX11_key_76 rfl (lv_at hl 2 rfl) ?_
      refine lv_iload_n hx hb dX11_key_77 rfl (lv_at hl 1 rfl) ?_
      refine lv_iload_n hx hb dX11_key_78 rfl (lv_at hl 3 rfl) ?_
      refine gx_i (rest := []) ⟨hx, hb, hml, hown, hts⟩ (mX11_press l E rr (sR x 0 0 (0)) (x.1 0 48) p1 hok.2.2.2.2.1 _ _ hok) (cwV 2 hts gX11_key_X11_press rfl rfl rfl (by decide +kernel) ⟨Nat.le_of_ble_eq_true rfl, Nat.le_of_ble_eq_true rfl⟩) hW hK (fx_recv hK (rwc_0 hW) rfl) rfl hl.1 rfl (Nat.le_of_ble_eq_true rfl) dX11_key_79 ⟨Nat.le_of_ble_eq_true rfl, Nat.le_of_ble_eq_true rfl⟩ hS (fun _ h => h) (fun u2 r2 H locs e2 e2r hW hS => ?_)
      have e2 : (fX11_press (x.1 0 48) p1 (sR x 0 0 (0))).1 = u2 := e2
      have e2r : (fX11_press (x.1 0 48) p1 (sR x 0 0 (0))).2 = r2 := e2r
      try rw [e2] at hf_40
      try rw [e2r] at hf_40
      have hk2 : okR tg bg u2 := e2 ▸ (okX11_press hok.2.2.2.2.1 hok)
      refine lv_if_ne (tgt := 87) hx hb dX11_key_82 (by decide) (fun c_82 => ?_) (fun c_82 => ?_)
      · have hf_82 := hf_40.trans (if_neg c_82)
        exact J87 _ _ _ u2 (x.1 0 48) 0 hW hS (lv_sub hl [2, 3, 1, 0] rfl) hk2 hok.2.2.2.2.1 hf_82
      · have hf_82 := hf_40.trans (if_pos c_82)
        refine lv_iconst (v := -1) hx hb dX11_key_85 (by decide) ?_
        refine lv_istore_n (lv' := [(3, .int (-1)), (2, .int (x.1 0 48)), (0, .ref (rr + 0)), (1, .int (p1))]) hx hb dX11_key_86 rfl hl (by decide) rfl (fun ls hl => ?_)
        exact J87 _ _ _ u2 (x.1 0 48) (-1) hW hS (lv_sub hl [2, 3, 1, 0] rfl) hk2 hok.2.2.2.2.1 hf_82
    · have hf_40 := hf_10.trans (if_pos c_40)
      refine lv_aload_n hx hb dX11_key_43 rfl (lv_at hl 2 rfl) ?_
      refine fx_get (ci := 11) (v := .ref (rr + 13)) hx hb hts i11 hown hK (rwc_0 hW) rfl 13 (by decide) kl47 rfl dX11_key_44 ?_
      refine lv_iload_n hx hb dX11_key_47 rfl (lv_at hl 1 rfl) ?_
      refine fx_ild hx hb hK 0 (rwc_13 hW) rfl hok.2.2.2.2.1 dX11_key_48 ?_
      refine lv_iconst (v := 1) hx hb dX11_key_49 (by decide) ?_
      refine lv_icmp_lt (tgt := 71) hx hb dX11_key_50 (by decide) (fun c_50 => ?_) (fun c_50 => ?_)
      · have hf_50 := hf_40.trans (if_pos c_50)
        exact J71 _ _ _ (sR x 0 0 (0)) (x.1 0 48) hW hS (lv_sub hl [2, 3, 1] rfl) hok hok.2.2.2.2.1 hf_50
      · have hf_50 := hf_40.trans (if_neg c_50)
        refine lv_aload_n hx hb dX11_key_53 rfl (lv_at hl 2 rfl) ?_
        refine fx_get (ci := 11) (v := .ref (rr + 13)) hx hb hts i11 hown hK (rwc_0 hW) rfl 13 (by decide) kl47 rfl dX11_key_54 ?_
        refine lv_iload_n hx hb dX11_key_57 rfl (lv_at hl 1 rfl) ?_
        refine fx_ild hx hb hK 0 (rwc_13 hW) rfl hok.2.2.2.2.1 dX11_key_58 ?_
        refine lv_iconst (v := 4) hx hb dX11_key_59 (by decide) ?_
        refine lv_icmp_gt (tgt := 71) hx hb dX11_key_60 (by decide) (fun c_60 => ?_) (fun c_60 => ?_)
        · have hf_60 := hf_50.trans (if_pos c_60)
          exact J71 _ _ _ (sR x 0 0 (0)) (x.1 0 48) hW hS (lv_sub hl [2, 3, 1] rfl) hok hok.2.2.2.2.1 hf_60
        · have hf_60 := hf_50.trans (if_neg c_60)
          refine lv_aload_n hx hb dX11_key_63 rfl (lv_at hl 2 rfl) ?_
          refine lv_iload_n hx hb dX11_key_64 rfl (lv_at hl 1 rfl) ?_
          refine gx_i (rest := []) ⟨hx, hb, hml, hown, hts⟩ (mX11_enter l E rr (sR x 0 0 (0)) (x.1 0 48) hok.2.2.2.2.1 hs _ _ hok) (cwV 1 hts gX11_key_X11_enter rfl rfl rfl (by decide +kernel) ⟨Nat.le_of_ble_eq_true rfl, Nat.le_of_ble_eq_true rfl⟩) hW hK (fx_recv hK (rwc_0 hW) rfl) rfl hl.1 rfl (Nat.le_of_ble_eq_true rfl) dX11_key_65 ⟨Nat.le_of_ble_eq_true rfl, Nat.le_of_ble_eq_true rfl⟩ hS (fun _ h => h) (fun u3 r3 H locs e3 e3r hW hS => ?_)
          have e3 : (fX11_enter (x.1 0 48) (sR x 0 0 (0))).1 = u3 := e3
          have e3r : (fX11_enter (x.1 0 48) (sR x 0 0 (0))).2 = r3 := e3r
          try rw [e3] at hf_60
          try rw [e3r] at hf_60
          have hk3 : okR tg (bg + 15) u3 := e3 ▸ (okX11_enter hok.2.2.2.2.1 hok)
          refine lv_goto (tgt := 72) hx hb dX11_key_68 (by decide) ?_
          exact J72 _ _ _ u3 (x.1 0 48) r3 hW hS (lv_sub hl [2, 3, 1] rfl) hk3 hok.2.2.2.2.1 hf_60
