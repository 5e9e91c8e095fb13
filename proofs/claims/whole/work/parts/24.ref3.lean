/-! the reference: numbers, rates -/
def fX11_places (p1 : Int32) (x : RS) : Int32 := if (x.1 13 p1.toNatClampNeg) = 1 then (0) else (if (x.1 13 p1.toNatClampNeg) = 3 then (if (x.1 2 ((x.1 38 p1.toNatClampNeg).toNatClampNeg)) = 1 then (2) else (1)) else (1))
set_option maxHeartbeats 4000000 in
set_option maxRecDepth 100000 in
theorem mX11_places (l : Launch) (E : eE) (rr : Nat) (x : RS) (p1 : Int32) (hc : vp_in p1 3) (tg : Nat) (bg : Nat) (hok : okR tg bg x) : Met l yX11_places wsX11_places ({ frames := 0, cells := 0, slots := 0, locals := 0 }) (gPre E (rw_ E rr x) [.ref (rr + 0), .int (p1)]) (gQi E (fun _ : Unit => rw_ E rr x) ((), fX11_places p1 x) (rA rr)) 0 0 (rA rr) := by
  refine Met.ofW (cc := cX11_places) (maxL := 2) (ret := (some .int)) (by decide) rfl ?_
  intro p e s m args below meth c s₁ B hml hv
  obtain ⟨rfl, hW, hK⟩ := hv
  have hx := B.exec
  have hb := B.bytes
  have hr := B.returns
  have hts := atoms_spec (ws := wsX11_places) B.pre
  have hown : s.vm.findClass RX11 = some m.cls := findClass_of_methodNamed B.named
  have hlocks := B.notSynchronized
  have i11 : ∀ w ∈ wsX110, w ∈ wsX11_places := by decide +kernel
  have kl13 := hts (.fieldLink RX11 13 "DosePumpModel" "kind" "[I") (by decide +kernel)
  have kl47 := hts (.fieldLink RX11 47 "DosePumpModel" "phase" "[I") (by decide +kernel)
  have kl122 := hts (.fieldLink RX11 122 "DosePumpModel" "entryDrug" "[I") (by decide +kernel)
  have hS : va_S (rA rr) s.heap s.heap [] := va_S.rf
  have hl := lv_entry ([.ref (rr + 0), .int (p1)]) (n := 2) (Nat.le_of_ble_eq_true rfl)
  rw [lg_entry_eq]
  generalize (lg_sl ([.ref (rr + 0), .int (p1)]) ++ List.replicate (2 - (lg_sl ([.ref (rr + 0), .int (p1)])).length) Slot.unset).toArray = ls at hl ⊢
  have hl : lv_has ls 2 [(0, .ref (rr + 0)), (1, .int (p1))] := hl
  have hf : fX11_places p1 x = (if (x.1 13 p1.toNatClampNeg) = 1 then (0) else (if (x.1 13 p1.toNatClampNeg) = 3 then (if (x.1 2 ((x.1 38 p1.toNatClampNeg).toNatClampNeg)) = 1 then (2) else (1)) else (1))) := rfl
  refine lv_aload_n hx hb dX11_places_0 rfl (lv_at hl 0 rfl) ?_
  refine fx_get (ci := 11) (v := .ref (rr + 13)) hx hb hts i11 hown hK (rwc_0 hW) rfl 13 (by decide) kl47 rfl dX11_places_1 ?_
  refine lv_iload_n hx hb dX11_places_4 rfl (lv_at hl 1 rfl) ?_
  refine fx_ild hx hb hK 0 (rwc_13 hW) rfl hc dX11_places_5 ?_
  refine lv_iconst (v := 1) hx hb dX11_places_6 (by decide) ?_
  refine lv_icmp_ne (tgt := 14) hx hb dX11_places_7 (by decide) (fun c_7 => ?_) (fun c_7 => ?_)
  · have hf_7 := hf.trans (if_neg c_7)
    refine lv_aload_n hx hb dX11_places_14 rfl (lv_at hl 0 rfl) ?_
    refine fx_get (ci := 11) (v := .ref (rr + 13)) hx hb hts i11 hown hK (rwc_0 hW) rfl 13 (by decide) kl47 rfl dX11_places_15 ?_
    refine lv_iload_n hx hb dX11_places_18 rfl (lv_at hl 1 rfl) ?_
    refine fx_ild hx hb hK 0 (rwc_13 hW) rfl hc dX11_places_19 ?_
    refine lv_iconst (v := 3) hx hb dX11_places_20 (by decide) ?_
    refine lv_icmp_ne (tgt := 43) hx hb dX11_places_21 (by decide) (fun c_21 => ?_) (fun c_21 => ?_)
    · have hf_21 := hf_7.trans (if_neg c_21)
      refine lv_iconst (v := 1) hx hb dX11_places_43 (by decide) ?_
      exact gx_iret hx hb hr rfl hlocks hK (congrArg (Prod.mk ()) hf_21) (u := ()) (v := 1) hW hS dX11_places_44
    · have hf_21 := hf_7.trans (if_pos c_21)
      refine lv_aload_n hx hb dX11_places_24 rfl (lv_at hl 0 rfl) ?_
      refine fx_get (ci := 11) (v := .ref (rr + 2)) hx hb hts i11 hown hK (rwc_0 hW) rfl 2 (by decide) kl13 rfl dX11_places_25 ?_
      refine lv_aload_n hx hb dX11_places_28 rfl (lv_at hl 0 rfl) ?_
      refine fx_get (ci := 11) (v := .ref (rr + 38)) hx hb hts i11 hown hK (rwc_0 hW) rfl 38 (by decide) kl122 rfl dX11_places_29 ?_
      refine lv_iload_n hx hb dX11_places_32 rfl (lv_at hl 1 rfl) ?_
      refine fx_ild hx hb hK 0 (rwc_38 hW) rfl hc dX11_places_33 ?_
      refine fx_ild hx hb hK 0 (rwc_2 hW) rfl (hok.2.2.1 _ (vi_lt hc)) dX11_places_34 ?_
      refine lv_iconst (v := 1) hx hb dX11_places_35 (by decide) ?_
      refine lv_icmp_ne (tgt := 43) hx hb dX11_places_36 (by decide) (fun c_36 => ?_) (fun c_36 => ?_)
      · have hf_36 := hf_21.trans (if_neg c_36)
        refine lv_iconst (v := 1) hx hb dX11_places_43 (by decide) ?_
        exact gx_iret hx hb hr rfl hlocks hK (congrArg (Prod.mk ()) hf_36) (u := ()) (v := 1) hW hS dX11_places_44
      · have hf_36 := hf_21.trans (if_pos c_36)
        refine lv_iconst (v := 2) hx hb dX11_places_39 (by decide) ?_
        refine lv_goto (tgt := 44) hx hb dX11_places_40 (by decide) ?_
        exact gx_iret hx hb hr rfl hlocks hK (congrArg (Prod.mk ()) hf_36) (u := ()) (v := 2) hW hS dX11_places_44
  · have hf_7 := hf.trans (if_pos c_7)
    refine lv_iconst (v := 0) hx hb dX11_places_10 (by decide) ?_
    refine lv_goto (tgt := 44) hx hb dX11_places_11 (by decide) ?_
    exact gx_iret hx hb hr rfl hlocks hK (congrArg (Prod.mk ()) hf_7) (u := ()) (v := 0) hW hS dX11_places_44

def fX11_number_L37 (p1 : Int32) : Nat → RS → Int32 → Int32 → Int32
  | 0, x, v3, v4 => 0
  | k9 + 1, x, v3, v4 => if (fX11_places p1 x) ≤ v4 then (v3) else (fX11_number_L37 p1 k9 x (v3 * 10) (v4 + 1))
def fX11_number_J26 (p1 : Int32) (x : RS) (w0 : Int32) : Int32 := fX11_number_L37 p1 (mu32 w0 (fX11_places p1 x) + 1) x (x.1 41 p1.toNatClampNeg) w0
def fX11_number (p1 : Int32) (x : RS) : Int32 := if (0 : Int32) ≤ (x.1 43 p1.toNatClampNeg) then (fX11_number_J26 p1 x ((x.1 42 p1.toNatClampNeg) - (x.1 43 p1.toNatClampNeg))) else (fX11_number_J26 p1 x 0)
set_option maxHeartbeats 4000000 in
set_option maxRecDepth 100000 in
theorem mX11_number (l : Launch) (E : eE) (rr : Nat) (x : RS) (p1 : Int32) (hc : vp_in p1 3) (tg : Nat) (bg : Nat) (hok : okR tg bg x) : Met l yX11_number wsX11_number ({ frames := 1, cells := 0, slots := 0, locals := 21 }) (gPre E (rw_ E rr x) [.ref (rr + 0), .int (p1)]) (gQi E (fun _ : Unit => rw_ E rr x) ((), fX11_number p1 x) (rA rr)) 0 0 (rA rr) := by
  refine Met.ofW (cc := cX11_number) (maxL := 5) (ret := (some .int)) (by decide) rfl ?_
  intro p e s m args below meth c s₁ B hml hv
  obtain ⟨rfl, hW, hK⟩ := hv
  have hx := B.exec
  have hb := B.bytes
  have hr := B.returns
  have hts := atoms_spec (ws := wsX11_number) B.pre
  have hown : s.vm.findClass RX11 = some m.cls := findClass_of_methodNamed B.named
  have hlocks := B.notSynchronized
  have i11 : ∀ w ∈ wsX110, w ∈ wsX11_number := by decide +kernel
  have kl131 := hts (.fieldLink RX11 131 "DosePumpModel" "figures" "[I") (by decide +kernel)
  have kl134 := hts (.fieldLink RX11 134 "DosePumpModel" "digits" "[I") (by decide +kernel)
  have kl137 := hts (.fieldLink RX11 137 "DosePumpModel" "points" "[I") (by decide +kernel)
  have hS : va_S (rA rr) s.heap s.heap [] := va_S.rf
  have hl := lv_entry ([.ref (rr + 0), .int (p1)]) (n := 5) (Nat.le_of_ble_eq_true rfl)
  rw [lg_entry_eq]
  generalize (lg_sl ([.ref (rr + 0), .int (p1)]) ++ List.replicate (5 - (lg_sl ([.ref (rr + 0), .int (p1)])).length) Slot.unset).toArray = ls at hl ⊢
  have hl : lv_has ls 5 [(0, .ref (rr + 0)), (1, .int (p1))] := hl
  have J37 : ∀ (k8 : Nat) (H : Heap) (locs : List Loc) (ls : Array Slot) (v3 : Int32) (v4 : Int32), rw_ E rr x H → va_S (rA rr) s.heap H locs → lv_has ls 5 [(0, .ref (rr + 0)), (1, .int (p1)), (3, .int (v3)), (4, .int (v4))] → okR tg bg x → mu32 v4 (fX11_places p1 x) < k8 → fX11_number p1 x = fX11_number_L37 p1 k8 x v3 v4 → W p l e (headSpec wsX11_number { frames := 1, cells := 0, slots := 0, locals := 21 }).room s m ([.ref (rr + 0), .int (p1)] : List Value).toArray below meth c H locs 0 0 (MQ below (gQi E (fun _ : Unit => rw_ E rr x) ((), fX11_number p1 x) (rA rr)) ([.ref (rr + 0), .int (p1)] : List Value).toArray s 0 0 (rA rr)) (F0 m 37 ls []) := by
    intro k8
    induction k8 with
    | zero =>
      intro H locs ls v3 v4 hW hS hl hok hmu hf
      exact absurd hmu (by omega)
    | succ k9 ih =>
      intro H locs ls v3 v4 hW hS hl hok hmu hf
      replace hf : fX11_number p1 x = (if (fX11_places p1 x) ≤ v4 then (v3) else (fX11_number_L37 p1 k9 x (v3 * 10) (v4 + 1))) := hf
      refine lv_iload hx hb dX11_number_37 (lv_at hl 3 rfl) ?_
      refine lv_aload_n hx hb dX11_number_39 rfl (lv_at hl 0 rfl) ?_
      refine lv_iload_n hx hb dX11_number_40 rfl (lv_at hl 1 rfl) ?_
      refine gx_i (rest := [.int (v4)]) ⟨hx, hb, hml, hown, hts⟩ (mX11_places l E rr x p1 hc _ _ hok) (cwV 1 hts gX11_number_X11_places rfl rfl rfl (by decide +kernel) ⟨Nat.le_of_ble_eq_true rfl, Nat.le_of_ble_eq_true rfl⟩) hW hK (fx_recv hK (rwc_0 hW) rfl) rfl hl.1 rfl (Nat.le_of_ble_eq_true rfl) dX11_number_41 ⟨Nat.le_of_ble_eq_true rfl, Nat.le_of_ble_eq_true rfl⟩ hS (fun _ h => h) (fun _ r1 H locs _ e1 hW hS => ?_)
      have e1 : fX11_places p1 x = r1 := e1
      try rw [e1] at hf
      refine lv_icmp_ge (tgt := 58) hx hb dX11_number_44 (by decide) (fun c_44 => ?_) (fun c_44 => ?_)
      · have hf_44 := hf.trans (if_pos c_44)
        refine lv_iload_n hx hb dX11_number_58 rfl (lv_at hl 2 rfl) ?_
        exact gx_iret hx hb hr rfl hlocks hK (congrArg (Prod.mk ()) hf_44) (u := ()) (v := v3) hW hS dX11_number_59
      · have hf_44 := hf.trans (if_neg c_44)
        refine lv_iload_n hx hb dX11_number_47 rfl (lv_at hl 2 rfl) ?_
        refine lv_bipush (v := 10) hx hb dX11_number_48 (by decide) ?_
        refine lv_imul hx hb dX11_number_50 ?_
        refine lv_istore_n (lv' := [(3, .int (v3 * 10)), (0, .ref (rr + 0)), (1, .int (p1)), (4, .int (v4))]) hx hb dX11_number_51 rfl hl (by decide) rfl (fun ls hl => ?_)
        refine lv_iinc (v := v4 + 1) (lv' := [(4, .int (v4 + 1)), (3, .int (v3 * 10)), (0, .ref (rr + 0)), (1, .int (p1))]) hx hb dX11_number_52 hl (k := 3) rfl (by first | rfl | decide) (by decide) rfl (fun ls hl => ?_)
        refine lv_goto (tgt := 37) hx hb dX11_number_55 (by decide) ?_
        exact ih _ _ _ (v3 * 10) (v4 + 1) hW hS (lv_sub hl [2, 3, 1, 0] rfl) hok (mu32_step (by rw [e1]; exact c_44) hmu) hf_44
  have J26 : ∀ (H : Heap) (locs : List Loc) (ls : Array Slot) (w0 : Int32), rw_ E rr x H → va_S (rA rr) s.heap H locs → lv_has ls 5 [(0, .ref (rr + 0)), (1, .int (p1))] → okR tg bg x → fX11_number p1 x = fX11_number_J26 p1 x w0 → W p l e (headSpec wsX11_number { frames := 1, cells := 0, slots := 0, locals := 21 }).room s m ([.ref (rr + 0), .int (p1)] : List Value).toArray below meth c H locs 0 0 (MQ below (gQi E (fun _ : Unit => rw_ E rr x) ((), fX11_number p1 x) (rA rr)) ([.ref (rr + 0), .int (p1)] : List Value).toArray s 0 0 (rA rr)) (F0 m 26 ls [.int (w0)]) := by
    intro H locs ls w0 hW hS hl hok hf
    replace hf : fX11_number p1 x = (fX11_number_L37 p1 (mu32 w0 (fX11_places p1 x) + 1) x (x.1 41 p1.toNatClampNeg) w0) := hf
    refine lv_istore_n (lv' := [(2, .int (w0)), (0, .ref (rr + 0)), (1, .int (p1))]) hx hb dX11_number_26 rfl hl (by decide) rfl (fun ls hl => ?_)
    refine lv_aload_n hx hb dX11_number_27 rfl (lv_at hl 1 rfl) ?_
    refine fx_get (ci := 11) (v := .ref (rr + 41)) hx hb hts i11 hown hK (rwc_0 hW) rfl 41 (by decide) kl131 rfl dX11_number_28 ?_
    refine lv_iload_n hx hb dX11_number_31 rfl (lv_at hl 2 rfl) ?_
    refine fx_ild hx hb hK 0 (rwc_41 hW) rfl hc dX11_number_32 ?_
    refine lv_istore_n (lv' := [(3, .int (x.1 41 p1.toNatClampNeg)), (2, .int (w0)), (0, .ref (rr + 0)), (1, .int (p1))]) hx hb dX11_number_33 rfl hl (by decide) rfl (fun ls hl => ?_)
    refine lv_iload_n hx hb dX11_number_34 rfl (lv_at hl 1 rfl) ?_
    refine lv_istore (lv' := [(4, .int (w0)), (3, .int (x.1 41 p1.toNatClampNeg)), (2, .int (w0)), (0, .ref (rr + 0)), (1, .int (p1))]) hx hb dX11_number_35 hl (by decide) rfl (fun ls hl => ?_)
    exact J37 _ _ _ _ (x.1 41 p1.toNatClampNeg) w0 hW hS (lv_sub hl [3, 4, 1, 0] rfl) hok (Nat.lt_succ_self _) hf
  have hf : fX11_number p1 x = (if (0 : Int32) ≤ (x.1 43 p1.toNatClampNeg) then (fX11_number_J26 p1 x ((x.1 42 p1.toNatClampNeg) - (x.1 43 p1.toNatClampNeg))) else (fX11_number_J26 p1 x 0)) := rfl
  refine lv_aload_n hx hb dX11_number_0 rfl (lv_at hl 0 rfl) ?_
  refine fx_get (ci := 11) (v := .ref (rr + 43)) hx hb hts i11 hown hK (rwc_0 hW) rfl 43 (by decide) kl137 rfl dX11_number_1 ?_
  refine lv_iload_n hx hb dX11_number_4 rfl (lv_at hl 1 rfl) ?_
  refine fx_ild hx hb hK 0 (rwc_43 hW) rfl hc dX11_number_5 ?_
  refine lv_if_ge (tgt := 13) hx hb dX11_number_6 (by decide) (fun c_6 => ?_) (fun c_6 => ?_)
  · have hf_6 := hf.trans (if_pos c_6)
    refine lv_aload_n hx hb dX11_number_13 rfl (lv_at hl 0 rfl) ?_
    refine fx_get (ci := 11) (v := .ref (rr + 42)) hx hb hts i11 hown hK (rwc_0 hW) rfl 42 (by decide) kl134 rfl dX11_number_14 ?_
    refine lv_iload_n hx hb dX11_number_17 rfl (lv_at hl 1 rfl) ?_
    refine fx_ild hx hb hK 0 (rwc_42 hW) rfl hc dX11_number_18 ?_
    refine lv_aload_n hx hb dX11_number_19 rfl (lv_at hl 0 rfl) ?_
    refine fx_get (ci := 11) (v := .ref (rr + 43)) hx hb hts i11 hown hK (rwc_0 hW) rfl 43 (by decide) kl137 rfl dX11_number_20 ?_
    refine lv_iload_n hx hb dX11_number_23 rfl (lv_at hl 1 rfl) ?_
    refine fx_ild hx hb hK 0 (rwc_43 hW) rfl hc dX11_number_24 ?_
    refine lv_isub hx hb dX11_number_25 ?_
    exact J26 _ _ _ ((x.1 42 p1.toNatClampNeg) - (x.1 43 p1.toNatClampNeg)) hW hS (lv_sub hl [0, 1] rfl) hok hf_6
  · have hf_6 := hf.trans (if_neg c_6)
    refine lv_iconst (v := 0) hx hb dX11_number_9 (by decide) ?_
    refine lv_goto (tgt := 26) hx hb dX11_number_10 (by decide) ?_
    exact J26 _ _ _ 0 hW hS (lv_sub hl [0, 1] rfl) hok hf_6

def fX11_figure_J93 (p1 : Int32) (p2 : Int32) (y : RS) (v3 : Int32) (v4 : Int32) (w0 : Int32) : RS × Int32 := if p2 = 10 then (if v3 = 0 then (if (y.1 42 p1.toNatClampNeg) = 0 then ((y, 0)) else (if (fX11_places p1 y) = 0 then ((y, 0)) else (((sR y 43 p1.toNatClampNeg (y.1 42 p1.toNatClampNeg)), 1)))) else ((y, 0))) else (if v4 = 0 then (if w0 = 0 then ((y, 0)) else (((sR (sR y 41 p1.toNatClampNeg (((10 : Int32) * (y.1 41 p1.toNatClampNeg)) + p2)) 42 p1.toNatClampNeg ((y.1 42 p1.toNatClampNeg) + 1)), 1))) else ((y, 0)))
def fX11_figure_J43 (p1 : Int32) (p2 : Int32) (y : RS) (v3 : Int32) (w0 : Int32) : RS × Int32 := if v3 = 0 then (if (4 : Int32) ≤ (y.1 42 p1.toNatClampNeg) then (fX11_figure_J93 p1 p2 y v3 w0 0) else (fX11_figure_J93 p1 p2 y v3 w0 1)) else (if (fX11_places p1 y) ≤ ((y.1 42 p1.toNatClampNeg) - (y.1 43 p1.toNatClampNeg)) then (fX11_figure_J93 p1 p2 y v3 w0 0) else (fX11_figure_J93 p1 p2 y v3 w0 1))
def fX11_figure_J42 (p1 : Int32) (p2 : Int32) (y : RS) (v3 : Int32) : RS × Int32 := fX11_figure_J43 p1 p2 y v3 0
def fX11_figure_J14 (p1 : Int32) (p2 : Int32) (y : RS) (w0 : Int32) : RS × Int32 := if (y.1 42 p1.toNatClampNeg) = 1 then (if (y.1 41 p1.toNatClampNeg) = 0 then (if w0 = 0 then (fX11_figure_J43 p1 p2 y w0 1) else (fX11_figure_J42 p1 p2 y w0)) else (fX11_figure_J42 p1 p2 y w0)) else (fX11_figure_J42 p1 p2 y w0)
def fX11_figure (p1 : Int32) (p2 : Int32) (x : RS) : RS × Int32 := if (x.1 43 p1.toNatClampNeg) < 0 then (fX11_figure_J14 p1 p2 x 0) else (fX11_figure_J14 p1 p2 x 1)
set_option maxHeartbeats 4000000 in
set_option maxRecDepth 100000 in
theorem mX11_figure (l : Launch) (E : eE) (rr : Nat) (x : RS) (p1 : Int32) (p2 : Int32) (hc : vp_in p1 3) (tg : Nat) (bg : Nat) (hok : okR tg bg x) : Met l yX11_figure wsX11_figure ({ frames := 1, cells := 0, slots := 0, locals := 21 }) (gPre E (rw_ E rr x) [.ref (rr + 0), .int (p1), .int (p2)]) (gQi E (rw_ E rr) (fX11_figure p1 p2 x) (rA rr)) 0 0 (rA rr) := by
  refine Met.ofW (cc := cX11_figure) (maxL := 6) (ret := (some .boolean)) (by decide) rfl ?_
  intro p e s m args below meth c s₁ B hml hv
  obtain ⟨rfl, hW, hK⟩ := hv
  have hx := B.exec
  have hb := B.bytes
  have hr := B.returns
  have hts := atoms_spec (ws := wsX11_figure) B.pre
  have hown : s.vm.findClass RX11 = some m.cls := findClass_of_methodNamed B.named
  have hlocks := B.notSynchronized
  have i11 : ∀ w ∈ wsX110, w ∈ wsX11_figure := by decide +kernel
  have kl131 := hts (.fieldLink RX11 131 "DosePumpModel" "figures" "[I") (by decide +kernel)
  have kl134 := hts (.fieldLink RX11 134 "DosePumpModel" "digits" "[I") (by decide +kernel)
  have kl137 := hts (.fieldLink RX11 137 "DosePumpModel" "points" "[I") (by decide +kernel)
  have hS : va_S (rA rr) s.heap s.heap [] := va_S.rf
  have hl := lv_entry ([.ref (rr + 0), .int (p1), .int (p2)]) (n := 6) (Nat.le_of_ble_eq_true rfl)
  rw [lg_entry_eq]
  generalize (lg_sl ([.ref (rr + 0), .int (p1), .int (p2)]) ++ List.replicate (6 - (lg_sl ([.ref (rr + 0), .int (p1), .int (p2)])).length) Slot.unset).toArray = ls at hl ⊢
  have hl : lv_has ls 6 [(0, .ref (rr + 0)), (1, .int (p1)), (2, .int (p2))] := hl
  have J93 : ∀ (H : Heap) (locs : List Loc) (ls : Array Slot) (y : RS) (v3 : Int32) (v4 : Int32) (w0 : Int32), rw_ E rr y H → va_S (rA rr) s.heap H locs → lv_has ls 6 [(0, .ref (rr + 0)), (1, .int (p1)), (2, .int (p2)), (3, .int (v3)), (4, .int (v4))] → okR tg bg y → fX11_figure p1 p2 x = fX11_figure_J93 p1 p2 y v3 v4 w0 → W p l e (headSpec wsX11_figure { frames := 1, cells := 0, slots := 0, locals := 21 }).room s m ([.ref (rr + 0), .int (p1), .int (p2)] : List Value).toArray below meth c H locs 0 0 (MQ below (gQi E (rw_ E rr) (fX11_figure p1 p2 x) (rA rr)) ([.ref (rr + 0), .int (p1), .int (p2)] : List Value).toArray s 0 0 (rA rr)) (F0 m 93 ls [.int (w0)]) := by
    intro H locs ls y v3 v4 w0 hW hS hl hok hf
    replace hf : fX11_figure p1 p2 x = (if p2 = 10 then (if v3 = 0 then (if (y.1 42 p1.toNatClampNeg) = 0 then ((y, 0)) else (if (fX11_places p1 y) = 0 then ((y, 0)) else (((sR y 43 p1.toNatClampNeg (y.1 42 p1.toNatClampNeg)), 1)))) else ((y, 0))) else (if v4 = 0 then (if w0 = 0 then ((y, 0)) else (((sR (sR y 41 p1.toNatClampNeg (((10 : Int32) * (y.1 41 p1.toNatClampNeg)) + p2)) 42 p1.toNatClampNeg ((y.1 42 p1.toNatClampNeg) + 1)), 1))) else ((y, 0)))) := hf
    refine lv_istore (lv' := [(5, .int (w0)), (0, .ref (rr + 0)), (1, .int (p1)), (2, .int (p2)), (3, .int (v3)), (4, .int (v4))]) hx hb dX11_figure_93 hl (by decide) rfl (fun ls hl => ?_)
    refine lv_iload_n hx hb dX11_figure_95 rfl (lv_at hl 3 rfl) ?_
    refine lv_bipush (v := 10) hx hb dX11_figure_96 (by decide) ?_
    refine lv_icmp_ne (tgt := 138) hx hb dX11_figure_98 (by decide) (fun c_98 => ?_) (fun c_98 => ?_)
    · have hf_98 := hf.trans (if_neg c_98)
      refine lv_iload hx hb dX11_figure_138 (lv_at hl 5 rfl) ?_
      refine lv_if_ne (tgt := 148) hx hb dX11_figure_140 (by decide) (fun c_140 => ?_) (fun c_140 => ?_)
      · have hf_140 := hf_98.trans (if_neg c_140)
        refine lv_iconst (v := 0) hx hb dX11_figure_148 (by decide) ?_
        exact gx_iret hx hb hr (by decide) hlocks hK hf_140 hW hS dX11_figure_149
      · have hf_140 := hf_98.trans (if_pos c_140)
        refine lv_iload hx hb dX11_figure_143 (lv_at hl 0 rfl) ?_
        refine lv_if_ne (tgt := 150) hx hb dX11_figure_145 (by decide) (fun c_145 => ?_) (fun c_145 => ?_)
        · have hf_145 := hf_140.trans (if_neg c_145)
          refine lv_aload_n hx hb dX11_figure_150 rfl (lv_at hl 1 rfl) ?_
          refine fx_get (ci := 11) (v := .ref (rr + 41)) hx hb hts i11 hown hK (rwc_0 hW) rfl 41 (by decide) kl131 rfl dX11_figure_151 ?_
          refine lv_iload_n hx hb dX11_figure_154 rfl (lv_at hl 2 rfl) ?_
          refine lv_bipush (v := 10) hx hb dX11_figure_155 (by decide) ?_
          refine lv_aload_n hx hb dX11_figure_157 rfl (lv_at hl 1 rfl) ?_
          refine fx_get (ci := 11) (v := .ref (rr + 41)) hx hb hts i11 hown hK (rwc_0 hW) rfl 41 (by decide) kl131 rfl dX11_figure_158 ?_
          refine lv_iload_n hx hb dX11_figure_161 rfl (lv_at hl 2 rfl) ?_
          refine fx_ild hx hb hK 0 (rwc_41 hW) rfl hc dX11_figure_162 ?_
          refine lv_imul hx hb dX11_figure_163 ?_
          refine lv_iload_n hx hb dX11_figure_164 rfl (lv_at hl 3 rfl) ?_
          refine lv_iadd hx hb dX11_figure_165 ?_
          refine fx_ist hx hb hK 0 (rwc_41 hW) (rA_o (o := 41) (by decide)) hS rfl hc dX11_figure_166 (fun H locs hat hne hS => ?_)
          have hW : rw_ E rr (sR y 41 p1.toNatClampNeg (((10 : Int32) * (y.1 41 p1.toNatClampNeg)) + p2)) H := rws_41 (k := p1.toNatClampNeg) (v := ((10 : Int32) * (y.1 41 p1.toNatClampNeg)) + p2) hW hat hne
          refine lv_aload_n hx hb dX11_figure_167 rfl (lv_at hl 1 rfl) ?_
          refine fx_get (ci := 11) (v := .ref (rr + 42)) hx hb hts i11 hown hK (rwc_0 hW) rfl 42 (by decide) kl134 rfl dX11_figure_168 ?_
          refine lv_iload_n hx hb dX11_figure_171 rfl (lv_at hl 2 rfl) ?_
          refine lv_dup2_11 hx hb dX11_figure_172 rfl rfl ?_
          refine fx_ild hx hb hK 0 (rwc_42 hW) rfl hc dX11_figure_173 ?_
          refine lv_iconst (v := 1) hx hb dX11_figure_174 (by decide) ?_
          refine lv_iadd hx hb dX11_figure_175 ?_
          refine fx_ist hx hb hK 0 (rwc_42 hW) (rA_o (o := 42) (by decide)) hS rfl hc dX11_figure_176 (fun H locs hat hne hS => ?_)
          have hW : rw_ E rr (sR (sR y 41 p1.toNatClampNeg (((10 : Int32) * (y.1 41 p1.toNatClampNeg)) + p2)) 42 p1.toNatClampNeg ((y.1 42 p1.toNatClampNeg) + 1)) H := rws_42 (k := p1.toNatClampNeg) (v := (y.1 42 p1.toNatClampNeg) + 1) hW hat hne
          refine lv_iconst (v := 1) hx hb dX11_figure_177 (by decide) ?_
          exact gx_iret hx hb hr (by decide) hlocks hK hf_145 hW hS dX11_figure_178
        · have hf_145 := hf_140.trans (if_pos c_145)
          refine lv_iconst (v := 0) hx hb dX11_figure_148 (by decide) ?_
          exact gx_iret hx hb hr (by decide) hlocks hK hf_145 hW hS dX11_figure_149
    · have hf_98 := hf.trans (if_pos c_98)
      refine lv_iload_n hx hb dX11_figure_101 rfl (lv_at hl 4 rfl) ?_
      refine lv_if_ne (tgt := 122) hx hb dX11_figure_102 (by decide) (fun c_102 => ?_) (fun c_102 => ?_)
      · have hf_102 := hf_98.trans (if_neg c_102)
        refine lv_iconst (v := 0) hx hb dX11_figure_122 (by decide) ?_
        exact gx_iret hx hb hr (by decide) hlocks hK hf_102 hW hS dX11_figure_123
      · have hf_102 := hf_98.trans (if_pos c_102)
        refine lv_aload_n hx hb dX11_figure_105 rfl (lv_at hl 1 rfl) ?_
        refine fx_get (ci := 11) (v := .ref (rr + 42)) hx hb hts i11 hown hK (rwc_0 hW) rfl 42 (by decide) kl134 rfl dX11_figure_106 ?_
        refine lv_iload_n hx hb dX11_figure_109 rfl (lv_at hl 2 rfl) ?_
        refine fx_ild hx hb hK 0 (rwc_42 hW) rfl hc dX11_figure_110 ?_
        refine lv_if_eq (tgt := 122) hx hb dX11_figure_111 (by decide) (fun c_111 => ?_) (fun c_111 => ?_)
        · have hf_111 := hf_102.trans (if_pos c_111)
          refine lv_iconst (v := 0) hx hb dX11_figure_122 (by decide) ?_
          exact gx_iret hx hb hr (by decide) hlocks hK hf_111 hW hS dX11_figure_123
        · have hf_111 := hf_102.trans (if_neg c_111)
          refine lv_aload_n hx hb dX11_figure_114 rfl (lv_at hl 1 rfl) ?_
          refine lv_iload_n hx hb dX11_figure_115 rfl (lv_at hl 2 rfl) ?_
          refine gx_i (rest := []) ⟨hx, hb, hml, hown, hts⟩ (mX11_places l E rr y p1 hc _ _ hok) (cwV 1 hts gX11_figure_X11_places rfl rfl rfl (by decide +kernel) ⟨Nat.le_of_ble_eq_true rfl, Nat.le_of_ble_eq_true rfl⟩) hW hK (fx_recv hK (rwc_0 hW) rfl) rfl hl.1 rfl (Nat.le_of_ble_eq_true rfl) dX11_figure_116 ⟨Nat.le_of_ble_eq_true rfl, Nat.le_of_ble_eq_true rfl⟩ hS (fun _ h => h) (fun _ r2 H locs _ e2 hW hS => ?_)
          have e2 : fX11_places p1 y = r2 := e2
          try rw [e2] at hf_111
          refine lv_if_ne (tgt := 124) hx hb dX11_figure_119 (by decide) (fun c_119 => ?_) (fun c_119 => ?_)
          · have hf_119 := hf_111.trans (if_neg c_119)
            refine lv_aload_n hx hb dX11_figure_124 rfl (lv_at hl 1 rfl) ?_
            refine fx_get (ci := 11) (v := .ref (rr + 43)) hx hb hts i11 hown hK (rwc_0 hW) rfl 43 (by decide) kl137 rfl dX11_figure_125 ?_
            refine lv_iload_n hx hb dX11_figure_128 rfl (lv_at hl 2 rfl) ?_
            refine lv_aload_n hx hb dX11_figure_129 rfl (lv_at hl 1 rfl) ?_
            refine fx_get (ci := 11) (v := .ref (rr + 42)) hx hb hts i11 hown hK (rwc_0 hW) rfl 42 (by decide) kl134 rfl dX11_figure_130 ?_
            refine lv_iload_n hx hb dX11_figure_133 rfl (lv_at hl 2 rfl) ?_
            refine fx_ild hx hb hK 0 (rwc_42 hW) rfl hc dX11_figure_134 ?_
            refine fx_ist hx hb hK 0 (rwc_43 hW) (rA_o (o := 43) (by decide)) hS rfl hc dX11_figure_135 (fun H locs hat hne hS => ?_)
            have hW : rw_ E rr (sR y 43 p1.toNatClampNeg (y.1 42 p1.toNatClampNeg)) H := rws_43 (k := p1.toNatClampNeg) (v := y.1 42 p1.toNatClampNeg) hW hat hne
            refine lv_iconst (v := 1) hx hb dX11_figure_136 (by decide) ?_
            exact gx_iret hx hb hr (by decide) hlocks hK hf_119 hW hS dX11_figure_137
          · have hf_119 := hf_111.trans (if_pos c_119)
            refine lv_iconst (v := 0) hx hb dX11_figure_122 (by decide) ?_
            exact gx_iret hx hb hr (by decide) hlocks hK hf_119 hW hS dX11_figure_123
  have J43 : ∀ (H : Heap) (locs : List Loc) (ls : Array Slot) (y : RS) (v3 : Int32) (w0 : Int32), rw_ E rr y H → va_S (rA rr) s.heap H locs → lv_has ls 6 [(0, .ref (rr + 0)), (1, .int (p1)), (2, .int (p2)), (3, .int (v3))] → okR tg bg y → fX11_figure p1 p2 x = fX11_figure_J43 p1 p2 y v3 w0 → W p l e (headSpec wsX11_figure { frames := 1, cells := 0, slots := 0, locals := 21 }).room s m ([.ref (rr + 0), .int (p1), .int (p2)] : List Value).toArray below meth c H locs 0 0 (MQ below (gQi E (rw_ E rr) (fX11_figure p1 p2 x) (rA rr)) ([.ref (rr + 0), .int (p1), .int (p2)] : List Value).toArray s 0 0 (rA rr)) (F0 m 43 ls [.int (w0)]) := by
    intro H locs ls y v3 w0 hW hS hl hok hf
    replace hf : fX11_figure p1 p2 x = (if v3 = 0 then (if (4 : Int32) ≤ (y.1 42 p1.toNatClampNeg) then (fX11_figure_J93 p1 p2 y v3 w0 0) else (fX11_figure_J93 p1 p2 y v3 w0 1)) else (if (fX11_places p1 y) ≤ ((y.1 42 p1.toNatClampNeg) - (y.1 43 p1.toNatClampNeg)) then (fX11_figure_J93 p1 p2 y v3 w0 0) else (fX11_figure_J93 p1 p2 y v3 w0 1))) := hf
    refine lv_istore (lv' := [(4, .int (w0)), (0, .ref (rr + 0)), (1, .int (p1)), (2, .int (p2)), (3, .int (v3))]) hx hb dX11_figure_43 hl (by decide) rfl (fun ls hl => ?_)
    refine lv_iload_n hx hb dX11_figure_45 rfl (lv_at hl 4 rfl) ?_
    refine lv_if_eq (tgt := 78) hx hb dX11_figure_46 (by decide) (fun c_46 => ?_) (fun c_46 => ?_)
    · have hf_46 := hf.trans (if_pos c_46)
      refine lv_aload_n hx hb dX11_figure_78 rfl (lv_at hl 1 rfl) ?_
      refine fx_get (ci := 11) (v := .ref (rr + 42)) hx hb hts i11 hown hK (rwc_0 hW) rfl 42 (by decide) kl134 rfl dX11_figure_79 ?_
      refine lv_iload_n hx hb dX11_figure_82 rfl (lv_at hl 2 rfl) ?_
      refine fx_ild hx hb hK 0 (rwc_42 hW) rfl hc dX11_figure_83 ?_
      refine lv_iconst (v := 4) hx hb dX11_figure_84 (by decide) ?_
      refine lv_icmp_ge (tgt := 92) hx hb dX11_figure_85 (by decide) (fun c_85 => ?_) (fun c_85 => ?_)
      · have hf_85 := hf_46.trans (if_pos c_85)
        refine lv_iconst (v := 0) hx hb dX11_figure_92 (by decide) ?_
        exact J93 _ _ _ y v3 w0 0 hW hS (lv_sub hl [1, 2, 3, 4, 0] rfl) hok hf_85
      · have hf_85 := hf_46.trans (if_neg c_85)
        refine lv_iconst (v := 1) hx hb dX11_figure_88 (by decide) ?_
        refine lv_goto (tgt := 93) hx hb dX11_figure_89 (by decide) ?_
        exact J93 _ _ _ y v3 w0 1 hW hS (lv_sub hl [1, 2, 3, 4, 0] rfl) hok hf_85
    · have hf_46 := hf.trans (if_neg c_46)
      refine lv_aload_n hx hb dX11_figure_49 rfl (lv_at hl 1 rfl) ?_
      refine fx_get (ci := 11) (v := .ref (rr + 42)) hx hb hts i11 hown hK (rwc_0 hW) rfl 42 (by decide) kl134 rfl dX11_figure_50 ?_
      refine lv_iload_n hx hb dX11_figure_53 rfl (lv_at hl 2 rfl) ?_
      refine fx_ild hx hb hK 0 (rwc_42 hW) rfl hc dX11_figure_54 ?_
      refine lv_aload_n hx hb dX11_figure_55 rfl (lv_at hl 1 rfl) ?_
      refine fx_get (ci := 11) (v := .ref (rr + 43)) hx hb hts i11 hown hK (rwc_0 hW) rfl 43 (by decide) kl137 rfl dX11_figure_56 ?_
      refine lv_iload_n hx hb dX11_figure_59 rfl (lv_at hl 2 rfl) ?_
      refine fx_ild hx hb hK 0 (rwc_43 hW) rfl hc dX11_figure_60 ?_
      refine lv_isub hx hb dX11_figure_61 ?_
      refine lv_aload_n hx hb dX11_figure_62 rfl (lv_at hl 1 rfl) ?_
      refine lv_iload_n hx hb dX11_figure_63 rfl (lv_at hl 2 rfl) ?_
      refine gx_i (rest := [.int ((y.1 42 p1.toNatClampNeg) - (y.1 43 p1.toNatClampNeg))]) ⟨hx, hb, hml, hown, hts⟩ (mX11_places l E rr y p1 hc _ _ hok) (cwV 1 hts gX11_figure_X11_places rfl rfl rfl (by decide +kernel) ⟨Nat.le_of_ble_eq_true rfl, Nat.le_of_ble_eq_true rfl⟩) hW hK (fx_recv hK (rwc_0 hW) rfl) rfl hl.1 rfl (Nat.le_of_ble_eq_true rfl) dX11_figure_64 ⟨Nat.le_of_ble_eq_true rfl, Nat.le_of_ble_eq_true rfl⟩ hS (fun _ h => h) (fun _ r1 H locs _ e1 hW hS => ?_)
      have e1 : fX11_places p1 y = r1 := e1
      try rw [e1] at hf_46
      refine lv_icmp_ge (tgt := 74) hx hb dX11_figure_67 (by decide) (fun c_67 => ?_) (fun c_67 => ?_)
      · have hf_67 := hf_46.trans (if_pos c_67)
        refine lv_iconst (v := 0) hx hb dX11_figure_74 (by decide) ?_
        refine lv_goto (tgt := 93) hx hb dX11_figure_75 (by decide) ?_
        exact J93 _ _ _ y v3 w0 0 hW hS (lv_sub hl [1, 2, 3, 4, 0] rfl) hok hf_67
      · have hf_67 := hf_46.trans (if_neg c_67)
        refine lv_iconst (v := 1) hx hb dX11_figure_70 (by decide) ?_
        refine lv_goto (tgt := 93) hx hb dX11_figure_71 (by decide) ?_
        exact J93 _ _ _ y v3 w0 1 hW hS (lv_sub hl [1, 2, 3, 4, 0] rfl) hok hf_67
  have J42 : ∀ (H : Heap) (locs : List Loc) (ls : Array Slot) (y : RS) (v3 : Int32), rw_ E rr y H → va_S (rA rr) s.heap H locs → lv_has ls 6 [(0, .ref (rr + 0)), (1, .int (p1)), (2, .int (p2)), (3, .int (v3))] → okR tg bg y → fX11_figure p1 p2 x = fX11_figure_J42 p1 p2 y v3 → W p l e (headSpec wsX11_figure { frames := 1, cells := 0, slots := 0, locals := 21 }).room s m ([.ref (rr + 0), .int (p1), .int (p2)] : List Value).toArray below meth c H locs 0 0 (MQ below (gQi E (rw_ E rr) (fX11_figure p1 p2 x) (rA rr)) ([.ref (rr + 0), .int (p1), .int (p2)] : List Value).toArray s 0 0 (rA rr)) (F0 m 42 ls []) := by
    intro H locs ls y v3 hW hS hl hok hf
    replace hf : fX11_figure p1 p2 x = (fX11_figure_J43 p1 p2 y v3 0) := hf
    refine lv_iconst (v := 0) hx hb dX11_figure_42 (by decide) ?_
    exact J43 _ _ _ y v3 0 hW hS (lv_sub hl [0, 1, 2, 3] rfl) hok hf
  have J14 : ∀ (H : Heap) (locs : List Loc) (ls : Array Slot) (y : RS) (w0 : Int32), rw_ E rr y H → va_S (rA rr) s.heap H locs → lv_has ls 6 [(0, .ref (rr + 0)), (1, .int (p1)), (2, .int (p2))] → okR tg bg y → fX11_figure p1 p2 x = fX11_figure_J14 p1 p2 y w0 → W p l e (headSpec wsX11_figure { frames := 1, cells := 0, slots := 0, locals := 21 }).room s m ([.ref (rr + 0), .int (p1), .int (p2)] : List Value).toArray below meth c H locs 0 0 (MQ below (gQi E (rw_ E rr) (fX11_figure p1 p2 x) (rA rr)) ([.ref (rr + 0), .int (p1), .int (p2)] : List Value).toArray s 0 0 (rA rr)) (F0 m 14 ls [.int (w0)]) := by
    intro H locs ls y w0 hW hS hl hok hf
    replace hf : fX11_figure p1 p2 x = (if (y.1 42 p1.toNatClampNeg) = 1 then (if (y.1 41 p1.toNatClampNeg) = 0 then (if w0 = 0 then (fX11_figure_J43 p1 p2 y w0 1) else (fX11_figure_J42 p1 p2 y w0)) else (fX11_figure_J42 p1 p2 y w0)) else (fX11_figure_J42 p1 p2 y w0)) := hf
    refine lv_istore_n (lv' := [(3, .int (w0)), (0, .ref (rr + 0)), (1, .int (p1)), (2, .int (p2))]) hx hb dX11_figure_14 rfl hl (by decide) rfl (fun ls hl => ?_)
    refine lv_aload_n hx hb dX11_figure_15 rfl (lv_at hl 1 rfl) ?_
    refine fx_get (ci := 11) (v := .ref (rr + 42)) hx hb hts i11 hown hK (rwc_0 hW) rfl 42 (by decide) kl134 rfl dX11_figure_16 ?_
    refine lv_iload_n hx hb dX11_figure_19 rfl (lv_at hl 2 rfl) ?_
    refine fx_ild hx hb hK 0 (rwc_42 hW) rfl hc dX11_figure_20 ?_
    refine lv_iconst (v := 1) hx hb dX11_figure_21 (by decide) ?_
    refine lv_icmp_ne (tgt := 42) hx hb dX11_figure_22 (by decide) (fun c_22 => ?_) (fun c_22 => ?_)
    · have hf_22 := hf.trans (if_neg c_22)
      exact J42 _ _ _ y w0 hW hS (lv_sub hl [1, 2, 3, 0] rfl) hok hf_22
    · have hf_22 := hf.trans (if_pos c_22)
      refine lv_aload_n hx hb dX11_figure_25 rfl (lv_at hl 1 rfl) ?_
      refine fx_get (ci := 11) (v := .ref (rr + 41)) hx hb hts i11 hown hK (rwc_0 hW) rfl 41 (by decide) kl131 rfl dX11_figure_26 ?_
      refine lv_iload_n hx hb dX11_figure_29 rfl (lv_at hl 2 rfl) ?_
      refine fx_ild hx hb hK 0 (rwc_41 hW) rfl hc dX11_figure_30 ?_
      refine lv_if_ne (tgt := 42) hx hb dX11_figure_31 (by decide) (fun c_31 => ?_) (fun c_31 => ?_)
      · have hf_31 := hf_22.trans (if_neg c_31)
        exact J42 _ _ _ y w0 hW hS (lv_sub hl [1, 2, 3, 0] rfl) hok hf_31
      · have hf_31 := hf_22.trans (if_pos c_31)
        refine lv_iload_n hx hb dX11_figure_34 rfl (lv_at hl 0 rfl) ?_
        refine lv_if_ne (tgt := 42) hx hb dX11_figure_35 (by decide) (fun c_35 => ?_) (fun c_35 => ?_)
        · have hf_35 := hf_31.trans (if_neg c_35)
          exact J42 _ _ _ y w0 hW hS (lv_sub hl [1, 2, 3, 0] rfl) hok hf_35
        · have hf_35 := hf_31.trans (if_pos c_35)
          refine lv_iconst (v := 1) hx hb dX11_figure_38 (by decide) ?_
          refine lv_goto (tgt := 43) hx hb dX11_figure_39 (by decide) ?_
          exact J43 _ _ _ y w0 1 hW hS (lv_sub hl [1, 2, 3, 0] rfl) hok hf_35
  have hf : fX11_figure p1 p2 x = (if (x.1 43 p1.toNatClampNeg) < 0 then (fX11_figure_J14 p1 p2 x 0) else (fX11_figure_J14 p1 p2 x 1)) := rfl
  refine lv_aload_n hx hb dX11_figure_0 rfl (lv_at hl 0 rfl) ?_
  refine fx_get (ci := 11) (v := .ref (rr + 43)) hx hb hts i11 hown hK (rwc_0 hW) rfl 43 (by decide) kl137 rfl dX11_figure_1 ?_
  refine lv_iload_n hx hb dX11_figure_4 rfl (lv_at hl 1 rfl) ?_
  refine fx_ild hx hb hK 0 (rwc_43 hW) rfl hc dX11_figure_5 ?_
  refine lv_if_lt (tgt := 13) hx hb dX11_figure_6 (by decide) (fun c_6 => ?_) (fun c_6 => ?_)
  · have hf_6 := hf.trans (if_pos c_6)
    refine lv_iconst (v := 0) hx hb dX11_figure_13 (by decide) ?_
    exact J14 _ _ _ x 0 hW hS (lv_sub hl [0, 1, 2] rfl) hok hf_6
  · have hf_6 := hf.trans (if_neg c_6)
    refine lv_iconst (v := 1) hx hb dX11_figure_9 (by decide) ?_
    refine lv_goto (tgt := 14) hx hb dX11_figure_10 (by decide) ?_
    exact J14 _ _ _ x 1 hW hS (lv_sub hl [0, 1, 2] rfl) hok hf_6
theorem okX11_figure_J93 {tg bg : Nat} {p1 : Int32} {p2 : Int32} {y : RS} {v3 : Int32} {v4 : Int32} {w0 : Int32} (hok : okR tg bg y) : okR tg bg (fX11_figure_J93 p1 p2 y v3 v4 w0).1 := by unfold fX11_figure_J93; exact (okR_ite1 (fun c_98 => (okR_ite1 (fun c_102 => (okR_ite1 (fun c_111 => hok) (fun c_111 => (okR_ite1 (fun c_119 => hok) (fun c_119 => (okR_sR rfl hok)))))) (fun c_102 => hok))) (fun c_98 => (okR_ite1 (fun c_140 => (okR_ite1 (fun c_145 => hok) (fun c_145 => (okR_sR rfl (okR_sR rfl hok))))) (fun c_140 => hok))))
theorem okX11_figure_J43 {tg bg : Nat} {p1 : Int32} {p2 : Int32} {y : RS} {v3 : Int32} {w0 : Int32} (hok : okR tg bg y) : okR tg bg (fX11_figure_J43 p1 p2 y v3 w0).1 := by unfold fX11_figure_J43; exact (okR_ite1 (fun c_46 => (okR_ite1 (fun c_85 => (okX11_figure_J93 hok)) (fun c_85 => (okX11_figure_J93 hok)))) (fun c_46 => (okR_ite1 (fun c_67 => (okX11_figure_J93 hok)) (fun c_67 => (okX11_figure_J93 hok)))))
theorem okX11_figure_J42 {tg bg : Nat} {p1 : Int32} {p2 : Int32} {y : RS} {v3 : Int32} (hok : okR tg bg y) : okR tg bg (fX11_figure_J42 p1 p2 y v3).1 := by unfold fX11_figure_J42; exact (okX11_figure_J43 hok)
theorem okX11_figure_J14 {tg bg : Nat} {p1 : Int32} {p2 : Int32} {y : RS} {w0 : Int32} (hok : okR tg bg y) : okR tg bg (fX11_figure_J14 p1 p2 y w0).1 := by unfold fX11_figure_J14; exact (okR_ite1 (fun c_22 => (okR_ite1 (fun c_31 => (okR_ite1 (fun c_35 => (okX11_figure_J43 hok)) (fun c_35 => (okX11_figure_J42 hok)))) (fun c_31 => (okX11_figure_J42 hok)))) (fun c_22 => (okX11_figure_J42 hok)))
theorem okX11_figure {tg bg : Nat} {p1 : Int32} {p2 : Int32} {x : RS} (hok : okR tg bg x) : okR tg bg (fX11_figure p1 p2 x).1 := by unfold fX11_figure; exact (okR_ite1 (fun c_6 => (okX11_figure_J14 hok)) (fun c_6 => (okX11_figure_J14 hok)))

def fX11_clearKey (p1 : Int32) (x : RS) : RS × Int32 := if (x.1 13 p1.toNatClampNeg) = 5 then (((fX11_go p1 3 x), 1)) else (if (x.1 42 p1.toNatClampNeg) ≤ 0 then (((fX11_drop p1 x), 1)) else (((fX11_clear p1 x), 1)))
set_option maxHeartbeats 4000000 in
set_option maxRecDepth 100000 in
theorem mX11_clearKey (l : Launch) (E : eE) (rr : Nat) (x : RS) (p1 : Int32) (hc : vp_in p1 3) (tg : Nat) (bg : Nat) (hok : okR tg (bg + 1) x) : Met l yX11_clearKey wsX11_clearKey ({ frames := 3, cells := 0, slots := 0, locals := 68 }) (gPre E (rw_ E rr x) [.ref (rr + 0), .int (p1)]) (gQi E (rw_ E rr) (fX11_clearKey p1 x) (rA rr)) 0 0 (rA rr) := by
  refine Met.ofW (cc := cX11_clearKey) (maxL := 2) (ret := (some .boolean)) (by decide) rfl ?_
  intro p e s m args below meth c s₁ B hml hv
  obtain ⟨rfl, hW, hK⟩ := hv
  have hx := B.exec
  have hb := B.bytes
  have hr := B.returns
  have hts := atoms_spec (ws := wsX11_clearKey) B.pre
  have hown : s.vm.findClass RX11 = some m.cls := findClass_of_methodNamed B.named
  have hlocks := B.notSynchronized
  have i11 : ∀ w ∈ wsX110, w ∈ wsX11_clearKey := by decide +kernel
  have kl47 := hts (.fieldLink RX11 47 "DosePumpModel" "phase" "[I") (by decide +kernel)
  have kl134 := hts (.fieldLink RX11 134 "DosePumpModel" "digits" "[I") (by decide +kernel)
  have hS : va_S (rA rr) s.heap s.heap [] := va_S.rf
  have hl := lv_entry ([.ref (rr + 0), .int (p1)]) (n := 2) (Nat.le_of_ble_eq_true rfl)
  rw [lg_entry_eq]
  generalize (lg_sl ([.ref (rr + 0), .int (p1)]) ++ List.replicate (2 - (lg_sl ([.ref (rr + 0), .int (p1)])).length) Slot.unset).toArray = ls at hl ⊢
  have hl : lv_has ls 2 [(0, .ref (rr + 0)), (1, .int (p1))] := hl
  have hf : fX11_clearKey p1 x = (if (x.1 13 p1.toNatClampNeg) = 5 then (((fX11_go p1 3 x), 1)) else (if (x.1 42 p1.toNatClampNeg) ≤ 0 then (((fX11_drop p1 x), 1)) else (((fX11_clear p1 x), 1)))) := rfl
  refine lv_aload_n hx hb dX11_clearKey_0 rfl (lv_at hl 0 rfl) ?_
  refine fx_get (ci := 11) (v := .ref (rr + 13)) hx hb hts i11 hown hK (rwc_0 hW) rfl 13 (by decide) kl47 rfl dX11_clearKey_1 ?_
  refine lv_iload_n hx hb dX11_clearKey_4 rfl (lv_at hl 1 rfl) ?_
  refine fx_ild hx hb hK 0 (rwc_13 hW) rfl hc dX11_clearKey_5 ?_
  refine lv_iconst (v := 5) hx hb dX11_clearKey_6 (by decide) ?_
  refine lv_icmp_ne (tgt := 18) hx hb dX11_clearKey_7 (by decide) (fun c_7 => ?_) (fun c_7 => ?_)
  · have hf_7 := hf.trans (if_neg c_7)
    refine lv_aload_n hx hb dX11_clearKey_18 rfl (lv_at hl 0 rfl) ?_
    refine fx_get (ci := 11) (v := .ref (rr + 42)) hx hb hts i11 hown hK (rwc_0 hW) rfl 42 (by decide) kl134 rfl dX11_clearKey_19 ?_
    refine lv_iload_n hx hb dX11_clearKey_22 rfl (lv_at hl 1 rfl) ?_
    refine fx_ild hx hb hK 0 (rwc_42 hW) rfl hc dX11_clearKey_23 ?_
    refine lv_if_le (tgt := 35) hx hb dX11_clearKey_24 (by decide) (fun c_24 => ?_) (fun c_24 => ?_)
    · have hf_24 := hf_7.trans (if_pos c_24)
      refine lv_aload_n hx hb dX11_clearKey_35 rfl (lv_at hl 0 rfl) ?_
      refine lv_iload_n hx hb dX11_clearKey_36 rfl (lv_at hl 1 rfl) ?_
      refine gx_v (rest := []) ⟨hx, hb, hml, hown, hts⟩ (mX11_drop l E rr x p1 hc _ _ hok) (cwV 1 hts gX11_clearKey_X11_drop rfl rfl rfl (by decide +kernel) ⟨Nat.le_of_ble_eq_true rfl, Nat.le_of_ble_eq_true rfl⟩) hW hK (fx_recv hK (rwc_0 hW) rfl) rfl hl.1 rfl (Nat.le_of_ble_eq_true rfl) dX11_clearKey_37 ⟨Nat.le_of_ble_eq_true rfl, Nat.le_of_ble_eq_true rfl⟩ hS (fun _ h => h) (fun u1 H locs e1 hW hS => ?_)
      have e1 : fX11_drop p1 x = u1 := e1
      try rw [e1] at hf_24
      have hk1 : okR tg bg u1 := e1 ▸ (okX11_drop hc hok)
      refine lv_iconst (v := 1) hx hb dX11_clearKey_40 (by decide) ?_
      exact gx_iret hx hb hr (by decide) hlocks hK hf_24 hW hS dX11_clearKey_41
    · have hf_24 := hf_7.trans (if_neg c_24)
      refine lv_aload_n hx hb dX11_clearKey_27 rfl (lv_at hl 0 rfl) ?_
      refine lv_iload_n hx hb dX11_clearKey_28 rfl (lv_at hl 1 rfl) ?_
      refine gx_v (rest := []) ⟨hx, hb, hml, hown, hts⟩ (mX11_clear l E rr x p1 hc) (cwV 1 hts gX11_clearKey_X11_clear rfl rfl rfl (by decide +kernel) ⟨Nat.le_of_ble_eq_true rfl, Nat.le_of_ble_eq_true rfl⟩) hW hK (fx_recv hK (rwc_0 hW) rfl) rfl hl.1 rfl (Nat.le_of_ble_eq_true rfl) dX11_clearKey_29 ⟨Nat.le_of_ble_eq_true rfl, Nat.le_of_ble_eq_true rfl⟩ hS (fun _ h => h) (fun u2 H locs e2 hW hS => ?_)
      have e2 : fX11_clear p1 x = u2 := e2
      try rw [e2] at hf_24
      have hk2 : okR tg (bg + 1) u2 := e2 ▸ (okX11_clear hok)
      refine lv_goto (tgt := 40) hx hb dX11_clearKey_32 (by decide) ?_
      refine lv_iconst (v := 1) hx hb dX11_clearKey_40 (by decide) ?_
      exact gx_iret hx hb hr (by decide) hlocks hK hf_24 hW hS dX11_clearKey_41
  · have hf_7 := hf.trans (if_pos c_7)
    refine lv_aload_n hx hb dX11_clearKey_10 rfl (lv_at hl 0 rfl) ?_
    refine lv_iload_n hx hb dX11_clearKey_11 rfl (lv_at hl 1 rfl) ?_
    refine lv_iconst (v := 3) hx hb dX11_clearKey_12 (by decide) ?_
    refine gx_v (rest := []) ⟨hx, hb, hml, hown, hts⟩ (mX11_go l E rr x p1 3 hc) (cwV 2 hts gX11_clearKey_X11_go rfl rfl rfl (by decide +kernel) ⟨Nat.le_of_ble_eq_true rfl, Nat.le_of_ble_eq_true rfl⟩) hW hK (fx_recv hK (rwc_0 hW) rfl) rfl hl.1 rfl (Nat.le_of_ble_eq_true rfl) dX11_clearKey_13 ⟨Nat.le_of_ble_eq_true rfl, Nat.le_of_ble_eq_true rfl⟩ hS (fun _ h => h) (fun u3 H locs e3 hW hS => ?_)
    have e3 : fX11_go p1 3 x = u3 := e3
    try rw [e3] at hf_7
    have hk3 : okR tg (bg + 1) u3 := e3 ▸ (okX11_go hc (fun h => absurd h (by decide)) hok)
    refine lv_iconst (v := 1) hx hb dX11_clearKey_16 (by decide) ?_
    exact gx_iret hx hb hr (by decide) hlocks hK hf_7 hW hS dX11_clearKey_17
theorem okX11_clearKey {tg bg : Nat} {p1 : Int32} {x : RS} (hc : vp_in p1 3) (hok : okR tg (bg + 1) x) : okR tg bg (fX11_clearKey p1 x).1 := by unfold fX11_clearKey; exact (okR_ite1 (fun c_7 => (okR_le (k := 1) (okX11_go hc (fun h => absurd h (by decide)) hok))) (fun c_7 => (okR_ite1 (fun c_24 => (okX11_drop hc hok)) (fun c_24 => (okR_le (k := 1) (okX11_clear hok))))))

/-- drugs of kind 1 have a strength -/
def okS (x : RS) : Prop := ∀ d, d < 16 → ¬ x.1 2 d = 0 → 1 ≤ (x.1 3 d).toInt
theorem okS_ne {x : RS} {p1 : Int32} (hs : okS x) (hd : vp_in p1 16) (h : ¬ x.1 2 p1.toNatClampNeg = 0) : ¬ (2 : Int64) * (5 * (x.1 3 p1.toNatClampNeg).toInt64) = 0 := by
  have h1 := hs _ (vi_lt hd) h
  intro q
  obtain ⟨m, hm, e⟩ := nI_of (x := x.1 3 p1.toNatClampNeg) (by rw [Int32.lt_iff_toInt_lt, show (0 : Int32).toInt = 0 from rfl]; omega)
  rw [e, nI_toInt hm] at h1
  rw [e, nI_l hm, show (5 : Int64) = lN 5 from rfl, show (2 : Int64) = lN 2 from rfl, lN_mul, lN_mul, show (0 : Int64) = lN 0 from rfl, pk_lEQ (by omega) (by omega)] at q
  omega

def fX11_rateOf (p1 : Int32) (p2 : Int32) (p3 : Int32) (x : RS) : Int64 := if (x.1 2 p1.toNatClampNeg) = 0 then (p2.toInt64) else ((((2 : Int64) * (((3 : Int64) * p2.toInt64) * p3.toInt64)) + ((5 : Int64) * ((x.1 3 p1.toNatClampNeg).toInt64))) / ((2 : Int64) * ((5 : Int64) * ((x.1 3 p1.toNatClampNeg).toInt64))))
set_option maxHeartbeats 4000000 in
set_option maxRecDepth 100000 in
theorem mX11_rateOf (l : Launch) (E : eE) (rr : Nat) (x : RS) (p1 : Int32) (p2 : Int32) (p3 : Int32) (hd : vp_in p1 16) (hs : okS x) : Met l yX11_rateOf wsX11_rateOf ({ frames := 0, cells := 0, slots := 0, locals := 0 }) (gPre E (rw_ E rr x) [.ref (rr + 0), .int (p1), .int (p2), .int (p3)]) (gQl E (fun _ : Unit => rw_ E rr x) ((), fX11_rateOf p1 p2 p3 x) (rA rr)) 0 0 (rA rr) := by
  refine Met.ofW (cc := cX11_rateOf) (maxL := 8) (ret := (some .long)) (by decide) rfl ?_
  intro p e s m args below meth c s₁ B hml hv
  obtain ⟨rfl, hW, hK⟩ := hv
  have hx := B.exec
  have hb := B.bytes
  have hr := B.returns
  have hts := atoms_spec (ws := wsX11_rateOf) B.pre
  have hown : s.vm.findClass RX11 = some m.cls := findClass_of_methodNamed B.named
  have hlocks := B.notSynchronized
  have i11 : ∀ w ∈ wsX110, w ∈ wsX11_rateOf := by decide +kernel
  have kl13 := hts (.fieldLink RX11 13 "DosePumpModel" "kind" "[I") (by decide +kernel)
  have kl17 := hts (.fieldLink RX11 17 "DosePumpModel" "strength" "[I") (by decide +kernel)
  have hS : va_S (rA rr) s.heap s.heap [] := va_S.rf
  have hl := lv_entry ([.ref (rr + 0), .int (p1), .int (p2), .int (p3)]) (n := 8) (Nat.le_of_ble_eq_true rfl)
  rw [lg_entry_eq]
  generalize (lg_sl ([.ref (rr + 0), .int (p1), .int (p2), .int (p3)]) ++ List.replicate (8 - (lg_sl ([.ref (rr + 0), .int (p1), .int (p2), .int (p3)])).length) Slot.unset).toArray = ls at hl ⊢
  have hl : lv_has ls 8 [(0, .ref (rr + 0)), (1, .int (p1)), (2, .int (p2)), (3, .int (p3))] := hl
  have hf : fX11_rateOf p1 p2 p3 x = (if (x.1 2 p1.toNatClampNeg) = 0 then (p2.toInt64) else ((((2 : Int64) * (((3 : Int64) * p2.toInt64) * p3.toInt64)) + ((5 : Int64) * ((x.1 3 p1.toNatClampNeg).toInt64))) / ((2 : Int64) * ((5 : Int64) * ((x.1 3 p1.toNatClampNeg).toInt64))))) := rfl
  refine lv_aload_n hx hb dX11_rateOf_0 rfl (lv_at hl 0 rfl) ?_
  refine fx_get (ci := 11) (v := .ref (rr + 2)) hx hb hts i11 hown hK (rwc_0 hW) rfl 2 (by decide) kl13 rfl dX11_rateOf_1 ?_
  refine lv_iload_n hx hb dX11_rateOf_4 rfl (lv_at hl 1 rfl) ?_
  refine fx_ild hx hb hK 0 (rwc_2 hW) rfl hd dX11_rateOf_5 ?_
  refine lv_if_ne (tgt := 12) hx hb dX11_rateOf_6 (by decide) (fun c_6 => ?_) (fun c_6 => ?_)
  · have hf_6 := hf.trans (if_neg c_6)
    refine lv_ldc2 hx hb hown (hts (.constantLong RX11 202 (3)) (by decide +kernel)) dX11_rateOf_12 ?_
    refine lv_iload_n hx hb dX11_rateOf_15 rfl (lv_at hl 2 rfl) ?_
    refine lv_i2l (v := p2.toInt64) hx hb dX11_rateOf_16 rfl ?_
    refine lv_lmul hx hb dX11_rateOf_17 ?_
    refine lv_iload_n hx hb dX11_rateOf_18 rfl (lv_at hl 3 rfl) ?_
    refine lv_i2l (v := p3.toInt64) hx hb dX11_rateOf_19 rfl ?_
    refine lv_lmul hx hb dX11_rateOf_20 ?_
    refine lv_lstore (lv' := [(4, .long (((3 : Int64) * p2.toInt64) * p3.toInt64)), (0, .ref (rr + 0)), (1, .int (p1)), (2, .int (p2)), (3, .int (p3))]) hx hb dX11_rateOf_21 hl (by decide) rfl (fun ls hl => ?_)
    refine lv_ldc2 hx hb hown (hts (.constantLong RX11 204 (5)) (by decide +kernel)) dX11_rateOf_23 ?_
    refine lv_aload_n hx hb dX11_rateOf_26 rfl (lv_at hl 1 rfl) ?_
    refine fx_get (ci := 11) (v := .ref (rr + 3)) hx hb hts i11 hown hK (rwc_0 hW) rfl 3 (by decide) kl17 rfl dX11_rateOf_27 ?_
    refine lv_iload_n hx hb dX11_rateOf_30 rfl (lv_at hl 2 rfl) ?_
    refine fx_ild hx hb hK 0 (rwc_3 hW) rfl hd dX11_rateOf_31 ?_
    refine lv_i2l (v := (x.1 3 p1.toNatClampNeg).toInt64) hx hb dX11_rateOf_32 rfl ?_
    refine lv_lmul hx hb dX11_rateOf_33 ?_
    refine lv_lstore (lv' := [(6, .long ((5 : Int64) * ((x.1 3 p1.toNatClampNeg).toInt64))), (4, .long (((3 : Int64) * p2.toInt64) * p3.toInt64)), (0, .ref (rr + 0)), (1, .int (p1)), (2, .int (p2)), (3, .int (p3))]) hx hb dX11_rateOf_34 hl (by decide) rfl (fun ls hl => ?_)
    refine lv_ldc2 hx hb hown (hts (.constantLong RX11 206 (2)) (by decide +kernel)) dX11_rateOf_36 ?_
    refine lv_lload hx hb dX11_rateOf_39 (lv_at hl 1 rfl) ?_
    refine lv_lmul hx hb dX11_rateOf_41 ?_
    refine lv_lload hx hb dX11_rateOf_42 (lv_at hl 0 rfl) ?_
    refine lv_ladd hx hb dX11_rateOf_44 ?_
    refine lv_ldc2 hx hb hown (hts (.constantLong RX11 206 (2)) (by decide +kernel)) dX11_rateOf_45 ?_
    refine lv_lload hx hb dX11_rateOf_48 (lv_at hl 0 rfl) ?_
    refine lv_lmul hx hb dX11_rateOf_50 ?_
    refine lv_ldiv hx hb dX11_rateOf_51 (okS_ne hs hd c_6) ?_
    exact gx_lret hx hb hr hlocks hK (congrArg (Prod.mk ()) hf_6) (u := ()) (v := (((2 : Int64) * (((3 : Int64) * p2.toInt64) * p3.toInt64)) + ((5 : Int64) * ((x.1 3 p1.toNatClampNeg).toInt64))) / ((2 : Int64) * ((5 : Int64) * ((x.1 3 p1.toNatClampNeg).toInt64)))) hW hS dX11_rateOf_52
  · have hf_6 := hf.trans (if_pos c_6)
    refine lv_iload_n hx hb dX11_rateOf_9 rfl (lv_at hl 2 rfl) ?_
    refine lv_i2l (v := p2.toInt64) hx hb dX11_rateOf_10 rfl ?_
    exact gx_lret hx hb hr hlocks hK (congrArg (Prod.mk ()) hf_6) (u := ()) (v := p2.toInt64) hW hS dX11_rateOf_11

theorem vi_c3 {v : Int32} (h1 : 0 ≤ v.toInt) (h2 : ¬ 3 ≤ v) : vp_in v 3 := by
  rw [Int32.le_iff_toInt_le, show (3 : Int32).toInt = 3 from rfl] at h2
  rw [vp_in_iff]
  omega
theorem vi_c3s {v : Int32} (h1 : 0 ≤ v.toInt) (h2 : ¬ 3 ≤ v) : 0 ≤ (v + 1).toInt := by
  rw [Int32.le_iff_toInt_le] at h2
  have h3 : (3 : Int32).toInt = 3 := rfl
  rw [i32_succ (b := 3) (by omega)]
  omega

theorem nar_bo {v : Int32} (h : v = 0 ∨ v = 1) : narrow .boolean (.int v) = .int v := by rcases h with rfl | rfl <;> decide
theorem bo_or1 {v : Int32} (h : v = 0 ∨ v = 1) : v ||| 1 = 0 ∨ v ||| 1 = 1 := by rcases h with rfl | rfl <;> decide
theorem bo_or0 {v : Int32} (h : v = 0 ∨ v = 1) : v ||| 0 = 0 ∨ v ||| 0 = 1 := by rcases h with rfl | rfl <;> decide
