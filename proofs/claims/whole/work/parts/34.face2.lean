/-! the face: methods that throw -/
theorem cA_D16 {bb : Nat} {z : Int32} (hz : vp_in z 16) : cA bb (dAd bb z.toNatClampNeg) := by
  have hd : z.toNatClampNeg < 16 := vj_lt hz
  have e1 : dAd bb z.toNatClampNeg = bb + 5 + z.toNatClampNeg := by unfold dAd; rw [if_pos hd]
  rw [e1]; exact cA_D hd
theorem vj_of4 {d : Int32} (h1 : ¬ d < 0) (h2 : d < 4) : vp_in d 4 := by
  rw [vp_in_iff]
  rw [Int32.lt_iff_toInt_lt, show (0 : Int32).toInt = 0 from rfl] at h1
  rw [Int32.lt_iff_toInt_lt, show (4 : Int32).toInt = 4 from rfl] at h2
  omega
theorem vj_of16 {d : Int32} (h1 : ¬ d < 0) (h2 : d < 16) : vp_in d 16 := by
  rw [vp_in_iff]
  rw [Int32.lt_iff_toInt_lt, show (0 : Int32).toInt = 0 from rfl] at h1
  rw [Int32.lt_iff_toInt_lt, show (16 : Int32).toInt = 16 from rfl] at h2
  omega

def fX2_tellMore (d : Int32) (p1 : Int32) (p2 : Int32) (p3 : Int32) (p4 : Int32) (p5 : Int32) (x : PS) : PS := (tD (tD (tD (tD (tD x d.toNatClampNeg 8 (p1)) d.toNatClampNeg 9 (p2)) d.toNatClampNeg 10 (p3)) d.toNatClampNeg 11 (p4)) d.toNatClampNeg 12 (p5))
set_option maxHeartbeats 4000000 in
set_option maxRecDepth 100000 in
theorem mX2_tellMore (l : Launch) (E : eE) (bb : Nat) (x : PS) (d : Int32) (p1 : Int32) (p2 : Int32) (p3 : Int32) (p4 : Int32) (p5 : Int32) (hv : vp_in d 16) : Met l yX2_tellMore wsX2_tellMore ({ frames := 0, cells := 0, slots := 0, locals := 0 }) (gPre E (pw E bb x) [.ref (dAd bb (d).toNatClampNeg), .int (p1), .int (p2), .int (p3), .int (p4), .int (p5)]) (gQv E (pw E bb) (fX2_tellMore d p1 p2 p3 p4 p5 x) (cA bb)) 0 0 (cA bb) := by
  refine Met.ofW (cc := cX2_tellMore) (maxL := 6) (ret := none) (by decide) rfl ?_
  intro p e s m args below meth c s₁ B hml hv
  obtain ⟨rfl, hW, hK⟩ := hv
  have hx := B.exec
  have hb := B.bytes
  have hr := B.returns
  have hts := atoms_spec (ws := wsX2_tellMore) B.pre
  have hown : s.vm.findClass RX2 = some m.cls := findClass_of_methodNamed B.named
  have hlocks := B.notSynchronized
  have i2 : ∀ w ∈ wsX20, w ∈ wsX2_tellMore := by decide +kernel
  have kl16 := hts (.fieldLink RX2 16 "DosePump$Drug" "limit" "I") (by decide +kernel)
  have kl19 := hts (.fieldLink RX2 19 "DosePump$Drug" "bolus" "I") (by decide +kernel)
  have kl22 := hts (.fieldLink RX2 22 "DosePump$Drug" "pace" "I") (by decide +kernel)
  have kl25 := hts (.fieldLink RX2 25 "DosePump$Drug" "lockout" "I") (by decide +kernel)
  have kl28 := hts (.fieldLink RX2 28 "DosePump$Drug" "many" "I") (by decide +kernel)
  have hS : va_S (cA bb) s.heap s.heap [] := va_S.rf
  have hl := lv_entry ([.ref (dAd bb (d).toNatClampNeg), .int (p1), .int (p2), .int (p3), .int (p4), .int (p5)]) (n := 6) (Nat.le_of_ble_eq_true rfl)
  rw [lg_entry_eq]
  generalize (lg_sl ([.ref (dAd bb (d).toNatClampNeg), .int (p1), .int (p2), .int (p3), .int (p4), .int (p5)]) ++ List.replicate (6 - (lg_sl ([.ref (dAd bb (d).toNatClampNeg), .int (p1), .int (p2), .int (p3), .int (p4), .int (p5)])).length) Slot.unset).toArray = ls at hl ⊢
  have hl : lv_has ls 6 [(0, .ref (dAd bb (d).toNatClampNeg)), (1, .int (p1)), (2, .int (p2)), (3, .int (p3)), (4, .int (p4)), (5, .int (p5))] := hl
  have hf : fX2_tellMore d p1 p2 p3 p4 p5 x = ((tD (tD (tD (tD (tD x d.toNatClampNeg 8 (p1)) d.toNatClampNeg 9 (p2)) d.toNatClampNeg 10 (p3)) d.toNatClampNeg 11 (p4)) d.toNatClampNeg 12 (p5))) := rfl
  refine lv_aload_n hx hb dX2_tellMore_0 rfl (lv_at hl 0 rfl) ?_
  refine lv_iload_n hx hb dX2_tellMore_1 rfl (lv_at hl 1 rfl) ?_
  refine fx_put (ci := 2) (v := .int (p1)) hx hb hts i2 tyX2_ok nmX2 hown hK (pw_D hW (vi_22 hv)) (cA_D16 hv) hS rfl 8 (by decide) kl16 rfl rfl rfl (Nat.le_of_ble_eq_true rfl) dX2_tellMore_2 (fun H locs hat hne hS => ?_)
  have hW : pw E bb (tD x d.toNatClampNeg 8 (p1)) H := pw_sD (z := d) (k := 8) (v := p1) hW hv hat hne
  refine lv_aload_n hx hb dX2_tellMore_5 rfl (lv_at hl 0 rfl) ?_
  refine lv_iload_n hx hb dX2_tellMore_6 rfl (lv_at hl 2 rfl) ?_
  refine fx_put (ci := 2) (v := .int (p2)) hx hb hts i2 tyX2_ok nmX2 hown hK (pw_D hW (vi_22 hv)) (cA_D16 hv) hS rfl 9 (by decide) kl19 rfl rfl rfl (Nat.le_of_ble_eq_true rfl) dX2_tellMore_7 (fun H locs hat hne hS => ?_)
  have hW : pw E bb (tD (tD x d.toNatClampNeg 8 (p1)) d.toNatClampNeg 9 (p2)) H := pw_sD (z := d) (k := 9) (v := p2) hW hv hat hne
  refine lv_aload_n hx hb dX2_tellMore_10 rfl (lv_at hl 0 rfl) ?_
  refine lv_iload_n hx hb dX2_tellMore_11 rfl (lv_at hl 3 rfl) ?_
  refine fx_put (ci := 2) (v := .int (p3)) hx hb hts i2 tyX2_ok nmX2 hown hK (pw_D hW (vi_22 hv)) (cA_D16 hv) hS rfl 10 (by decide) kl22 rfl rfl rfl (Nat.le_of_ble_eq_true rfl) dX2_tellMore_12 (fun H locs hat hne hS => ?_)
  have hW : pw E bb (tD (tD (tD x d.toNatClampNeg 8 (p1)) d.toNatClampNeg 9 (p2)) d.toNatClampNeg 10 (p3)) H := pw_sD (z := d) (k := 10) (v := p3) hW hv hat hne
  refine lv_aload_n hx hb dX2_tellMore_15 rfl (lv_at hl 0 rfl) ?_
  refine lv_iload hx hb dX2_tellMore_16 (lv_at hl 4 rfl) ?_
  refine fx_put (ci := 2) (v := .int (p4)) hx hb hts i2 tyX2_ok nmX2 hown hK (pw_D hW (vi_22 hv)) (cA_D16 hv) hS rfl 11 (by decide) kl25 rfl rfl rfl (Nat.le_of_ble_eq_true rfl) dX2_tellMore_18 (fun H locs hat hne hS => ?_)
  have hW : pw E bb (tD (tD (tD (tD x d.toNatClampNeg 8 (p1)) d.toNatClampNeg 9 (p2)) d.toNatClampNeg 10 (p3)) d.toNatClampNeg 11 (p4)) H := pw_sD (z := d) (k := 11) (v := p4) hW hv hat hne
  refine lv_aload_n hx hb dX2_tellMore_21 rfl (lv_at hl 0 rfl) ?_
  refine lv_iload hx hb dX2_tellMore_22 (lv_at hl 5 rfl) ?_
  refine fx_put (ci := 2) (v := .int (p5)) hx hb hts i2 tyX2_ok nmX2 hown hK (pw_D hW (vi_22 hv)) (cA_D16 hv) hS rfl 12 (by decide) kl28 rfl rfl rfl (Nat.le_of_ble_eq_true rfl) dX2_tellMore_24 (fun H locs hat hne hS => ?_)
  have hW : pw E bb (tD (tD (tD (tD (tD x d.toNatClampNeg 8 (p1)) d.toNatClampNeg 9 (p2)) d.toNatClampNeg 10 (p3)) d.toNatClampNeg 11 (p4)) d.toNatClampNeg 12 (p5)) H := pw_sD (z := d) (k := 12) (v := p5) hW hv hat hne
  exact gx_vret hx hb hr hlocks hK hf hW hS dX2_tellMore_27

def fX10_toldDrug (p1 : Int32) (x : PS) : Nat × PS × Int32 := if (fX10_isTold x.2.1 p1 (foc x 0)) = 0 then ((xcode "java/lang/IndexOutOfBoundsException", x, 0)) else ((0, x, p1))
set_option maxHeartbeats 4000000 in
set_option maxRecDepth 100000 in
theorem mX10_toldDrug (l : Launch) (hl9 : l.stackTraces = false) (E : eE) (bb sz : Nat) (x : PS) (p1 : Int32) : vx_Met l yX10_toldDrug wsX10_toldDrug ({ frames := 6, cells := 1, slots := 6, locals := 90 }) (xPre E bb sz (pw E bb x) [.ref (bb + 0), .int (p1)]) (xQr E (pw E bb) (fun r => dAd bb r.toNatClampNeg) (fX10_toldDrug p1 x) (xA bb sz)) (xX E (pw E bb) (fX10_toldDrug p1 x) (xA bb sz)) 1 6 (xA bb sz) := by
  refine vx_ofW (cc := cX10_toldDrug) (maxL := 2) (ret := (some (.object "DosePump$Drug"))) (by decide) rfl ?_
  intro p e s m args below meth c s₁ B hml hEx hv
  obtain ⟨rfl, hsz, hW, hK, hxs⟩ := hv
  subst hsz
  have hx := B.exec
  have hb := B.bytes
  have hr := B.returns
  have hts := atoms_spec (ws := wsX10_toldDrug) B.pre
  have hown : s.vm.findClass RX10 = some m.cls := findClass_of_methodNamed B.named
  have hlocks := B.notSynchronized
  have i10 : ∀ w ∈ wsX100, w ∈ wsX10_toldDrug := by decide +kernel
  have kl11 := hts (.fieldLink RX10 11 "DosePump" "drugs" "[LDosePump$Drug;") (by decide +kernel)
  have hS : va_S (xA bb s.heap.size) s.heap s.heap [] := va_S.rf
  have hl := lv_entry ([.ref (bb + 0), .int (p1)]) (n := 2) (Nat.le_of_ble_eq_true rfl)
  rw [lg_entry_eq]
  generalize (lg_sl ([.ref (bb + 0), .int (p1)]) ++ List.replicate (2 - (lg_sl ([.ref (bb + 0), .int (p1)])).length) Slot.unset).toArray = ls at hl ⊢
  have hl : lv_has ls 2 [(0, .ref (bb + 0)), (1, .int (p1))] := hl
  have hf : fX10_toldDrug p1 x = (if (fX10_isTold x.2.1 p1 (foc x 0)) = 0 then ((xcode "java/lang/IndexOutOfBoundsException", x, 0)) else ((0, x, p1))) := rfl
  refine lv_aload_n hx hb dX10_toldDrug_0 rfl (lv_at hl 0 rfl) ?_
  refine lv_iload_n hx hb dX10_toldDrug_1 rfl (lv_at hl 1 rfl) ?_
  refine gx_i (rest := []) ⟨hx, hb, hml, hown, hts⟩ (mX10_isTold l E bb x.2.1 x.2.2.1 0 (by decide) (foc x 0) p1) (cwV 1 hts gX10_toldDrug_X10_isTold rfl rfl rfl (by decide +kernel) ⟨Nat.le_of_ble_eq_true rfl, Nat.le_of_ble_eq_true rfl⟩) (pw_foc hW) hK (fx_recv hK (pw_P (o := 0) hW (by decide)) rfl) rfl hl.1 rfl (Nat.le_of_ble_eq_true rfl) dX10_toldDrug_2 ⟨Nat.le_of_ble_eq_true rfl, Nat.le_of_ble_eq_true rfl⟩ hS (fun _ h => Or.inl h) (fun _ r1 H locs _ e1 hW9 hS => ?_)
  have hW : pw E bb x H := pw_unfoc hW9
  have e1 : fX10_isTold x.2.1 p1 (foc x 0) = r1 := e1
  try rw [e1] at hf
  refine lv_if_ne (tgt := 18) hx hb dX10_toldDrug_5 (by decide) (fun c_5 => ?_) (fun c_5 => ?_)
  · have hf_5 := hf.trans (if_neg c_5)
    refine lv_aload_n hx hb dX10_toldDrug_18 rfl (lv_at hl 0 rfl) ?_
    refine fx_get (ci := 10) (v := .ref (bb + 1)) hx hb hts i10 hown hK (pw_P (o := 0) hW (by decide)) rfl 0 (by decide) kl11 rfl dX10_toldDrug_19 ?_
    refine lv_iload_n hx hb dX10_toldDrug_22 rfl (lv_at hl 1 rfl) ?_
    refine fx_ald (v := .ref (dAd bb (p1).toNatClampNeg)) hx hb hK 3 (pw_P (o := 1) hW (by decide)) rfl (told_in (gd := x.2.1) (p1 := p1) (x := foc x 0) (by rw [e1]; exact c_5)) rfl dX10_toldDrug_23 ?_
    exact xx_aret (v := p1) hx hb hr ⟨_, rfl⟩ hlocks hK hf_5 rfl hW hS dX10_toldDrug_24 (Nat.le_of_ble_eq_true rfl) (Nat.le_of_ble_eq_true rfl)
  · have hf_5 := hf.trans (if_pos c_5)
    exact xx_throw (X := "java/lang/IndexOutOfBoundsException") (text := "no such drug") (ik := 41) (is := 43) (ic := 45) hx hb hl9 hown (by decide) (by decide) (by decide +kernel) (hts (.classLink RX10 41 "java/lang/IndexOutOfBoundsException") (by decide +kernel)) (hts (.initialized "java/lang/IndexOutOfBoundsException") (by decide +kernel)) (fun w hw => hts w ((by decide +kernel : ∀ w ∈ (vx_atS RX10 45 "java/lang/IndexOutOfBoundsException" xNm).filter goodWord, w ∈ wsX10_toldDrug) w hw)) (by decide +kernel) (by decide +kernel) hxs hS (hl.1.trans hml.symm) dX10_toldDrug_8 dX10_toldDrug_11 dX10_toldDrug_12 dX10_toldDrug_14 dX10_toldDrug_17 hEx (Nat.le_of_ble_eq_true rfl) (Nat.le_of_ble_eq_true rfl) (Nat.le_of_ble_eq_true rfl) (Nat.le_of_ble_eq_true rfl) (Nat.le_of_ble_eq_true rfl) (Nat.le_of_ble_eq_true rfl) hlocks hK hf_5 hW

theorem pureX10_toldDrug {p1 : Int32} {x : PS} : (fX10_toldDrug p1 x).2.1 = x := by
  unfold fX10_toldDrug
  split <;> rfl
theorem inX10_toldDrug {p1 : Int32} {x : PS} (h : (fX10_toldDrug p1 x).1 = 0) : vp_in p1 16 := by
  unfold fX10_toldDrug at h
  split at h
  · exact absurd (show xcode "java/lang/IndexOutOfBoundsException" = 0 from h) (xcode_ne _)
  · rename_i c1; exact told_in c1
theorem ansX10_toldDrug {p1 : Int32} {x : PS} (h : (fX10_toldDrug p1 x).1 = 0) : (fX10_toldDrug p1 x).2.2 = p1 := by
  unfold fX10_toldDrug at h ⊢
  split at h
  · exact absurd (show xcode "java/lang/IndexOutOfBoundsException" = 0 from h) (xcode_ne _)
  · rename_i c1; rw [if_neg c1]

def fX10_refuseDrugInUse (p1 : Int32) (x : PS) : Nat × PS × Int32 := if (dNum (x.2.2.1 0 4 0).toNatClampNeg) = p1 then ((xcode "java/lang/IllegalStateException", x, 0)) else (if (dNum (x.2.2.1 0 1 2).toNatClampNeg) = p1 then ((xcode "java/lang/IllegalStateException", x, 0)) else (if (dNum (x.2.2.1 1 4 0).toNatClampNeg) = p1 then ((xcode "java/lang/IllegalStateException", x, 0)) else (if (dNum (x.2.2.1 1 1 2).toNatClampNeg) = p1 then ((xcode "java/lang/IllegalStateException", x, 0)) else (if (dNum (x.2.2.1 2 4 0).toNatClampNeg) = p1 then ((xcode "java/lang/IllegalStateException", x, 0)) else (if (dNum (x.2.2.1 2 1 2).toNatClampNeg) = p1 then ((xcode "java/lang/IllegalStateException", x, 0)) else ((0, x, 0)))))))
set_option maxHeartbeats 4000000 in
set_option maxRecDepth 100000 in
theorem mX10_refuseDrugInUse (l : Launch) (hl9 : l.stackTraces = false) (E : eE) (bb sz : Nat) (x : PS) (p1 : Int32) (hok : okP x) : vx_Met l yX10_refuseDrugInUse wsX10_refuseDrugInUse ({ frames := 6, cells := 1, slots := 6, locals := 90 }) (xPre E bb sz (pw E bb x) [.ref (bb + 0), .int (p1)]) (xQv E (pw E bb) (fX10_refuseDrugInUse p1 x) (xA bb sz)) (xX E (pw E bb) (fX10_refuseDrugInUse p1 x) (xA bb sz)) 1 6 (xA bb sz) := by
  refine vx_ofW (cc := cX10_refuseDrugInUse) (maxL := 3) (ret := none) (by decide) rfl ?_
  intro p e s m args below meth c s₁ B hml hEx hv
  obtain ⟨rfl, hsz, hW, hK, hxs⟩ := hv
  subst hsz
  have hx := B.exec
  have hb := B.bytes
  have hr := B.returns
  have hts := atoms_spec (ws := wsX10_refuseDrugInUse) B.pre
  have hown : s.vm.findClass RX10 = some m.cls := findClass_of_methodNamed B.named
  have hlocks := B.notSynchronized
  have i1 : ∀ w ∈ wsX10, w ∈ wsX10_refuseDrugInUse := by decide +kernel
  have i2 : ∀ w ∈ wsX20, w ∈ wsX10_refuseDrugInUse := by decide +kernel
  have i3 : ∀ w ∈ wsX30, w ∈ wsX10_refuseDrugInUse := by decide +kernel
  have i7 : ∀ w ∈ wsX70, w ∈ wsX10_refuseDrugInUse := by decide +kernel
  have i10 : ∀ w ∈ wsX100, w ∈ wsX10_refuseDrugInUse := by decide +kernel
  have kl17 := hts (.fieldLink RX10 17 "DosePump" "channels" "[LDosePump$Channel;") (by decide +kernel)
  have kl106 := hts (.fieldLink RX10 106 "DosePump$Channel" "entry" "LDosePump$Entry;") (by decide +kernel)
  have kl163 := hts (.fieldLink RX10 163 "DosePump$Channel" "program" "LDosePump$Program;") (by decide +kernel)
  have kl216 := hts (.fieldLink RX10 216 "DosePump$Program" "drug" "LDosePump$Drug;") (by decide +kernel)
  have kl220 := hts (.fieldLink RX10 220 "DosePump$Drug" "number" "I") (by decide +kernel)
  have kl268 := hts (.fieldLink RX10 268 "DosePump$Entry" "drug" "LDosePump$Drug;") (by decide +kernel)
  have hS : va_S (xA bb s.heap.size) s.heap s.heap [] := va_S.rf
  have hl := lv_entry ([.ref (bb + 0), .int (p1)]) (n := 3) (Nat.le_of_ble_eq_true rfl)
  rw [lg_entry_eq]
  generalize (lg_sl ([.ref (bb + 0), .int (p1)]) ++ List.replicate (3 - (lg_sl ([.ref (bb + 0), .int (p1)])).length) Slot.unset).toArray = ls at hl ⊢
  have hl : lv_has ls 3 [(0, .ref (bb + 0)), (1, .int (p1))] := hl
  have hf : fX10_refuseDrugInUse p1 x = (if (dNum (x.2.2.1 0 4 0).toNatClampNeg) = p1 then ((xcode "java/lang/IllegalStateException", x, 0)) else (if (dNum (x.2.2.1 0 1 2).toNatClampNeg) = p1 then ((xcode "java/lang/IllegalStateException", x, 0)) else (if (dNum (x.2.2.1 1 4 0).toNatClampNeg) = p1 then ((xcode "java/lang/IllegalStateException", x, 0)) else (if (dNum (x.2.2.1 1 1 2).toNatClampNeg) = p1 then ((xcode "java/lang/IllegalStateException", x, 0)) else (if (dNum (x.2.2.1 2 4 0).toNatClampNeg) = p1 then ((xcode "java/lang/IllegalStateException", x, 0)) else (if (dNum (x.2.2.1 2 1 2).toNatClampNeg) = p1 then ((xcode "java/lang/IllegalStateException", x, 0)) else ((0, x, 0)))))))) := rfl
  refine lv_iconst (v := 0) hx hb dX10_refuseDrugInUse_0 (by decide) ?_
  refine lv_istore_n (lv' := [(2, .int (0)), (0, .ref (bb + 0)), (1, .int (p1))]) hx hb dX10_refuseDrugInUse_1 rfl hl (by decide) rfl (fun ls hl => ?_)
  refine lv_iload_n hx hb dX10_refuseDrugInUse_2 rfl (lv_at hl 0 rfl) ?_
  refine lv_iconst (v := 3) hx hb dX10_refuseDrugInUse_3 (by decide) ?_
  refine lv_icmp_ge (tgt := 62) hx hb dX10_refuseDrugInUse_4 (by decide) (fun c9 => absurd c9 (by decide)) (fun c9 => ?_)
  refine lv_aload_n hx hb dX10_refuseDrugInUse_7 rfl (lv_at hl 1 rfl) ?_
  refine fx_get (ci := 10) (v := .ref (bb + 2)) hx hb hts i10 hown hK (pw_P (o := 0) hW (by decide)) rfl 1 (by decide) kl17 rfl dX10_refuseDrugInUse_8 ?_
  refine lv_iload_n hx hb dX10_refuseDrugInUse_11 rfl (lv_at hl 0 rfl) ?_
  refine fx_ald (v := .ref (bb + 21 + 14 * 0 + 0)) hx hb hK 2 (pw_P (o := 2) hW (by decide)) rfl (by unfold vp_in; decide) rfl dX10_refuseDrugInUse_12 ?_
  refine fx_get (ci := 1) (v := .ref (bb + 21 + 14 * 0 + 4)) hx hb hts i1 hown hK (pw_C (n := 0) (o := 0) hW (by decide) (by decide)) rfl 2 (by decide) kl163 rfl dX10_refuseDrugInUse_13 ?_
  refine fx_get (ci := 7) (v := .ref (dAd bb (x.2.2.1 0 4 0).toNatClampNeg)) hx hb hts i7 hown hK (pw_C (n := 0) (o := 4) hW (by decide) (by decide)) rfl 0 (by decide) kl216 rfl dX10_refuseDrugInUse_16 ?_
  refine fx_get (ci := 2) (v := .int (dNum (x.2.2.1 0 4 0).toNatClampNeg)) hx hb hts i2 hown hK (pw_D hW (hok 0 (by decide)).2.2.2.2.2.2) rfl 0 (by decide) kl220 rfl dX10_refuseDrugInUse_19 ?_
  refine lv_iload_n hx hb dX10_refuseDrugInUse_22 rfl (lv_at hl 2 rfl) ?_
  refine lv_icmp_eq (tgt := 45) hx hb dX10_refuseDrugInUse_23 (by decide) (fun c_23 => ?_) (fun c_23 => ?_)
  · have hf_23 := hf.trans (if_pos c_23)
    exact xx_throwW (X := "java/lang/IllegalStateException") (text := "a channel has this drug") (ik := 269) (is := 271) (ic := 273) hx hb hl9 hown (by decide) (by decide) (by decide +kernel) (hts (.classLink RX10 269 "java/lang/IllegalStateException") (by decide +kernel)) (hts (.initialized "java/lang/IllegalStateException") (by decide +kernel)) (fun w hw => hts w ((by decide +kernel : ∀ w ∈ (vx_atS RX10 273 "java/lang/IllegalStateException" xNm).filter goodWord, w ∈ wsX10_refuseDrugInUse) w hw)) (by decide +kernel) (by decide +kernel) hxs hS (hl.1.trans hml.symm) dX10_refuseDrugInUse_45 dX10_refuseDrugInUse_48 dX10_refuseDrugInUse_49 dX10_refuseDrugInUse_52 dX10_refuseDrugInUse_55 hEx (Nat.le_of_ble_eq_true rfl) (Nat.le_of_ble_eq_true rfl) (Nat.le_of_ble_eq_true rfl) (Nat.le_of_ble_eq_true rfl) (Nat.le_of_ble_eq_true rfl) (Nat.le_of_ble_eq_true rfl) hlocks hK hf_23 hW
  · have hf_23 := hf.trans (if_neg c_23)
    refine lv_aload_n hx hb dX10_refuseDrugInUse_26 rfl (lv_at hl 1 rfl) ?_
    refine fx_get (ci := 10) (v := .ref (bb + 2)) hx hb hts i10 hown hK (pw_P (o := 0) hW (by decide)) rfl 1 (by decide) kl17 rfl dX10_refuseDrugInUse_27 ?_
    refine lv_iload_n hx hb dX10_refuseDrugInUse_30 rfl (lv_at hl 0 rfl) ?_
    refine fx_ald (v := .ref (bb + 21 + 14 * 0 + 0)) hx hb hK 2 (pw_P (o := 2) hW (by decide)) rfl (by unfold vp_in; decide) rfl dX10_refuseDrugInUse_31 ?_
    refine fx_get (ci := 1) (v := .ref (bb + 21 + 14 * 0 + 1)) hx hb hts i1 hown hK (pw_C (n := 0) (o := 0) hW (by decide) (by decide)) rfl 1 (by decide) kl106 rfl dX10_refuseDrugInUse_32 ?_
    refine fx_get (ci := 3) (v := .ref (dAd bb (x.2.2.1 0 1 2).toNatClampNeg)) hx hb hts i3 hown hK (pw_C (n := 0) (o := 1) hW (by decide) (by decide)) rfl 2 (by decide) kl268 rfl dX10_refuseDrugInUse_35 ?_
    refine fx_get (ci := 2) (v := .int (dNum (x.2.2.1 0 1 2).toNatClampNeg)) hx hb hts i2 hown hK (pw_D hW (hok 0 (by decide)).2.2.2.2.2.1) rfl 0 (by decide) kl220 rfl dX10_refuseDrugInUse_38 ?_
    refine lv_iload_n hx hb dX10_refuseDrugInUse_41 rfl (lv_at hl 2 rfl) ?_
    refine lv_icmp_ne (tgt := 56) hx hb dX10_refuseDrugInUse_42 (by decide) (fun c_42 => ?_) (fun c_42 => ?_)
    · have hf_42 := hf_23.trans (if_neg c_42)
      refine lv_iinc (v := 1) (lv' := [(2, .int (1)), (0, .ref (bb + 0)), (1, .int (p1))]) hx hb dX10_refuseDrugInUse_56 hl (k := 0) rfl (by first | rfl | decide) (by decide) rfl (fun ls hl => ?_)
      refine lv_goto (tgt := 2) hx hb dX10_refuseDrugInUse_59 (by decide) ?_
      refine lv_iload_n hx hb dX10_refuseDrugInUse_2 rfl (lv_at hl 0 rfl) ?_
      refine lv_iconst (v := 3) hx hb dX10_refuseDrugInUse_3 (by decide) ?_
      refine lv_icmp_ge (tgt := 62) hx hb dX10_refuseDrugInUse_4 (by decide) (fun c9 => absurd c9 (by decide)) (fun c9 => ?_)
      refine lv_aload_n hx hb dX10_refuseDrugInUse_7 rfl (lv_at hl 1 rfl) ?_
      refine fx_get (ci := 10) (v := .ref (bb + 2)) hx hb hts i10 hown hK (pw_P (o := 0) hW (by decide)) rfl 1 (by decide) kl17 rfl dX10_refuseDrugInUse_8 ?_
      refine lv_iload_n hx hb dX10_refuseDrugInUse_11 rfl (lv_at hl 0 rfl) ?_
      refine fx_ald (v := .ref (bb + 21 + 14 * 1 + 0)) hx hb hK 2 (pw_P (o := 2) hW (by decide)) rfl (by unfold vp_in; decide) rfl dX10_refuseDrugInUse_12 ?_
      refine fx_get (ci := 1) (v := .ref (bb + 21 + 14 * 1 + 4)) hx hb hts i1 hown hK (pw_C (n := 1) (o := 0) hW (by decide) (by decide)) rfl 2 (by decide) kl163 rfl dX10_refuseDrugInUse_13 ?_
      refine fx_get (ci := 7) (v := .ref (dAd bb (x.2.2.1 1 4 0).toNatClampNeg)) hx hb hts i7 hown hK (pw_C (n := 1) (o := 4) hW (by decide) (by decide)) rfl 0 (by decide) kl216 rfl dX10_refuseDrugInUse_16 ?_
      refine fx_get (ci := 2) (v := .int (dNum (x.2.2.1 1 4 0).toNatClampNeg)) hx hb hts i2 hown hK (pw_D hW (hok 1 (by decide)).2.2.2.2.2.2) rfl 0 (by decide) kl220 rfl dX10_refuseDrugInUse_19 ?_
      refine lv_iload_n hx hb dX10_refuseDrugInUse_22 rfl (lv_at hl 2 rfl) ?_
      refine lv_icmp_eq (tgt := 45) hx hb dX10_refuseDrugInUse_23 (by decide) (fun c_23 => ?_) (fun c_23 => ?_)
      · have hf_23 := hf_42.trans (if_pos c_23)
        exact xx_throwW (X := "java/lang/IllegalStateException") (text := "a channel has this drug") (ik := 269) (is := 271) (ic := 273) hx hb hl9 hown (by decide) (by decide) (by decide +kernel) (hts (.classLink RX10 269 "java/lang/IllegalStateException") (by decide +kernel)) (hts (.initialized "java/lang/IllegalStateException") (by decide +kernel)) (fun w hw => hts w ((by decide +kernel : ∀ w ∈ (vx_atS RX10 273 "java/lang/IllegalStateException" xNm).filter goodWord, w ∈ wsX10_refuseDrugInUse) w hw)) (by decide +kernel) (by decide +kernel) hxs hS (hl.1.trans hml.symm) dX10_refuseDrugInUse_45 dX10_refuseDrugInUse_48 dX10_refuseDrugInUse_49 dX10_refuseDrugInUse_52 dX10_refuseDrugInUse_55 hEx (Nat.le_of_ble_eq_true rfl) (Nat.le_of_ble_eq_true rfl) (Nat.le_of_ble_eq_true rfl) (Nat.le_of_ble_eq_true rfl) (Nat.le_of_ble_eq_true rfl) (Nat.le_of_ble_eq_true rfl) hlocks hK hf_23 hW
      · have hf_23 := hf_42.trans (if_neg c_23)
        refine lv_aload_n hx hb dX10_refuseDrugInUse_26 rfl (lv_at hl 1 rfl) ?_
        refine fx_get (ci := 10) (v := .ref (bb + 2)) hx hb hts i10 hown hK (pw_P (o := 0) hW (by decide)) rfl 1 (by decide) kl17 rfl dX10_refuseDrugInUse_27 ?_
        refine lv_iload_n hx hb dX10_refuseDrugInUse_30 rfl (lv_at hl 0 rfl) ?_
        refine fx_ald (v := .ref (bb + 21 + 14 * 1 + 0)) hx hb hK 2 (pw_P (o := 2) hW (by decide)) rfl (by unfold vp_in; decide) rfl dX10_refuseDrugInUse_31 ?_
        refine fx_get (ci := 1) (v := .ref (bb + 21 + 14 * 1 + 1)) hx hb hts i1 hown hK (pw_C (n := 1) (o := 0) hW (by decide) (by decide)) rfl 1 (by decide) kl106 rfl dX10_refuseDrugInUse_32 ?_
        refine fx_get (ci := 3) (v := .ref (dAd bb (x.2.2.1 1 1 2).toNatClampNeg)) hx hb hts i3 hown hK (pw_C (n := 1) (o := 1) hW (by decide) (by decide)) rfl 2 (by decide) kl268 rfl dX10_refuseDrugInUse_35 ?_
        refine fx_get (ci := 2) (v := .int (dNum (x.2.2.1 1 1 2).toNatClampNeg)) hx hb hts i2 hown hK (pw_D hW (hok 1 (by decide)).2.2.2.2.2.1) rfl 0 (by decide) kl220 rfl dX10_refuseDrugInUse_38 ?_
        refine lv_iload_n hx hb dX10_refuseDrugInUse_41 rfl (lv_at hl 2 rfl) ?_
        refine lv_icmp_ne (tgt := 56) hx hb dX10_refuseDrugInUse_42 (by decide) (fun c_42 => ?_) (fun c_42 => ?_)
        · have hf_42 := hf_23.trans (if_neg c_42)
          refine lv_iinc (v := 2) (lv' := [(2, .int (2)), (0, .ref (bb + 0)), (1, .int (p1))]) hx hb dX10_refuseDrugInUse_56 hl (k := 0) rfl (by first | rfl | decide) (by decide) rfl (fun ls hl => ?_)
          refine lv_goto (tgt := 2) hx hb dX10_refuseDrugInUse_59 (by decide) ?_
          refine lv_iload_n hx hb dX10_refuseDrugInUse_2 rfl (lv_at hl 0 rfl) ?_
          refine lv_iconst (v := 3) hx hb dX10_refuseDrugInUse_3 (by decide) ?_
          refine lv_icmp_ge (tgt := 62) hx hb dX10_refuseDrugInUse_4 (by decide) (fun c9 => absurd c9 (by decide)) (fun c9 => ?_)
          refine lv_aload_n hx hb dX10_refuseDrugInUse_7 rfl (lv_at hl 1 rfl) ?_
          refine fx_get (ci := 10) (v := .ref (bb + 2)) hx hb hts i10 hown hK (pw_P (o := 0) hW (by decide)) rfl 1 (by decide) kl17 rfl dX10_refuseDrugInUse_8 ?_
          refine lv_iload_n hx hb dX10_refuseDrugInUse_11 rfl (lv_at hl 0 rfl) ?_
          refine fx_ald (v := .ref (bb + 21 + 14 * 2 + 0)) hx hb hK 2 (pw_P (o := 2) hW (by decide)) rfl (by unfold vp_in; decide) rfl dX10_refuseDrugInUse_12 ?_
          refine fx_get (ci := 1) (v := .ref (bb + 21 + 14 * 2 + 4)) hx hb hts i1 hown hK (pw_C (n := 2) (o := 0) hW (by decide) (by decide)) rfl 2 (by decide) kl163 rfl dX10_refuseDrugInUse_13 ?_
          refine fx_get (ci := 7) (v := .ref (dAd bb (x.2.2.1 2 4 0).toNatClampNeg)) hx hb hts i7 hown hK (pw_C (n := 2) (o := 4) hW (by decide) (by decide)) rfl 0 (by decide) kl216 rfl dX10_refuseDrugInUse_16 ?_
          refine fx_get (ci := 2) (v := .int (dNum (x.2.2.1 2 4 0).toNatClampNeg)) hx hb hts i2 hown hK (pw_D hW (hok 2 (by decide)).2.2.2.2.2.2) rfl 0 (by decide) kl220 rfl dX10_refuseDrugInUse_19 ?_
          refine lv_iload_n hx hb dX10_refuseDrugInUse_22 rfl (lv_at hl 2 rfl) ?_
          refine lv_icmp_eq (tgt := 45) hx hb dX10_refuseDrugInUse_23 (by decide) (fun c_23 => ?_) (fun c_23 => ?_)
          · have hf_23 := hf_42.trans (if_pos c_23)
            exact xx_throwW (X := "java/lang/IllegalStateException") (text := "a channel has this drug") (ik := 269) (is := 271) (ic := 273) hx hb hl9 hown (by decide) (by decide) (by decide +kernel) (hts (.classLink RX10 269 "java/lang/IllegalStateException") (by decide +kernel)) (hts (.initialized "java/lang/IllegalStateException") (by decide +kernel)) (fun w hw => hts w ((by decide +kernel : ∀ w ∈ (vx_atS RX10 273 "java/lang/IllegalStateException" xNm).filter goodWord, w ∈ wsX10_refuseDrugInUse) w hw)) (by decide +kernel) (by decide +kernel) hxs hS (hl.1.trans hml.symm) dX10_refuseDrugInUse_45 dX10_refuseDrugInUse_48 dX10_refuseDrugInUse_49 dX10_refuseDrugInUse_52 dX10_refuseDrugInUse_55 hEx (Nat.le_of_ble_eq_true rfl) (Nat.le_of_ble_eq_true rfl) (Nat.le_of_ble_eq_true rfl) (Nat.le_of_ble_eq_true rfl) (Nat.le_of_ble_eq_true rfl) (Nat.le_of_ble_eq_true rfl) hlocks hK hf_23 hW
          · have hf_23 := hf_42.trans (if_neg c_23)
            refine lv_aload_n hx hb dX10_refuseDrugInUse_26 rfl (lv_at hl 1 rfl) ?_
            refine fx_get (ci := 10) (v := .ref (bb + 2)) hx hb hts i10 hown hK (pw_P (o := 0) hW (by decide)) rfl 1 (by decide) kl17 rfl dX10_refuseDrugInUse_27 ?_
            refine lv_iload_n hx hb dX10_refuseDrugInUse_30 rfl (lv_at hl 0 rfl) ?_
            refine fx_ald (v := .ref (bb + 21 + 14 * 2 + 0)) hx hb hK 2 (pw_P (o := 2) hW (by decide)) rfl (by unfold vp_in; decide) rfl dX10_refuseDrugInUse_31 ?_
            refine fx_get (ci := 1) (v := .ref (bb + 21 + 14 * 2 + 1)) hx hb hts i1 hown hK (pw_C (n := 2) (o := 0) hW (by decide) (by decide)) rfl 1 (by decide) kl106 rfl dX10_refuseDrugInUse_32 ?_
            refine fx_get (ci := 3) (v := .ref (dAd bb (x.2.2.1 2 1 2).toNatClampNeg)) hx hb hts i3 hown hK (pw_C (n := 2) (o := 1) hW (by decide) (by decide)) rfl 2 (by decide) kl268 rfl dX10_refuseDrugInUse_35 ?_
            refine fx_get (ci := 2) (v := .int (dNum (x.2.2.1 2 1 2).toNatClampNeg)) hx hb hts i2 hown hK (pw_D hW (hok 2 (by decide)).2.2.2.2.2.1) rfl 0 (by decide) kl220 rfl dX10_refuseDrugInUse_38 ?_
            refine lv_iload_n hx hb dX10_refuseDrugInUse_41 rfl (lv_at hl 2 rfl) ?_
            refine lv_icmp_ne (tgt := 56) hx hb dX10_refuseDrugInUse_42 (by decide) (fun c_42 => ?_) (fun c_42 => ?_)
            · have hf_42 := hf_23.trans (if_neg c_42)
              refine lv_iinc (v := 3) (lv' := [(2, .int (3)), (0, .ref (bb + 0)), (1, .int (p1))]) hx hb dX10_refuseDrugInUse_56 hl (k := 0) rfl (by first | rfl | decide) (by decide) rfl (fun ls hl => ?_)
              refine lv_goto (tgt := 2) hx hb dX10_refuseDrugInUse_59 (by decide) ?_
              refine lv_iload_n hx hb dX10_refuseDrugInUse_2 rfl (lv_at hl 0 rfl) ?_
              refine lv_iconst (v := 3) hx hb dX10_refuseDrugInUse_3 (by decide) ?_
              refine lv_icmp_ge (tgt := 62) hx hb dX10_refuseDrugInUse_4 (by decide) (fun c9 => ?_) (fun c9 => absurd c9 (by decide))
              exact xx_vret hx hb hr hlocks hK hf_42 hW hS dX10_refuseDrugInUse_62 (Nat.le_of_ble_eq_true rfl) (Nat.le_of_ble_eq_true rfl)
            · have hf_42 := hf_23.trans (if_pos c_42)
              exact xx_throwW (X := "java/lang/IllegalStateException") (text := "a channel has this drug") (ik := 269) (is := 271) (ic := 273) hx hb hl9 hown (by decide) (by decide) (by decide +kernel) (hts (.classLink RX10 269 "java/lang/IllegalStateException") (by decide +kernel)) (hts (.initialized "java/lang/IllegalStateException") (by decide +kernel)) (fun w hw => hts w ((by decide +kernel : ∀ w ∈ (vx_atS RX10 273 "java/lang/IllegalStateException" xNm).filter goodWord, w ∈ wsX10_refuseDrugInUse) w hw)) (by decide +kernel) (by decide +kernel) hxs hS (hl.1.trans hml.symm) dX10_refuseDrugInUse_45 dX10_refuseDrugInUse_48 dX10_refuseDrugInUse_49 dX10_refuseDrugInUse_52 dX10_refuseDrugInUse_55 hEx (Nat.le_of_ble_eq_true rfl) (Nat.le_of_ble_eq_true rfl) (Nat.le_of_ble_eq_true rfl) (Nat.le_of_ble_eq_true rfl) (Nat.le_of_ble_eq_true rfl) (Nat.le_of_ble_eq_true rfl) hlocks hK hf_42 hW
        · have hf_42 := hf_23.trans (if_pos c_42)
          exact xx_throwW (X := "java/lang/IllegalStateException") (text := "a channel has this drug") (ik := 269) (is := 271) (ic := 273) hx hb hl9 hown (by decide) (by decide) (by decide +kernel) (hts (.classLink RX10 269 "java/lang/IllegalStateException") (by decide +kernel)) (hts (.initialized "java/lang/IllegalStateException") (by decide +kernel)) (fun w hw => hts w ((by decide +kernel : ∀ w ∈ (vx_atS RX10 273 "java/lang/IllegalStateException" xNm).filter goodWord, w ∈ wsX10_refuseDrugInUse) w hw)) (by decide +kernel) (by decide +kernel) hxs hS (hl.1.trans hml.symm) dX10_refuseDrugInUse_45 dX10_refuseDrugInUse_48 dX10_refuseDrugInUse_49 dX10_refuseDrugInUse_52 dX10_refuseDrugInUse_55 hEx (Nat.le_of_ble_eq_true rfl) (Nat.le_of_ble_eq_true rfl) (Nat.le_of_ble_eq_true rfl) (Nat.le_of_ble_eq_true rfl) (Nat.le_of_ble_eq_true rfl) (Nat.le_of_ble_eq_true rfl) hlocks hK hf_42 hW
    · have hf_42 := hf_23.trans (if_pos c_42)
      exact xx_throwW (X := "java/lang/IllegalStateException") (text := "a channel has this drug") (ik := 269) (is := 271) (ic := 273) hx hb hl9 hown (by decide) (by decide) (by decide +kernel) (hts (.classLink RX10 269 "java/lang/IllegalStateException") (by decide +kernel)) (hts (.initialized "java/lang/IllegalStateException") (by decide +kernel)) (fun w hw => hts w ((by decide +kernel : ∀ w ∈ (vx_atS RX10 273 "java/lang/IllegalStateException" xNm).filter goodWord, w ∈ wsX10_refuseDrugInUse) w hw)) (by decide +kernel) (by decide +kernel) hxs hS (hl.1.trans hml.symm) dX10_refuseDrugInUse_45 dX10_refuseDrugInUse_48 dX10_refuseDrugInUse_49 dX10_refuseDrugInUse_52 dX10_refuseDrugInUse_55 hEx (Nat.le_of_ble_eq_true rfl) (Nat.le_of_ble_eq_true rfl) (Nat.le_of_ble_eq_true rfl) (Nat.le_of_ble_eq_true rfl) (Nat.le_of_ble_eq_true rfl) (Nat.le_of_ble_eq_true rfl) hlocks hK hf_42 hW

theorem pureX10_refuseDrugInUse {p1 : Int32} {x : PS} : (fX10_refuseDrugInUse p1 x).2.1 = x := by
  unfold fX10_refuseDrugInUse
  (repeat' split) <;> rfl

def fX10_flow (p1 : Int32) (p2 : Int32) (x : PS) : Nat × PS × Int32 := if (fX10_channelAt p1 x).1 = 0 then (if p2 < 0 then ((xcode "java/lang/IllegalArgumentException", x, 0)) else (if p2 ≤ 1000 then ((0, (tC x p1.toNatClampNeg 9 1 (p2)), x.2.2.1 p1.toNatClampNeg 9 1)) else ((xcode "java/lang/IllegalArgumentException", x, 0)))) else ((fX10_channelAt p1 x).1, (fX10_channelAt p1 x).2.1, 0)
set_option maxHeartbeats 4000000 in
set_option maxRecDepth 100000 in
theorem mX10_flow (l : Launch) (hl9 : l.stackTraces = false) (E : eE) (bb sz : Nat) (x : PS) (p1 : Int32) (p2 : Int32) : vx_Met l yX10_flow wsX10_flow ({ frames := 7, cells := 2, slots := 12, locals := 111 }) (xPre E bb sz (pw E bb x) [.ref (bb + 0), .int (p1), .int (p2)]) (xQi E (pw E bb) (fX10_flow p1 p2 x) (xA bb sz)) (xX E (pw E bb) (fX10_flow p1 p2 x) (xA bb sz)) 2 12 (xA bb sz) := by
  refine vx_ofW (cc := cX10_flow) (maxL := 5) (ret := (some .int)) (by decide) rfl ?_
  intro p e s m args below meth c s₁ B hml hEx hv
  obtain ⟨rfl, hsz, hW, hK, hxs⟩ := hv
  subst hsz
  have hx := B.exec
  have hb := B.bytes
  have hr := B.returns
  have hts := atoms_spec (ws := wsX10_flow) B.pre
  have hown : s.vm.findClass RX10 = some m.cls := findClass_of_methodNamed B.named
  have hlocks := B.notSynchronized
  have i1 : ∀ w ∈ wsX10, w ∈ wsX10_flow := by decide +kernel
  have i6 : ∀ w ∈ wsX60, w ∈ wsX10_flow := by decide +kernel
  have kl125 := hts (.fieldLink RX10 125 "DosePump$Channel" "line" "LDosePump$Line;") (by decide +kernel)
  have kl131 := hts (.fieldLink RX10 131 "DosePump$Line" "flow" "I") (by decide +kernel)
  have hS : va_S (xA bb s.heap.size) s.heap s.heap [] := va_S.rf
  have hl := lv_entry ([.ref (bb + 0), .int (p1), .int (p2)]) (n := 5) (Nat.le_of_ble_eq_true rfl)
  rw [lg_entry_eq]
  generalize (lg_sl ([.ref (bb + 0), .int (p1), .int (p2)]) ++ List.replicate (5 - (lg_sl ([.ref (bb + 0), .int (p1), .int (p2)])).length) Slot.unset).toArray = ls at hl ⊢
  have hl : lv_has ls 5 [(0, .ref (bb + 0)), (1, .int (p1)), (2, .int (p2))] := hl
  have hf : fX10_flow p1 p2 x = (if (fX10_channelAt p1 x).1 = 0 then (if p2 < 0 then ((xcode "java/lang/IllegalArgumentException", x, 0)) else (if p2 ≤ 1000 then ((0, (tC x p1.toNatClampNeg 9 1 (p2)), x.2.2.1 p1.toNatClampNeg 9 1)) else ((xcode "java/lang/IllegalArgumentException", x, 0)))) else ((fX10_channelAt p1 x).1, (fX10_channelAt p1 x).2.1, 0)) := rfl
  refine lv_aload_n hx hb dX10_flow_0 rfl (lv_at hl 0 rfl) ?_
  refine lv_iload_n hx hb dX10_flow_1 rfl (lv_at hl 1 rfl) ?_
  refine xx_cr (rest := []) ⟨hx, hb, hml, hown, hts⟩ (mX10_channelAt l hl9 E bb _ x p1) (cwV 1 hts gX10_flow_X10_channelAt rfl rfl rfl (by decide +kernel) ⟨Nat.le_of_ble_eq_true rfl, Nat.le_of_ble_eq_true rfl⟩) hW hK hxs (fx_recv hK (pw_P (o := 0) hW (by decide)) rfl) rfl hl.1 rfl (Nat.le_of_ble_eq_true rfl) dX10_flow_2 ⟨Nat.le_of_ble_eq_true rfl, Nat.le_of_ble_eq_true rfl⟩ hS hEx hlocks (Nat.le_of_ble_eq_true rfl) (Nat.le_of_ble_eq_true rfl) (fun h9 => hf.trans (if_neg h9)) (fun u1 r1 H locs z1 e1 e1r hW hS => ?_)
  have hf_2 := hf.trans (if_pos z1)
  have e1 : x = u1 := (pureX10_channelAt).symm.trans e1
  subst e1
  have e1r : p1 = r1 := (ansX10_channelAt z1).symm.trans e1r
  subst e1r
  have hin1 := inX10_channelAt z1
  refine fx_get (ci := 1) (v := .ref (bb + 21 + 14 * p1.toNatClampNeg + 9)) hx hb hts i1 hown hK (pw_C (n := p1.toNatClampNeg) (o := 0) hW (vj_lt hin1) (by decide)) rfl 4 (by decide) kl125 rfl dX10_flow_5 ?_
  refine lv_astore_n (lv' := [(3, .ref (bb + 21 + 14 * p1.toNatClampNeg + 9)), (0, .ref (bb + 0)), (1, .int (p1)), (2, .int (p2))]) hx hb dX10_flow_8 rfl hl (by decide) rfl (fun ls hl => ?_)
  refine lv_iload_n hx hb dX10_flow_9 rfl (lv_at hl 3 rfl) ?_
  refine lv_if_lt (tgt := 20) hx hb dX10_flow_10 (by decide) (fun c_10 => ?_) (fun c_10 => ?_)
  · have hf_10 := hf_2.trans (if_pos c_10)
    exact xx_throw (X := "java/lang/IllegalArgumentException") (text := "flow") (ik := 48) (is := 129) (ic := 52) hx hb hl9 hown (by decide) (by decide) (by decide +kernel) (hts (.classLink RX10 48 "java/lang/IllegalArgumentException") (by decide +kernel)) (hts (.initialized "java/lang/IllegalArgumentException") (by decide +kernel)) (fun w hw => hts w ((by decide +kernel : ∀ w ∈ (vx_atS RX10 52 "java/lang/IllegalArgumentException" xNm).filter goodWord, w ∈ wsX10_flow) w hw)) (by decide +kernel) (by decide +kernel) hxs hS (hl.1.trans hml.symm) dX10_flow_20 dX10_flow_23 dX10_flow_24 dX10_flow_26 dX10_flow_29 hEx (Nat.le_of_ble_eq_true rfl) (Nat.le_of_ble_eq_true rfl) (Nat.le_of_ble_eq_true rfl) (Nat.le_of_ble_eq_true rfl) (Nat.le_of_ble_eq_true rfl) (Nat.le_of_ble_eq_true rfl) hlocks hK hf_10 hW
  · have hf_10 := hf_2.trans (if_neg c_10)
    refine lv_iload_n hx hb dX10_flow_13 rfl (lv_at hl 3 rfl) ?_
    refine lv_sipush (v := 1000) hx hb dX10_flow_14 (by decide) ?_
    refine lv_icmp_le (tgt := 30) hx hb dX10_flow_17 (by decide) (fun c_17 => ?_) (fun c_17 => ?_)
    · have hf_17 := hf_10.trans (if_pos c_17)
      refine lv_aload_n hx hb dX10_flow_30 rfl (lv_at hl 0 rfl) ?_
      refine fx_get (ci := 6) (v := .int (x.2.2.1 p1.toNatClampNeg 9 1)) hx hb hts i6 hown hK (pw_C (n := p1.toNatClampNeg) (o := 9) hW (vj_lt hin1) (by decide)) rfl 1 (by decide) kl131 rfl dX10_flow_31 ?_
      refine lv_istore (lv' := [(4, .int (x.2.2.1 p1.toNatClampNeg 9 1)), (3, .ref (bb + 21 + 14 * p1.toNatClampNeg + 9)), (0, .ref (bb + 0)), (1, .int (p1)), (2, .int (p2))]) hx hb dX10_flow_34 hl (by decide) rfl (fun ls hl => ?_)
      refine lv_aload_n hx hb dX10_flow_36 rfl (lv_at hl 1 rfl) ?_
      refine lv_iload_n hx hb dX10_flow_37 rfl (lv_at hl 4 rfl) ?_
      refine fx_put (ci := 6) (v := .int (p2)) hx hb hts i6 tyX6_ok nmX6 hown hK (pw_C (n := p1.toNatClampNeg) (o := 9) hW (vj_lt hin1) (by decide)) (Or.inl (cA_C (vj_lt hin1) (by decide))) hS rfl 1 (by decide) kl131 rfl rfl rfl (Nat.le_of_ble_eq_true rfl) dX10_flow_38 (fun H locs hat hne hS => ?_)
      have hW : pw E bb (tC x p1.toNatClampNeg 9 1 (p2)) H := pw_sC (n := p1.toNatClampNeg) (o := 9) (k := 1) (v := p2) hW (vj_lt hin1) (by decide) hat hne
      refine lv_iload hx hb dX10_flow_41 (lv_at hl 0 rfl) ?_
      exact xx_iret hx hb hr rfl hlocks hK hf_17 hW hS dX10_flow_43 (Nat.le_of_ble_eq_true rfl) (Nat.le_of_ble_eq_true rfl)
    · have hf_17 := hf_10.trans (if_neg c_17)
      exact xx_throw (X := "java/lang/IllegalArgumentException") (text := "flow") (ik := 48) (is := 129) (ic := 52) hx hb hl9 hown (by decide) (by decide) (by decide +kernel) (hts (.classLink RX10 48 "java/lang/IllegalArgumentException") (by decide +kernel)) (hts (.initialized "java/lang/IllegalArgumentException") (by decide +kernel)) (fun w hw => hts w ((by decide +kernel : ∀ w ∈ (vx_atS RX10 52 "java/lang/IllegalArgumentException" xNm).filter goodWord, w ∈ wsX10_flow) w hw)) (by decide +kernel) (by decide +kernel) hxs hS (hl.1.trans hml.symm) dX10_flow_20 dX10_flow_23 dX10_flow_24 dX10_flow_26 dX10_flow_29 hEx (Nat.le_of_ble_eq_true rfl) (Nat.le_of_ble_eq_true rfl) (Nat.le_of_ble_eq_true rfl) (Nat.le_of_ble_eq_true rfl) (Nat.le_of_ble_eq_true rfl) (Nat.le_of_ble_eq_true rfl) hlocks hK hf_17 hW

def fX10_air (p1 : Int32) (p2 : Int32) (x : PS) : Nat × PS × Int32 := if (fX10_channelAt p1 x).1 = 0 then ((0, (tC x p1.toNatClampNeg 9 5 (p2)), x.2.2.1 p1.toNatClampNeg 9 5)) else ((fX10_channelAt p1 x).1, (fX10_channelAt p1 x).2.1, 0)
set_option maxHeartbeats 4000000 in
set_option maxRecDepth 100000 in
theorem mX10_air (l : Launch) (hl9 : l.stackTraces = false) (E : eE) (bb sz : Nat) (x : PS) (p1 : Int32) (p2 : Int32) (hp : p2 = 0 ∨ p2 = 1) (hbo : ∀ n, n < 3 → x.2.2.1 n 9 5 = 0 ∨ x.2.2.1 n 9 5 = 1) : vx_Met l yX10_air wsX10_air ({ frames := 7, cells := 1, slots := 6, locals := 111 }) (xPre E bb sz (pw E bb x) [.ref (bb + 0), .int (p1), .int (p2)]) (xQi E (pw E bb) (fX10_air p1 p2 x) (xA bb sz)) (xX E (pw E bb) (fX10_air p1 p2 x) (xA bb sz)) 1 6 (xA bb sz) := by
  refine vx_ofW (cc := cX10_air) (maxL := 5) (ret := (some .boolean)) (by decide) rfl ?_
  intro p e s m args below meth c s₁ B hml hEx hv
  obtain ⟨rfl, hsz, hW, hK, hxs⟩ := hv
  subst hsz
  have hx := B.exec
  have hb := B.bytes
  have hr := B.returns
  have hts := atoms_spec (ws := wsX10_air) B.pre
  have hown : s.vm.findClass RX10 = some m.cls := findClass_of_methodNamed B.named
  have hlocks := B.notSynchronized
  have i1 : ∀ w ∈ wsX10, w ∈ wsX10_air := by decide +kernel
  have i6 : ∀ w ∈ wsX60, w ∈ wsX10_air := by decide +kernel
  have kl125 := hts (.fieldLink RX10 125 "DosePump$Channel" "line" "LDosePump$Line;") (by decide +kernel)
  have kl135 := hts (.fieldLink RX10 135 "DosePump$Line" "air" "Z") (by decide +kernel)
  have hS : va_S (xA bb s.heap.size) s.heap s.heap [] := va_S.rf
  have hl := lv_entry ([.ref (bb + 0), .int (p1), .int (p2)]) (n := 5) (Nat.le_of_ble_eq_true rfl)
  rw [lg_entry_eq]
  generalize (lg_sl ([.ref (bb + 0), .int (p1), .int (p2)]) ++ List.replicate (5 - (lg_sl ([.ref (bb + 0), .int (p1), .int (p2)])).length) Slot.unset).toArray = ls at hl ⊢
  have hl : lv_has ls 5 [(0, .ref (bb + 0)), (1, .int (p1)), (2, .int (p2))] := hl
  have hf : fX10_air p1 p2 x = (if (fX10_channelAt p1 x).1 = 0 then ((0, (tC x p1.toNatClampNeg 9 5 (p2)), x.2.2.1 p1.toNatClampNeg 9 5)) else ((fX10_channelAt p1 x).1, (fX10_channelAt p1 x).2.1, 0)) := rfl
  refine lv_aload_n hx hb dX10_air_0 rfl (lv_at hl 0 rfl) ?_
  refine lv_iload_n hx hb dX10_air_1 rfl (lv_at hl 1 rfl) ?_
  refine xx_cr (rest := []) ⟨hx, hb, hml, hown, hts⟩ (mX10_channelAt l hl9 E bb _ x p1) (cwV 1 hts gX10_air_X10_channelAt rfl rfl rfl (by decide +kernel) ⟨Nat.le_of_ble_eq_true rfl, Nat.le_of_ble_eq_true rfl⟩) hW hK hxs (fx_recv hK (pw_P (o := 0) hW (by decide)) rfl) rfl hl.1 rfl (Nat.le_of_ble_eq_true rfl) dX10_air_2 ⟨Nat.le_of_ble_eq_true rfl, Nat.le_of_ble_eq_true rfl⟩ hS hEx hlocks (Nat.le_of_ble_eq_true rfl) (Nat.le_of_ble_eq_true rfl) (fun h9 => hf.trans (if_neg h9)) (fun u1 r1 H locs z1 e1 e1r hW hS => ?_)
  have hf_2 := hf.trans (if_pos z1)
  have e1 : x = u1 := (pureX10_channelAt).symm.trans e1
  subst e1
  have e1r : p1 = r1 := (ansX10_channelAt z1).symm.trans e1r
  subst e1r
  have hin1 := inX10_channelAt z1
  refine fx_get (ci := 1) (v := .ref (bb + 21 + 14 * p1.toNatClampNeg + 9)) hx hb hts i1 hown hK (pw_C (n := p1.toNatClampNeg) (o := 0) hW (vj_lt hin1) (by decide)) rfl 4 (by decide) kl125 rfl dX10_air_5 ?_
  refine lv_astore_n (lv' := [(3, .ref (bb + 21 + 14 * p1.toNatClampNeg + 9)), (0, .ref (bb + 0)), (1, .int (p1)), (2, .int (p2))]) hx hb dX10_air_8 rfl hl (by decide) rfl (fun ls hl => ?_)
  refine lv_aload_n hx hb dX10_air_9 rfl (lv_at hl 0 rfl) ?_
  refine fx_get (ci := 6) (v := .int (x.2.2.1 p1.toNatClampNeg 9 5)) hx hb hts i6 hown hK (pw_C (n := p1.toNatClampNeg) (o := 9) hW (vj_lt hin1) (by decide)) rfl 5 (by decide) kl135 rfl dX10_air_10 ?_
  refine lv_istore (lv' := [(4, .int (x.2.2.1 p1.toNatClampNeg 9 5)), (3, .ref (bb + 21 + 14 * p1.toNatClampNeg + 9)), (0, .ref (bb + 0)), (1, .int (p1)), (2, .int (p2))]) hx hb dX10_air_13 hl (by decide) rfl (fun ls hl => ?_)
  refine lv_aload_n hx hb dX10_air_15 rfl (lv_at hl 1 rfl) ?_
  refine lv_iload_n hx hb dX10_air_16 rfl (lv_at hl 4 rfl) ?_
  refine fx_put (ci := 6) (v := .int (p2)) hx hb hts i6 tyX6_ok nmX6 hown hK (pw_C (n := p1.toNatClampNeg) (o := 9) hW (vj_lt hin1) (by decide)) (Or.inl (cA_C (vj_lt hin1) (by decide))) hS rfl 5 (by decide) kl135 rfl (nar_bo2 hp) (fit_bo2 hp) (Nat.le_of_ble_eq_true rfl) dX10_air_17 (fun H locs hat hne hS => ?_)
  have hW : pw E bb (tC x p1.toNatClampNeg 9 5 (p2)) H := pw_sC (n := p1.toNatClampNeg) (o := 9) (k := 5) (v := p2) hW (vj_lt hin1) (by decide) hat hne
  refine lv_iload hx hb dX10_air_20 (lv_at hl 0 rfl) ?_
  exact xx_iret hx hb hr (nar_bo2 (hbo _ (vj_lt hin1))) hlocks hK hf_2 hW hS dX10_air_22 (Nat.le_of_ble_eq_true rfl) (Nat.le_of_ble_eq_true rfl)

def fX10_door (p1 : Int32) (p2 : Int32) (x : PS) : Nat × PS × Int32 := if (fX10_channelAt p1 x).1 = 0 then (if p2 = 0 then ((0, (tC x p1.toNatClampNeg 9 6 (p2)), x.2.2.1 p1.toNatClampNeg 9 6)) else (if ((tC x p1.toNatClampNeg 9 6 (p2)).2.2.1 p1.toNatClampNeg 0 6) = 7 then ((0, (put (tC x p1.toNatClampNeg 9 6 (p2)) p1.toNatClampNeg (fX10_latch p1.toNatClampNeg 2 (foc (tC x p1.toNatClampNeg 9 6 (p2)) p1.toNatClampNeg))), x.2.2.1 p1.toNatClampNeg 9 6)) else ((0, (tC x p1.toNatClampNeg 9 6 (p2)), x.2.2.1 p1.toNatClampNeg 9 6)))) else ((fX10_channelAt p1 x).1, (fX10_channelAt p1 x).2.1, 0)
set_option maxHeartbeats 4000000 in
set_option maxRecDepth 100000 in
theorem mX10_door (l : Launch) (hl9 : l.stackTraces = false) (E : eE) (bb sz : Nat) (x : PS) (p1 : Int32) (p2 : Int32) (hp : p2 = 0 ∨ p2 = 1) (hbo : ∀ n, n < 3 → x.2.2.1 n 9 6 = 0 ∨ x.2.2.1 n 9 6 = 1) : vx_Met l yX10_door wsX10_door ({ frames := 7, cells := 1, slots := 6, locals := 111 }) (xPre E bb sz (pw E bb x) [.ref (bb + 0), .int (p1), .int (p2)]) (xQi E (pw E bb) (fX10_door p1 p2 x) (xA bb sz)) (xX E (pw E bb) (fX10_door p1 p2 x) (xA bb sz)) 1 6 (xA bb sz) := by
  refine vx_ofW (cc := cX10_door) (maxL := 5) (ret := (some .boolean)) (by decide) rfl ?_
  intro p e s m args below meth c s₁ B hml hEx hv
  obtain ⟨rfl, hsz, hW, hK, hxs⟩ := hv
  subst hsz
  have hx := B.exec
  have hb := B.bytes
  have hr := B.returns
  have hts := atoms_spec (ws := wsX10_door) B.pre
  have hown : s.vm.findClass RX10 = some m.cls := findClass_of_methodNamed B.named
  have hlocks := B.notSynchronized
  have i1 : ∀ w ∈ wsX10, w ∈ wsX10_door := by decide +kernel
  have i6 : ∀ w ∈ wsX60, w ∈ wsX10_door := by decide +kernel
  have kl125 := hts (.fieldLink RX10 125 "DosePump$Channel" "line" "LDosePump$Line;") (by decide +kernel)
  have kl138 := hts (.fieldLink RX10 138 "DosePump$Line" "open" "Z") (by decide +kernel)
  have kl141 := hts (.fieldLink RX10 141 "DosePump$Channel" "phase" "I") (by decide +kernel)
  have hS : va_S (xA bb s.heap.size) s.heap s.heap [] := va_S.rf
  have hl := lv_entry ([.ref (bb + 0), .int (p1), .int (p2)]) (n := 5) (Nat.le_of_ble_eq_true rfl)
  rw [lg_entry_eq]
  generalize (lg_sl ([.ref (bb + 0), .int (p1), .int (p2)]) ++ List.replicate (5 - (lg_sl ([.ref (bb + 0), .int (p1), .int (p2)])).length) Slot.unset).toArray = ls at hl ⊢
  have hl : lv_has ls 5 [(0, .ref (bb + 0)), (1, .int (p1)), (2, .int (p2))] := hl
  have hf : fX10_door p1 p2 x = (if (fX10_channelAt p1 x).1 = 0 then (if p2 = 0 then ((0, (tC x p1.toNatClampNeg 9 6 (p2)), x.2.2.1 p1.toNatClampNeg 9 6)) else (if ((tC x p1.toNatClampNeg 9 6 (p2)).2.2.1 p1.toNatClampNeg 0 6) = 7 then ((0, (put (tC x p1.toNatClampNeg 9 6 (p2)) p1.toNatClampNeg (fX10_latch p1.toNatClampNeg 2 (foc (tC x p1.toNatClampNeg 9 6 (p2)) p1.toNatClampNeg))), x.2.2.1 p1.toNatClampNeg 9 6)) else ((0, (tC x p1.toNatClampNeg 9 6 (p2)), x.2.2.1 p1.toNatClampNeg 9 6)))) else ((fX10_channelAt p1 x).1, (fX10_channelAt p1 x).2.1, 0)) := rfl
  refine lv_aload_n hx hb dX10_door_0 rfl (lv_at hl 0 rfl) ?_
  refine lv_iload_n hx hb dX10_door_1 rfl (lv_at hl 1 rfl) ?_
  refine xx_cr (rest := []) ⟨hx, hb, hml, hown, hts⟩ (mX10_channelAt l hl9 E bb _ x p1) (cwV 1 hts gX10_door_X10_channelAt rfl rfl rfl (by decide +kernel) ⟨Nat.le_of_ble_eq_true rfl, Nat.le_of_ble_eq_true rfl⟩) hW hK hxs (fx_recv hK (pw_P (o := 0) hW (by decide)) rfl) rfl hl.1 rfl (Nat.le_of_ble_eq_true rfl) dX10_door_2 ⟨Nat.le_of_ble_eq_true rfl, Nat.le_of_ble_eq_true rfl⟩ hS hEx hlocks (Nat.le_of_ble_eq_true rfl) (Nat.le_of_ble_eq_true rfl) (fun h9 => hf.trans (if_neg h9)) (fun u1 r1 H locs z1 e1 e1r hW hS => ?_)
  have hf_2 := hf.trans (if_pos z1)
  have e1 : x = u1 := (pureX10_channelAt).symm.trans e1
  subst e1
  have e1r : p1 = r1 := (ansX10_channelAt z1).symm.trans e1r
  subst e1r
  have hin1 := inX10_channelAt z1
  refine lv_astore_n (lv' := [(3, .ref (bb + 21 + 14 * p1.toNatClampNeg + 0)), (0, .ref (bb + 0)), (1, .int (p1)), (2, .int (p2))]) hx hb dX10_door_5 rfl hl (by decide) rfl (fun ls hl => ?_)
  refine lv_aload_n hx hb dX10_door_6 rfl (lv_at hl 0 rfl) ?_
  refine fx_get (ci := 1) (v := .ref (bb + 21 + 14 * p1.toNatClampNeg + 9)) hx hb hts i1 hown hK (pw_C (n := p1.toNatClampNeg) (o := 0) hW (vj_lt hin1) (by decide)) rfl 4 (by decide) kl125 rfl dX10_door_7 ?_
  refine fx_get (ci := 6) (v := .int (x.2.2.1 p1.toNatClampNeg 9 6)) hx hb hts i6 hown hK (pw_C (n := p1.toNatClampNeg) (o := 9) hW (vj_lt hin1) (by decide)) rfl 6 (by decide) kl138 rfl dX10_door_10 ?_
  refine lv_istore (lv' := [(4, .int (x.2.2.1 p1.toNatClampNeg 9 6)), (3, .ref (bb + 21 + 14 * p1.toNatClampNeg + 0)), (0, .ref (bb + 0)), (1, .int (p1)), (2, .int (p2))]) hx hb dX10_door_13 hl (by decide) rfl (fun ls hl => ?_)
  refine lv_aload_n hx hb dX10_door_15 rfl (lv_at hl 1 rfl) ?_
  refine fx_get (ci := 1) (v := .ref (bb + 21 + 14 * p1.toNatClampNeg + 9)) hx hb hts i1 hown hK (pw_C (n := p1.toNatClampNeg) (o := 0) hW (vj_lt hin1) (by decide)) rfl 4 (by decide) kl125 rfl dX10_door_16 ?_
  refine lv_iload_n hx hb dX10_door_19 rfl (lv_at hl 4 rfl) ?_
  refine fx_put (ci := 6) (v := .int (p2)) hx hb hts i6 tyX6_ok nmX6 hown hK (pw_C (n := p1.toNatClampNeg) (o := 9) hW (vj_lt hin1) (by decide)) (Or.inl (cA_C (vj_lt hin1) (by decide))) hS rfl 6 (by decide) kl138 rfl (nar_bo2 hp) (fit_bo2 hp) (Nat.le_of_ble_eq_true rfl) dX10_door_20 (fun H locs hat hne hS => ?_)
  have hW : pw E bb (tC x p1.toNatClampNeg 9 6 (p2)) H := pw_sC (n := p1.toNatClampNeg) (o := 9) (k := 6) (v := p2) hW (vj_lt hin1) (by decide) hat hne
  refine lv_iload_n hx hb dX10_door_23 rfl (lv_at hl 4 rfl) ?_
  refine lv_if_eq (tgt := 42) hx hb dX10_door_24 (by decide) (fun c_24 => ?_) (fun c_24 => ?_)
  · have hf_24 := hf_2.trans (if_pos c_24)
    refine lv_iload hx hb dX10_door_42 (lv_at hl 0 rfl) ?_
    exact xx_iret hx hb hr (nar_bo2 (hbo _ (vj_lt hin1))) hlocks hK hf_24 hW hS dX10_door_44 (Nat.le_of_ble_eq_true rfl) (Nat.le_of_ble_eq_true rfl)
  · have hf_24 := hf_2.trans (if_neg c_24)
    refine lv_aload_n hx hb dX10_door_27 rfl (lv_at hl 1 rfl) ?_
    refine fx_get (ci := 1) (v := .int ((tC x p1.toNatClampNeg 9 6 (p2)).2.2.1 p1.toNatClampNeg 0 6)) hx hb hts i1 hown hK (pw_C (n := p1.toNatClampNeg) (o := 0) hW (vj_lt hin1) (by decide)) rfl 6 (by decide) kl141 rfl dX10_door_28 ?_
    refine lv_bipush (v := 7) hx hb dX10_door_31 (by decide) ?_
    refine lv_icmp_ne (tgt := 42) hx hb dX10_door_33 (by decide) (fun c_33 => ?_) (fun c_33 => ?_)
    · have hf_33 := hf_24.trans (if_neg c_33)
      refine lv_iload hx hb dX10_door_42 (lv_at hl 0 rfl) ?_
      exact xx_iret hx hb hr (nar_bo2 (hbo _ (vj_lt hin1))) hlocks hK hf_33 hW hS dX10_door_44 (Nat.le_of_ble_eq_true rfl) (Nat.le_of_ble_eq_true rfl)
    · have hf_33 := hf_24.trans (if_pos c_33)
      refine lv_aload_n hx hb dX10_door_36 rfl (lv_at hl 2 rfl) ?_
      refine lv_aload_n hx hb dX10_door_37 rfl (lv_at hl 1 rfl) ?_
      refine lv_iconst (v := 2) hx hb dX10_door_38 (by decide) ?_
      refine gx_v (rest := []) ⟨hx, hb, hml, hown, hts⟩ (mX10_latch l E bb (tC x p1.toNatClampNeg 9 6 (p2)).2.1 (tC x p1.toNatClampNeg 9 6 (p2)).2.2.1 p1.toNatClampNeg (vj_lt hin1) (foc (tC x p1.toNatClampNeg 9 6 (p2)) p1.toNatClampNeg) 2) (cwV 2 hts gX10_door_X10_latch rfl rfl rfl (by decide +kernel) ⟨Nat.le_of_ble_eq_true rfl, Nat.le_of_ble_eq_true rfl⟩) (pw_foc hW) hK (fx_recv hK (pw_P (o := 0) hW (by decide)) rfl) rfl hl.1 rfl (Nat.le_of_ble_eq_true rfl) dX10_door_39 ⟨Nat.le_of_ble_eq_true rfl, Nat.le_of_ble_eq_true rfl⟩ hS (fun _ h => Or.inl h) (fun u2 H locs e2 hW9 hS => ?_)
      have hW : pw E bb (put (tC x p1.toNatClampNeg 9 6 (p2)) p1.toNatClampNeg u2) H := hW9
      have e2 : fX10_latch p1.toNatClampNeg 2 (foc (tC x p1.toNatClampNeg 9 6 (p2)) p1.toNatClampNeg) = u2 := e2
      try rw [e2] at hf_33
      refine lv_iload hx hb dX10_door_42 (lv_at hl 0 rfl) ?_
      exact xx_iret hx hb hr (nar_bo2 (hbo _ (vj_lt hin1))) hlocks hK hf_33 hW hS dX10_door_44 (Nat.le_of_ble_eq_true rfl) (Nat.le_of_ble_eq_true rfl)

def fX10_about (p1 : Int32) (x : PS) : Nat × PS × Int32 := if p1 = 0 then ((0, x, x.1 0 3)) else if p1 = 1 then ((0, x, x.1 0 4)) else if p1 = 2 then ((0, x, x.1 0 6)) else if p1 = 3 then (if (fX10_isSounding x) = 0 then ((0, x, 0)) else ((0, x, 1))) else if p1 = 4 then ((0, x, x.1 3 1)) else ((xcode "java/lang/IndexOutOfBoundsException", x, 0))
set_option maxHeartbeats 4000000 in
set_option maxRecDepth 100000 in
theorem mX10_about (l : Launch) (hl9 : l.stackTraces = false) (E : eE) (bb sz : Nat) (x : PS) (p1 : Int32) : vx_Met l yX10_about wsX10_about ({ frames := 6, cells := 1, slots := 6, locals := 90 }) (xPre E bb sz (pw E bb x) [.ref (bb + 0), .int (p1)]) (xQi E (pw E bb) (fX10_about p1 x) (xA bb sz)) (xX E (pw E bb) (fX10_about p1 x) (xA bb sz)) 1 6 (xA bb sz) := by
  refine vx_ofW (cc := cX10_about) (maxL := 2) (ret := (some .int)) (by decide) rfl ?_
  intro p e s m args below meth c s₁ B hml hEx hv
  obtain ⟨rfl, hsz, hW, hK, hxs⟩ := hv
  subst hsz
  have hx := B.exec
  have hb := B.bytes
  have hr := B.returns
  have hts := atoms_spec (ws := wsX10_about) B.pre
  have hown : s.vm.findClass RX10 = some m.cls := findClass_of_methodNamed B.named
  have hlocks := B.notSynchronized
  have i5 : ∀ w ∈ wsX50, w ∈ wsX10_about := by decide +kernel
  have i10 : ∀ w ∈ wsX100, w ∈ wsX10_about := by decide +kernel
  have kl24 := hts (.fieldLink RX10 24 "DosePump" "journal" "LDosePump$Journal;") (by decide +kernel)
  have kl29 := hts (.fieldLink RX10 29 "DosePump" "charge" "I") (by decide +kernel)
  have kl95 := hts (.fieldLink RX10 95 "DosePump" "chosen" "I") (by decide +kernel)
  have kl148 := hts (.fieldLink RX10 148 "DosePump" "time" "I") (by decide +kernel)
  have kl155 := hts (.fieldLink RX10 155 "DosePump$Journal" "count" "I") (by decide +kernel)
  have hS : va_S (xA bb s.heap.size) s.heap s.heap [] := va_S.rf
  have hl := lv_entry ([.ref (bb + 0), .int (p1)]) (n := 2) (Nat.le_of_ble_eq_true rfl)
  rw [lg_entry_eq]
  generalize (lg_sl ([.ref (bb + 0), .int (p1)]) ++ List.replicate (2 - (lg_sl ([.ref (bb + 0), .int (p1)])).length) Slot.unset).toArray = ls at hl ⊢
  have hl : lv_has ls 2 [(0, .ref (bb + 0)), (1, .int (p1))] := hl
  have hf : fX10_about p1 x = (if p1 = 0 then ((0, x, x.1 0 3)) else if p1 = 1 then ((0, x, x.1 0 4)) else if p1 = 2 then ((0, x, x.1 0 6)) else if p1 = 3 then (if (fX10_isSounding x) = 0 then ((0, x, 0)) else ((0, x, 1))) else if p1 = 4 then ((0, x, x.1 3 1)) else ((xcode "java/lang/IndexOutOfBoundsException", x, 0))) := rfl
  refine lv_iload_n hx hb dX10_about_0 rfl (lv_at hl 1 rfl) ?_
  by_cases c_1_0 : p1 = 0
  · have hf_1_0 := hf.trans (if_pos c_1_0)
    refine gx_tab (tgt := 36) hx hb c_1_0 dX10_about_1 (by decide) (by decide) rfl (by decide) ?_
    refine lv_aload_n hx hb dX10_about_36 rfl (lv_at hl 0 rfl) ?_
    refine fx_get (ci := 10) (v := .int (x.1 0 3)) hx hb hts i10 hown hK (pw_P (o := 0) hW (by decide)) rfl 3 (by decide) kl148 rfl dX10_about_37 ?_
    exact xx_iret hx hb hr rfl hlocks hK hf_1_0 hW hS dX10_about_40 (Nat.le_of_ble_eq_true rfl) (Nat.le_of_ble_eq_true rfl)
  have hn_1_0 := hf.trans (if_neg c_1_0)
  by_cases c_1_1 : p1 = 1
  · have hf_1_1 := hn_1_0.trans (if_pos c_1_1)
    refine gx_tab (tgt := 41) hx hb c_1_1 dX10_about_1 (by decide) (by decide) rfl (by decide) ?_
    refine lv_aload_n hx hb dX10_about_41 rfl (lv_at hl 0 rfl) ?_
    refine fx_get (ci := 10) (v := .int (x.1 0 4)) hx hb hts i10 hown hK (pw_P (o := 0) hW (by decide)) rfl 4 (by decide) kl29 rfl dX10_about_42 ?_
    exact xx_iret hx hb hr rfl hlocks hK hf_1_1 hW hS dX10_about_45 (Nat.le_of_ble_eq_true rfl) (Nat.le_of_ble_eq_true rfl)
  have hn_1_1 := hn_1_0.trans (if_neg c_1_1)
  by_cases c_1_2 : p1 = 2
  · have hf_1_2 := hn_1_1.trans (if_pos c_1_2)
    refine gx_tab (tgt := 46) hx hb c_1_2 dX10_about_1 (by decide) (by decide) rfl (by decide) ?_
    refine lv_aload_n hx hb dX10_about_46 rfl (lv_at hl 0 rfl) ?_
    refine fx_get (ci := 10) (v := .int (x.1 0 6)) hx hb hts i10 hown hK (pw_P (o := 0) hW (by decide)) rfl 6 (by decide) kl95 rfl dX10_about_47 ?_
    exact xx_iret hx hb hr rfl hlocks hK hf_1_2 hW hS dX10_about_50 (Nat.le_of_ble_eq_true rfl) (Nat.le_of_ble_eq_true rfl)
  have hn_1_2 := hn_1_1.trans (if_neg c_1_2)
  by_cases c_1_3 : p1 = 3
  · have hf_1_3 := hn_1_2.trans (if_pos c_1_3)
    refine gx_tab (tgt := 51) hx hb c_1_3 dX10_about_1 (by decide) (by decide) rfl (by decide) ?_
    refine lv_aload_n hx hb dX10_about_51 rfl (lv_at hl 0 rfl) ?_
    refine gx_i (rest := []) ⟨hx, hb, hml, hown, hts⟩ (mX10_isSounding l E bb x) (cwV 0 hts gX10_about_X10_isSounding rfl rfl rfl (by decide +kernel) ⟨Nat.le_of_ble_eq_true rfl, Nat.le_of_ble_eq_true rfl⟩) hW hK (fx_recv hK (pw_P (o := 0) hW (by decide)) rfl) rfl hl.1 rfl (Nat.le_of_ble_eq_true rfl) dX10_about_52 ⟨Nat.le_of_ble_eq_true rfl, Nat.le_of_ble_eq_true rfl⟩ hS (fun _ h => Or.inl h) (fun _ r1 H locs _ e1 hW hS => ?_)
    have e1 : fX10_isSounding x = r1 := e1
    try rw [e1] at hf_1_3
    refine lv_if_eq (tgt := 62) hx hb dX10_about_55 (by decide) (fun c_55 => ?_) (fun c_55 => ?_)
    · have hf_55 := hf_1_3.trans (if_pos c_55)
      refine lv_iconst (v := 0) hx hb dX10_about_62 (by decide) ?_
      exact xx_iret hx hb hr rfl hlocks hK hf_55 hW hS dX10_about_63 (Nat.le_of_ble_eq_true rfl) (Nat.le_of_ble_eq_true rfl)
    · have hf_55 := hf_1_3.trans (if_neg c_55)
      refine lv_iconst (v := 1) hx hb dX10_about_58 (by decide) ?_
      refine lv_goto (tgt := 63) hx hb dX10_about_59 (by decide) ?_
      exact xx_iret hx hb hr rfl hlocks hK hf_55 hW hS dX10_about_63 (Nat.le_of_ble_eq_true rfl) (Nat.le_of_ble_eq_true rfl)
  have hn_1_3 := hn_1_2.trans (if_neg c_1_3)
  by_cases c_1_4 : p1 = 4
  · have hf_1_4 := hn_1_3.trans (if_pos c_1_4)
    refine gx_tab (tgt := 64) hx hb c_1_4 dX10_about_1 (by decide) (by decide) rfl (by decide) ?_
    refine lv_aload_n hx hb dX10_about_64 rfl (lv_at hl 0 rfl) ?_
    refine fx_get (ci := 10) (v := .ref (bb + 3)) hx hb hts i10 hown hK (pw_P (o := 0) hW (by decide)) rfl 2 (by decide) kl24 rfl dX10_about_65 ?_
    refine fx_get (ci := 5) (v := .int (x.1 3 1)) hx hb hts i5 hown hK (pw_P (o := 3) hW (by decide)) rfl 1 (by decide) kl155 rfl dX10_about_68 ?_
    exact xx_iret hx hb hr rfl hlocks hK hf_1_4 hW hS dX10_about_71 (Nat.le_of_ble_eq_true rfl) (Nat.le_of_ble_eq_true rfl)
  have hn_1_4 := hn_1_3.trans (if_neg c_1_4)
  refine lv_tableOut (tgt := 72) hx hb dX10_about_1 (by have e0 := sw_ne (k := 0) 0 rfl c_1_0; have e1 := sw_ne (k := 1) 1 rfl c_1_1; have e2 := sw_ne (k := 2) 2 rfl c_1_2; have e3 := sw_ne (k := 3) 3 rfl c_1_3; have e4 := sw_ne (k := 4) 4 rfl c_1_4; omega) (by decide) ?_
  exact xx_throw (X := "java/lang/IndexOutOfBoundsException") (text := "no such what") (ik := 41) (is := 158) (ic := 45) hx hb hl9 hown (by decide) (by decide) (by decide +kernel) (hts (.classLink RX10 41 "java/lang/IndexOutOfBoundsException") (by decide +kernel)) (hts (.initialized "java/lang/IndexOutOfBoundsException") (by decide +kernel)) (fun w hw => hts w ((by decide +kernel : ∀ w ∈ (vx_atS RX10 45 "java/lang/IndexOutOfBoundsException" xNm).filter goodWord, w ∈ wsX10_about) w hw)) (by decide +kernel) (by decide +kernel) hxs hS (hl.1.trans hml.symm) dX10_about_72 dX10_about_75 dX10_about_76 dX10_about_78 dX10_about_81 hEx (Nat.le_of_ble_eq_true rfl) (Nat.le_of_ble_eq_true rfl) (Nat.le_of_ble_eq_true rfl) (Nat.le_of_ble_eq_true rfl) (Nat.le_of_ble_eq_true rfl) (Nat.le_of_ble_eq_true rfl) hlocks hK hn_1_4 hW

def fX10_channel (p1 : Int32) (p2 : Int32) (x : PS) : Nat × PS × Int32 := if (fX10_channelAt p1 x).1 = 0 then (if p2 = 0 then ((0, x, x.2.2.1 p1.toNatClampNeg 0 6)) else if p2 = 1 then ((0, x, x.2.2.1 p1.toNatClampNeg 0 7)) else if p2 = 2 then ((0, x, x.2.2.1 p1.toNatClampNeg 4 1)) else if p2 = 3 then ((0, x, x.2.2.1 p1.toNatClampNeg 4 2)) else if p2 = 4 then ((0, x, x.2.2.1 p1.toNatClampNeg 4 3)) else if p2 = 5 then ((0, x, x.2.2.1 p1.toNatClampNeg 4 4)) else if p2 = 6 then ((0, x, x.2.2.1 p1.toNatClampNeg 6 2)) else if p2 = 7 then ((0, x, x.2.2.1 p1.toNatClampNeg 12 2)) else if p2 = 8 then ((0, x, x.2.2.1 p1.toNatClampNeg 9 2)) else if p2 = 9 then ((0, x, x.2.2.1 p1.toNatClampNeg 9 4)) else if p2 = 10 then ((0, x, x.2.2.1 p1.toNatClampNeg 10 3)) else if p2 = 11 then (if (x.2.2.1 p1.toNatClampNeg 0 9) = 0 then ((0, x, 0)) else ((0, x, 1))) else if p2 = 12 then ((0, x, x.2.2.1 p1.toNatClampNeg 7 3)) else if p2 = 13 then ((0, x, dNum (x.2.2.1 p1.toNatClampNeg 4 0).toNatClampNeg)) else if p2 = 14 then ((0, x, x.2.2.1 p1.toNatClampNeg 0 8)) else ((xcode "java/lang/IndexOutOfBoundsException", x, 0))) else ((fX10_channelAt p1 x).1, (fX10_channelAt p1 x).2.1, 0)
set_option maxHeartbeats 4000000 in
set_option maxRecDepth 100000 in
theorem mX10_channel (l : Launch) (hl9 : l.stackTraces = false) (E : eE) (bb sz : Nat) (x : PS) (p1 : Int32) (p2 : Int32) (hok : okP x) : vx_Met l yX10_channel wsX10_channel ({ frames := 7, cells := 2, slots := 12, locals := 111 }) (xPre E bb sz (pw E bb x) [.ref (bb + 0), .int (p1), .int (p2)]) (xQi E (pw E bb) (fX10_channel p1 p2 x) (xA bb sz)) (xX E (pw E bb) (fX10_channel p1 p2 x) (xA bb sz)) 2 12 (xA bb sz) := by
  refine vx_ofW (cc := cX10_channel) (maxL := 4) (ret := (some .int)) (by decide) rfl ?_
  intro p e s m args below meth c s₁ B hml hEx hv
  obtain ⟨rfl, hsz, hW, hK, hxs⟩ := hv
  subst hsz
  have hx := B.exec
  have hb := B.bytes
  have hr := B.returns
  have hts := atoms_spec (ws := wsX10_channel) B.pre
  have hown : s.vm.findClass RX10 = some m.cls := findClass_of_methodNamed B.named
  have hlocks := B.notSynchronized
  have i0 : ∀ w ∈ wsX00, w ∈ wsX10_channel := by decide +kernel
  have i1 : ∀ w ∈ wsX10, w ∈ wsX10_channel := by decide +kernel
  have i2 : ∀ w ∈ wsX20, w ∈ wsX10_channel := by decide +kernel
  have i4 : ∀ w ∈ wsX40, w ∈ wsX10_channel := by decide +kernel
  have i6 : ∀ w ∈ wsX60, w ∈ wsX10_channel := by decide +kernel
  have i7 : ∀ w ∈ wsX70, w ∈ wsX10_channel := by decide +kernel
  have i8 : ∀ w ∈ wsX80, w ∈ wsX10_channel := by decide +kernel
  have kl125 := hts (.fieldLink RX10 125 "DosePump$Channel" "line" "LDosePump$Line;") (by decide +kernel)
  have kl141 := hts (.fieldLink RX10 141 "DosePump$Channel" "phase" "I") (by decide +kernel)
  have kl160 := hts (.fieldLink RX10 160 "DosePump$Channel" "alarms" "I") (by decide +kernel)
  have kl163 := hts (.fieldLink RX10 163 "DosePump$Channel" "program" "LDosePump$Program;") (by decide +kernel)
  have kl167 := hts (.fieldLink RX10 167 "DosePump$Program" "rate" "I") (by decide +kernel)
  have kl172 := hts (.fieldLink RX10 172 "DosePump$Program" "left" "I") (by decide +kernel)
  have kl175 := hts (.fieldLink RX10 175 "DosePump$Program" "made" "I") (by decide +kernel)
  have kl178 := hts (.fieldLink RX10 178 "DosePump$Program" "debt" "I") (by decide +kernel)
  have kl181 := hts (.fieldLink RX10 181 "DosePump$Channel" "boluses" "LDosePump$Boluses;") (by decide +kernel)
  have kl185 := hts (.fieldLink RX10 185 "DosePump$Boluses" "left" "I") (by decide +kernel)
  have kl188 := hts (.fieldLink RX10 188 "DosePump$Channel" "hour" "LDosePump$HourOfStrokes;") (by decide +kernel)
  have kl192 := hts (.fieldLink RX10 192 "DosePump$HourOfStrokes" "sum" "I") (by decide +kernel)
  have kl197 := hts (.fieldLink RX10 197 "DosePump$Line" "pressure" "I") (by decide +kernel)
  have kl200 := hts (.fieldLink RX10 200 "DosePump$Line" "bubble" "I") (by decide +kernel)
  have kl203 := hts (.fieldLink RX10 203 "DosePump$Line" "airStrokes" "LDosePump$Recent;") (by decide +kernel)
  have kl207 := hts (.fieldLink RX10 207 "DosePump$Recent" "count" "I") (by decide +kernel)
  have kl210 := hts (.fieldLink RX10 210 "DosePump$Channel" "waits" "Z") (by decide +kernel)
  have kl213 := hts (.fieldLink RX10 213 "DosePump$Boluses" "begun" "LDosePump$Recent;") (by decide +kernel)
  have kl216 := hts (.fieldLink RX10 216 "DosePump$Program" "drug" "LDosePump$Drug;") (by decide +kernel)
  have kl220 := hts (.fieldLink RX10 220 "DosePump$Drug" "number" "I") (by decide +kernel)
  have kl223 := hts (.fieldLink RX10 223 "DosePump$Channel" "strokes" "I") (by decide +kernel)
  have hS : va_S (xA bb s.heap.size) s.heap s.heap [] := va_S.rf
  have hl := lv_entry ([.ref (bb + 0), .int (p1), .int (p2)]) (n := 4) (Nat.le_of_ble_eq_true rfl)
  rw [lg_entry_eq]
  generalize (lg_sl ([.ref (bb + 0), .int (p1), .int (p2)]) ++ List.replicate (4 - (lg_sl ([.ref (bb + 0), .int (p1), .int (p2)])).length) Slot.unset).toArray = ls at hl ⊢
  have hl : lv_has ls 4 [(0, .ref (bb + 0)), (1, .int (p1)), (2, .int (p2))] := hl
  have hf : fX10_channel p1 p2 x = (if (fX10_channelAt p1 x).1 = 0 then (if p2 = 0 then ((0, x, x.2.2.1 p1.toNatClampNeg 0 6)) else if p2 = 1 then ((0, x, x.2.2.1 p1.toNatClampNeg 0 7)) else if p2 = 2 then ((0, x, x.2.2.1 p1.toNatClampNeg 4 1)) else if p2 = 3 then ((0, x, x.2.2.1 p1.toNatClampNeg 4 2)) else if p2 = 4 then ((0, x, x.2.2.1 p1.toNatClampNeg 4 3)) else if p2 = 5 then ((0, x, x.2.2.1 p1.toNatClampNeg 4 4)) else if p2 = 6 then ((0, x, x.2.2.1 p1.toNatClampNeg 6 2)) else if p2 = 7 then ((0, x, x.2.2.1 p1.toNatClampNeg 12 2)) else if p2 = 8 then ((0, x, x.2.2.1 p1.toNatClampNeg 9 2)) else if p2 = 9 then ((0, x, x.2.2.1 p1.toNatClampNeg 9 4)) else if p2 = 10 then ((0, x, x.2.2.1 p1.toNatClampNeg 10 3)) else if p2 = 11 then (if (x.2.2.1 p1.toNatClampNeg 0 9) = 0 then ((0, x, 0)) else ((0, x, 1))) else if p2 = 12 then ((0, x, x.2.2.1 p1.toNatClampNeg 7 3)) else if p2 = 13 then ((0, x, dNum (x.2.2.1 p1.toNatClampNeg 4 0).toNatClampNeg)) else if p2 = 14 then ((0, x, x.2.2.1 p1.toNatClampNeg 0 8)) else ((xcode "java/lang/IndexOutOfBoundsException", x, 0))) else ((fX10_channelAt p1 x).1, (fX10_channelAt p1 x).2.1, 0)) := rfl
  refine lv_aload_n hx hb dX10_channel_0 rfl (lv_at hl 0 rfl) ?_
  refine lv_iload_n hx hb dX10_channel_1 rfl (lv_at hl 1 rfl) ?_
  refine xx_cr (rest := []) ⟨hx, hb, hml, hown, hts⟩ (mX10_channelAt l hl9 E bb _ x p1) (cwV 1 hts gX10_channel_X10_channelAt rfl rfl rfl (by decide +kernel) ⟨Nat.le_of_ble_eq_true rfl, Nat.le_of_ble_eq_true rfl⟩) hW hK hxs (fx_recv hK (pw_P (o := 0) hW (by decide)) rfl) rfl hl.1 rfl (Nat.le_of_ble_eq_true rfl) dX10_channel_2 ⟨Nat.le_of_ble_eq_true rfl, Nat.le_of_ble_eq_true rfl⟩ hS hEx hlocks (Nat.le_of_ble_eq_true rfl) (Nat.le_of_ble_eq_true rfl) (fun h9 => hf.trans (if_neg h9)) (fun u1 r1 H locs z1 e1 e1r hW hS => ?_)
  have hf_2 := hf.trans (if_pos z1)
  have e1 : x = u1 := (pureX10_channelAt).symm.trans e1
  subst e1
  have e1r : p1 = r1 := (ansX10_channelAt z1).symm.trans e1r
  subst e1r
  have hin1 := inX10_channelAt z1
  refine lv_astore_n (lv' := [(3, .ref (bb + 21 + 14 * p1.toNatClampNeg + 0)), (0, .ref (bb + 0)), (1, .int (p1)), (2, .int (p2))]) hx hb dX10_channel_5 rfl hl (by decide) rfl (fun ls hl => ?_)
  refine lv_iload_n hx hb dX10_channel_6 rfl (lv_at hl 3 rfl) ?_
  by_cases c_7_0 : p2 = 0
  · have hf_7_0 := hf_2.trans (if_pos c_7_0)
    refine gx_tab (tgt := 80) hx hb c_7_0 dX10_channel_7 (by decide) (by decide) rfl (by decide) ?_
    refine lv_aload_n hx hb dX10_channel_80 rfl (lv_at hl 0 rfl) ?_
    refine fx_get (ci := 1) (v := .int (x.2.2.1 p1.toNatClampNeg 0 6)) hx hb hts i1 hown hK (pw_C (n := p1.toNatClampNeg) (o := 0) hW (vj_lt hin1) (by decide)) rfl 6 (by decide) kl141 rfl dX10_channel_81 ?_
    exact xx_iret hx hb hr rfl hlocks hK hf_7_0 hW hS dX10_channel_84 (Nat.le_of_ble_eq_true rfl) (Nat.le_of_ble_eq_true rfl)
  have hn_7_0 := hf_2.trans (if_neg c_7_0)
  by_cases c_7_1 : p2 = 1
  · have hf_7_1 := hn_7_0.trans (if_pos c_7_1)
    refine gx_tab (tgt := 85) hx hb c_7_1 dX10_channel_7 (by decide) (by decide) rfl (by decide) ?_
    refine lv_aload_n hx hb dX10_channel_85 rfl (lv_at hl 0 rfl) ?_
    refine fx_get (ci := 1) (v := .int (x.2.2.1 p1.toNatClampNeg 0 7)) hx hb hts i1 hown hK (pw_C (n := p1.toNatClampNeg) (o := 0) hW (vj_lt hin1) (by decide)) rfl 7 (by decide) kl160 rfl dX10_channel_86 ?_
    exact xx_iret hx hb hr rfl hlocks hK hf_7_1 hW hS dX10_channel_89 (Nat.le_of_ble_eq_true rfl) (Nat.le_of_ble_eq_true rfl)
  have hn_7_1 := hn_7_0.trans (if_neg c_7_1)
  by_cases c_7_2 : p2 = 2
  · have hf_7_2 := hn_7_1.trans (if_pos c_7_2)
    refine gx_tab (tgt := 90) hx hb c_7_2 dX10_channel_7 (by decide) (by decide) rfl (by decide) ?_
    refine lv_aload_n hx hb dX10_channel_90 rfl (lv_at hl 0 rfl) ?_
    refine fx_get (ci := 1) (v := .ref (bb + 21 + 14 * p1.toNatClampNeg + 4)) hx hb hts i1 hown hK (pw_C (n := p1.toNatClampNeg) (o := 0) hW (vj_lt hin1) (by decide)) rfl 2 (by decide) kl163 rfl dX10_channel_91 ?_
    refine fx_get (ci := 7) (v := .int (x.2.2.1 p1.toNatClampNeg 4 1)) hx hb hts i7 hown hK (pw_C (n := p1.toNatClampNeg) (o := 4) hW (vj_lt hin1) (by decide)) rfl 1 (by decide) kl167 rfl dX10_channel_94 ?_
    exact xx_iret hx hb hr rfl hlocks hK hf_7_2 hW hS dX10_channel_97 (Nat.le_of_ble_eq_true rfl) (Nat.le_of_ble_eq_true rfl)
  have hn_7_2 := hn_7_1.trans (if_neg c_7_2)
  by_cases c_7_3 : p2 = 3
  · have hf_7_3 := hn_7_2.trans (if_pos c_7_3)
    refine gx_tab (tgt := 98) hx hb c_7_3 dX10_channel_7 (by decide) (by decide) rfl (by decide) ?_
    refine lv_aload_n hx hb dX10_channel_98 rfl (lv_at hl 0 rfl) ?_
    refine fx_get (ci := 1) (v := .ref (bb + 21 + 14 * p1.toNatClampNeg + 4)) hx hb hts i1 hown hK (pw_C (n := p1.toNatClampNeg) (o := 0) hW (vj_lt hin1) (by decide)) rfl 2 (by decide) kl163 rfl dX10_channel_99 ?_
    refine fx_get (ci := 7) (v := .int (x.2.2.1 p1.toNatClampNeg 4 2)) hx hb hts i7 hown hK (pw_C (n := p1.toNatClampNeg) (o := 4) hW (vj_lt hin1) (by decide)) rfl 2 (by decide) kl172 rfl dX10_channel_102 ?_
    exact xx_iret hx hb hr rfl hlocks hK hf_7_3 hW hS dX10_channel_105 (Nat.le_of_ble_eq_true rfl) (Nat.le_of_ble_eq_true rfl)
  have hn_7_3 := hn_7_2.trans (if_neg c_7_3)
  by_cases c_7_4 : p2 = 4
  · have hf_7_4 := hn_7_3.trans (if_pos c_7_4)
    refine gx_tab (tgt := 106) hx hb c_7_4 dX10_channel_7 (by decide) (by decide) rfl (by decide) ?_
    refine lv_aload_n hx hb dX10_channel_106 rfl (lv_at hl 0 rfl) ?_
    refine fx_get (ci := 1) (v := .ref (bb + 21 + 14 * p1.toNatClampNeg + 4)) hx hb hts i1 hown hK (pw_C (n := p1.toNatClampNeg) (o := 0) hW (vj_lt hin1) (by decide)) rfl 2 (by decide) kl163 rfl dX10_channel_107 ?_
    refine fx_get (ci := 7) (v := .int (x.2.2.1 p1.toNatClampNeg 4 3)) hx hb hts i7 hown hK (pw_C (n := p1.toNatClampNeg) (o := 4) hW (vj_lt hin1) (by decide)) rfl 3 (by decide) kl175 rfl dX10_channel_110 ?_
    exact xx_iret hx hb hr rfl hlocks hK hf_7_4 hW hS dX10_channel_113 (Nat.le_of_ble_eq_true rfl) (Nat.le_of_ble_eq_true rfl)
  have hn_7_4 := hn_7_3.trans (if_neg c_7_4)
  by_cases c_7_5 : p2 = 5
  · have hf_7_5 := hn_7_4.trans (if_pos c_7_5)
    refine gx_tab (tgt := 114) hx hb c_7_5 dX10_channel_7 (by decide) (by decide) rfl (by decide) ?_
    refine lv_aload_n hx hb dX10_channel_114 rfl (lv_at hl 0 rfl) ?_
    refine fx_get (ci := 1) (v := .ref (bb + 21 + 14 * p1.toNatClampNeg + 4)) hx hb hts i1 hown hK (pw_C (n := p1.toNatClampNeg) (o := 0) hW (vj_lt hin1) (by decide)) rfl 2 (by decide) kl163 rfl dX10_channel_115 ?_
    refine fx_get (ci := 7) (v := .int (x.2.2.1 p1.toNatClampNeg 4 4)) hx hb hts i7 hown hK (pw_C (n := p1.toNatClampNeg) (o := 4) hW (vj_lt hin1) (by decide)) rfl 4 (by decide) kl178 rfl dX10_channel_118 ?_
    exact xx_iret hx hb hr rfl hlocks hK hf_7_5 hW hS dX10_channel_121 (Nat.le_of_ble_eq_true rfl) (Nat.le_of_ble_eq_true rfl)
  have hn_7_5 := hn_7_4.trans (if_neg c_7_5)
  by_cases c_7_6 : p2 = 6
  · have hf_7_6 := hn_7_5.trans (if_pos c_7_6)
    refine gx_tab (tgt := 122) hx hb c_7_6 dX10_channel_7 (by decide) (by decide) rfl (by decide) ?_
    refine lv_aload_n hx hb dX10_channel_122 rfl (lv_at hl 0 rfl) ?_
    refine fx_get (ci := 1) (v := .ref (bb + 21 + 14 * p1.toNatClampNeg + 6)) hx hb hts i1 hown hK (pw_C (n := p1.toNatClampNeg) (o := 0) hW (vj_lt hin1) (by decide)) rfl 3 (by decide) kl181 rfl dX10_channel_123 ?_
    refine fx_get (ci := 0) (v := .int (x.2.2.1 p1.toNatClampNeg 6 2)) hx hb hts i0 hown hK (pw_C (n := p1.toNatClampNeg) (o := 6) hW (vj_lt hin1) (by decide)) rfl 2 (by decide) kl185 rfl dX10_channel_126 ?_
    exact xx_iret hx hb hr rfl hlocks hK hf_7_6 hW hS dX10_channel_129 (Nat.le_of_ble_eq_true rfl) (Nat.le_of_ble_eq_true rfl)
  have hn_7_6 := hn_7_5.trans (if_neg c_7_6)
  by_cases c_7_7 : p2 = 7
  · have hf_7_7 := hn_7_6.trans (if_pos c_7_7)
    refine gx_tab (tgt := 130) hx hb c_7_7 dX10_channel_7 (by decide) (by decide) rfl (by decide) ?_
    refine lv_aload_n hx hb dX10_channel_130 rfl (lv_at hl 0 rfl) ?_
    refine fx_get (ci := 1) (v := .ref (bb + 21 + 14 * p1.toNatClampNeg + 12)) hx hb hts i1 hown hK (pw_C (n := p1.toNatClampNeg) (o := 0) hW (vj_lt hin1) (by decide)) rfl 5 (by decide) kl188 rfl dX10_channel_131 ?_
    refine fx_get (ci := 4) (v := .int (x.2.2.1 p1.toNatClampNeg 12 2)) hx hb hts i4 hown hK (pw_C (n := p1.toNatClampNeg) (o := 12) hW (vj_lt hin1) (by decide)) rfl 2 (by decide) kl192 rfl dX10_channel_134 ?_
    exact xx_iret hx hb hr rfl hlocks hK hf_7_7 hW hS dX10_channel_137 (Nat.le_of_ble_eq_true rfl) (Nat.le_of_ble_eq_true rfl)
  have hn_7_7 := hn_7_6.trans (if_neg c_7_7)
  by_cases c_7_8 : p2 = 8
  · have hf_7_8 := hn_7_7.trans (if_pos c_7_8)
    refine gx_tab (tgt := 138) hx hb c_7_8 dX10_channel_7 (by decide) (by decide) rfl (by decide) ?_
    refine lv_aload_n hx hb dX10_channel_138 rfl (lv_at hl 0 rfl) ?_
    refine fx_get (ci := 1) (v := .ref (bb + 21 + 14 * p1.toNatClampNeg + 9)) hx hb hts i1 hown hK (pw_C (n := p1.toNatClampNeg) (o := 0) hW (vj_lt hin1) (by decide)) rfl 4 (by decide) kl125 rfl dX10_channel_139 ?_
    refine fx_get (ci := 6) (v := .int (x.2.2.1 p1.toNatClampNeg 9 2)) hx hb hts i6 hown hK (pw_C (n := p1.toNatClampNeg) (o := 9) hW (vj_lt hin1) (by decide)) rfl 2 (by decide) kl197 rfl dX10_channel_142 ?_
    exact xx_iret hx hb hr rfl hlocks hK hf_7_8 hW hS dX10_channel_145 (Nat.le_of_ble_eq_true rfl) (Nat.le_of_ble_eq_true rfl)
  have hn_7_8 := hn_7_7.trans (if_neg c_7_8)
  by_cases c_7_9 : p2 = 9
  · have hf_7_9 := hn_7_8.trans (if_pos c_7_9)
    refine gx_tab (tgt := 146) hx hb c_7_9 dX10_channel_7 (by decide) (by decide) rfl (by decide) ?_
    refine lv_aload_n hx hb dX10_channel_146 rfl (lv_at hl 0 rfl) ?_
    refine fx_get (ci := 1) (v := .ref (bb + 21 + 14 * p1.toNatClampNeg + 9)) hx hb hts i1 hown hK (pw_C (n := p1.toNatClampNeg) (o := 0) hW (vj_lt hin1) (by decide)) rfl 4 (by decide) kl125 rfl dX10_channel_147 ?_
    refine fx_get (ci := 6) (v := .int (x.2.2.1 p1.toNatClampNeg 9 4)) hx hb hts i6 hown hK (pw_C (n := p1.toNatClampNeg) (o := 9) hW (vj_lt hin1) (by decide)) rfl 4 (by decide) kl200 rfl dX10_channel_150 ?_
    exact xx_iret hx hb hr rfl hlocks hK hf_7_9 hW hS dX10_channel_153 (Nat.le_of_ble_eq_true rfl) (Nat.le_of_ble_eq_true rfl)
  have hn_7_9 := hn_7_8.trans (if_neg c_7_9)
  by_cases c_7_10 : p2 = 10
  · have hf_7_10 := hn_7_9.trans (if_pos c_7_10)
    refine gx_tab (tgt := 154) hx hb c_7_10 dX10_channel_7 (by decide) (by decide) rfl (by decide) ?_
    refine lv_aload_n hx hb dX10_channel_154 rfl (lv_at hl 0 rfl) ?_
    refine fx_get (ci := 1) (v := .ref (bb + 21 + 14 * p1.toNatClampNeg + 9)) hx hb hts i1 hown hK (pw_C (n := p1.toNatClampNeg) (o := 0) hW (vj_lt hin1) (by decide)) rfl 4 (by decide) kl125 rfl dX10_channel_155 ?_
    refine fx_get (ci := 6) (v := .ref (bb + 21 + 14 * p1.toNatClampNeg + 10)) hx hb hts i6 hown hK (pw_C (n := p1.toNatClampNeg) (o := 9) hW (vj_lt hin1) (by decide)) rfl 0 (by decide) kl203 rfl dX10_channel_158 ?_
    refine fx_get (ci := 8) (v := .int (x.2.2.1 p1.toNatClampNeg 10 3)) hx hb hts i8 hown hK (pw_C (n := p1.toNatClampNeg) (o := 10) hW (vj_lt hin1) (by decide)) rfl 3 (by decide) kl207 rfl dX10_channel_161 ?_
    exact xx_iret hx hb hr rfl hlocks hK hf_7_10 hW hS dX10_channel_164 (Nat.le_of_ble_eq_true rfl) (Nat.le_of_ble_eq_true rfl)
  have hn_7_10 := hn_7_9.trans (if_neg c_7_10)
  by_cases c_7_11 : p2 = 11
  · have hf_7_11 := hn_7_10.trans (if_pos c_7_11)
    refine gx_tab (tgt := 165) hx hb c_7_11 dX10_channel_7 (by decide) (by decide) rfl (by decide) ?_
    refine lv_aload_n hx hb dX10_channel_165 rfl (lv_at hl 0 rfl) ?_
    refine fx_get (ci := 1) (v := .int (x.2.2.1 p1.toNatClampNeg 0 9)) hx hb hts i1 hown hK (pw_C (n := p1.toNatClampNeg) (o := 0) hW (vj_lt hin1) (by decide)) rfl 9 (by decide) kl210 rfl dX10_channel_166 ?_
    refine lv_if_eq (tgt := 176) hx hb dX10_channel_169 (by decide) (fun c_169 => ?_) (fun c_169 => ?_)
    · have hf_169 := hf_7_11.trans (if_pos c_169)
      refine lv_iconst (v := 0) hx hb dX10_channel_176 (by decide) ?_
      exact xx_iret hx hb hr rfl hlocks hK hf_169 hW hS dX10_channel_177 (Nat.le_of_ble_eq_true rfl) (Nat.le_of_ble_eq_true rfl)
    · have hf_169 := hf_7_11.trans (if_neg c_169)
      refine lv_iconst (v := 1) hx hb dX10_channel_172 (by decide) ?_
      refine lv_goto (tgt := 177) hx hb dX10_channel_173 (by decide) ?_
      exact xx_iret hx hb hr rfl hlocks hK hf_169 hW hS dX10_channel_177 (Nat.le_of_ble_eq_true rfl) (Nat.le_of_ble_eq_true rfl)
  have hn_7_11 := hn_7_10.trans (if_neg c_7_11)
  by_cases c_7_12 : p2 = 12
  · have hf_7_12 := hn_7_11.trans (if_pos c_7_12)
    refine gx_tab (tgt := 178) hx hb c_7_12 dX10_channel_7 (by decide) (by decide) rfl (by decide) ?_
    refine lv_aload_n hx hb dX10_channel_178 rfl (lv_at hl 0 rfl) ?_
    refine fx_get (ci := 1) (v := .ref (bb + 21 + 14 * p1.toNatClampNeg + 6)) hx hb hts i1 hown hK (pw_C (n := p1.toNatClampNeg) (o := 0) hW (vj_lt hin1) (by decide)) rfl 3 (by decide) kl181 rfl dX10_channel_179 ?_
    refine fx_get (ci := 0) (v := .ref (bb + 21 + 14 * p1.toNatClampNeg + 7)) hx hb hts i0 hown hK (pw_C (n := p1.toNatClampNeg) (o := 6) hW (vj_lt hin1) (by decide)) rfl 0 (by decide) kl213 rfl dX10_channel_182 ?_
    refine fx_get (ci := 8) (v := .int (x.2.2.1 p1.toNatClampNeg 7 3)) hx hb hts i8 hown hK (pw_C (n := p1.toNatClampNeg) (o := 7) hW (vj_lt hin1) (by decide)) rfl 3 (by decide) kl207 rfl dX10_channel_185 ?_
    exact xx_iret hx hb hr rfl hlocks hK hf_7_12 hW hS dX10_channel_188 (Nat.le_of_ble_eq_true rfl) (Nat.le_of_ble_eq_true rfl)
  have hn_7_12 := hn_7_11.trans (if_neg c_7_12)
  by_cases c_7_13 : p2 = 13
  · have hf_7_13 := hn_7_12.trans (if_pos c_7_13)
    refine gx_tab (tgt := 189) hx hb c_7_13 dX10_channel_7 (by decide) (by decide) rfl (by decide) ?_
    refine lv_aload_n hx hb dX10_channel_189 rfl (lv_at hl 0 rfl) ?_
    refine fx_get (ci := 1) (v := .ref (bb + 21 + 14 * p1.toNatClampNeg + 4)) hx hb hts i1 hown hK (pw_C (n := p1.toNatClampNeg) (o := 0) hW (vj_lt hin1) (by decide)) rfl 2 (by decide) kl163 rfl dX10_channel_190 ?_
    refine fx_get (ci := 7) (v := .ref (dAd bb (x.2.2.1 p1.toNatClampNeg 4 0).toNatClampNeg)) hx hb hts i7 hown hK (pw_C (n := p1.toNatClampNeg) (o := 4) hW (vj_lt hin1) (by decide)) rfl 0 (by decide) kl216 rfl dX10_channel_193 ?_
    refine fx_get (ci := 2) (v := .int (dNum (x.2.2.1 p1.toNatClampNeg 4 0).toNatClampNeg)) hx hb hts i2 hown hK (pw_D hW (hok p1.toNatClampNeg (vj_lt hin1)).2.2.2.2.2.2) rfl 0 (by decide) kl220 rfl dX10_channel_196 ?_
    exact xx_iret hx hb hr rfl hlocks hK hf_7_13 hW hS dX10_channel_199 (Nat.le_of_ble_eq_true rfl) (Nat.le_of_ble_eq_true rfl)
  have hn_7_13 := hn_7_12.trans (if_neg c_7_13)
  by_cases c_7_14 : p2 = 14
  · have hf_7_14 := hn_7_13.trans (if_pos c_7_14)
    refine gx_tab (tgt := 200) hx hb c_7_14 dX10_channel_7 (by decide) (by decide) rfl (by decide) ?_
    refine lv_aload_n hx hb dX10_channel_200 rfl (lv_at hl 0 rfl) ?_
    refine fx_get (ci := 1) (v := .int (x.2.2.1 p1.toNatClampNeg 0 8)) hx hb hts i1 hown hK (pw_C (n := p1.toNatClampNeg) (o := 0) hW (vj_lt hin1) (by decide)) rfl 8 (by decide) kl223 rfl dX10_channel_201 ?_
    exact xx_iret hx hb hr rfl hlocks hK hf_7_14 hW hS dX10_channel_204 (Nat.le_of_ble_eq_true rfl) (Nat.le_of_ble_eq_true rfl)
  have hn_7_14 := hn_7_13.trans (if_neg c_7_14)
  refine lv_tableOut (tgt := 205) hx hb dX10_channel_7 (by have e0 := sw_ne (k := 0) 0 rfl c_7_0; have e1 := sw_ne (k := 1) 1 rfl c_7_1; have e2 := sw_ne (k := 2) 2 rfl c_7_2; have e3 := sw_ne (k := 3) 3 rfl c_7_3; have e4 := sw_ne (k := 4) 4 rfl c_7_4; have e5 := sw_ne (k := 5) 5 rfl c_7_5; have e6 := sw_ne (k := 6) 6 rfl c_7_6; have e7 := sw_ne (k := 7) 7 rfl c_7_7; have e8 := sw_ne (k := 8) 8 rfl c_7_8; have e9 := sw_ne (k := 9) 9 rfl c_7_9; have e10 := sw_ne (k := 10) 10 rfl c_7_10; have e11 := sw_ne (k := 11) 11 rfl c_7_11; have e12 := sw_ne (k := 12) 12 rfl c_7_12; have e13 := sw_ne (k := 13) 13 rfl c_7_13; have e14 := sw_ne (k := 14) 14 rfl c_7_14; omega) (by decide) ?_
  exact xx_throw (X := "java/lang/IndexOutOfBoundsException") (text := "no such what") (ik := 41) (is := 158) (ic := 45) hx hb hl9 hown (by decide) (by decide) (by decide +kernel) (hts (.classLink RX10 41 "java/lang/IndexOutOfBoundsException") (by decide +kernel)) (hts (.initialized "java/lang/IndexOutOfBoundsException") (by decide +kernel)) (fun w hw => hts w ((by decide +kernel : ∀ w ∈ (vx_atS RX10 45 "java/lang/IndexOutOfBoundsException" xNm).filter goodWord, w ∈ wsX10_channel) w hw)) (by decide +kernel) (by decide +kernel) hxs hS (hl.1.trans hml.symm) dX10_channel_205 dX10_channel_208 dX10_channel_209 dX10_channel_211 dX10_channel_214 hEx (Nat.le_of_ble_eq_true rfl) (Nat.le_of_ble_eq_true rfl) (Nat.le_of_ble_eq_true rfl) (Nat.le_of_ble_eq_true rfl) (Nat.le_of_ble_eq_true rfl) (Nat.le_of_ble_eq_true rfl) hlocks hK hn_7_14 hW

def fX10_entry (p1 : Int32) (x : PS) : Nat × PS × Int32 := if p1 = 0 then ((0, x, (fX9_inUnits (fX1_places x.2.1 (foc x (x.1 0 6).toNatClampNeg)) (foc x (x.1 0 6).toNatClampNeg)))) else if p1 = 1 then ((0, x, (fX9_length (foc x (x.1 0 6).toNatClampNeg)))) else if p1 = 2 then (if (fX1_hasEntry (foc x (x.1 0 6).toNatClampNeg)) = 0 then ((0, x, 0)) else ((0, x, x.2.2.1 ((x.1 0 6).toNatClampNeg) 1 6))) else ((xcode "java/lang/IndexOutOfBoundsException", x, 0))
set_option maxHeartbeats 4000000 in
set_option maxRecDepth 100000 in
theorem mX10_entry (l : Launch) (hl9 : l.stackTraces = false) (E : eE) (bb sz : Nat) (x : PS) (p1 : Int32) (hok : okP x) (hch : vp_in (x.1 0 6) 3) : vx_Met l yX10_entry wsX10_entry ({ frames := 6, cells := 1, slots := 6, locals := 90 }) (xPre E bb sz (pw E bb x) [.ref (bb + 0), .int (p1)]) (xQi E (pw E bb) (fX10_entry p1 x) (xA bb sz)) (xX E (pw E bb) (fX10_entry p1 x) (xA bb sz)) 1 6 (xA bb sz) := by
  refine vx_ofW (cc := cX10_entry) (maxL := 3) (ret := (some .int)) (by decide) rfl ?_
  intro p e s m args below meth c s₁ B hml hEx hv
  obtain ⟨rfl, hsz, hW, hK, hxs⟩ := hv
  subst hsz
  have hx := B.exec
  have hb := B.bytes
  have hr := B.returns
  have hts := atoms_spec (ws := wsX10_entry) B.pre
  have hown : s.vm.findClass RX10 = some m.cls := findClass_of_methodNamed B.named
  have hlocks := B.notSynchronized
  have i1 : ∀ w ∈ wsX10, w ∈ wsX10_entry := by decide +kernel
  have i3 : ∀ w ∈ wsX30, w ∈ wsX10_entry := by decide +kernel
  have i10 : ∀ w ∈ wsX100, w ∈ wsX10_entry := by decide +kernel
  have kl17 := hts (.fieldLink RX10 17 "DosePump" "channels" "[LDosePump$Channel;") (by decide +kernel)
  have kl95 := hts (.fieldLink RX10 95 "DosePump" "chosen" "I") (by decide +kernel)
  have kl106 := hts (.fieldLink RX10 106 "DosePump$Channel" "entry" "LDosePump$Entry;") (by decide +kernel)
  have kl110 := hts (.fieldLink RX10 110 "DosePump$Entry" "idle" "I") (by decide +kernel)
  have kl226 := hts (.fieldLink RX10 226 "DosePump$Entry" "typed" "LDosePump$Typed;") (by decide +kernel)
  have hS : va_S (xA bb s.heap.size) s.heap s.heap [] := va_S.rf
  have hl := lv_entry ([.ref (bb + 0), .int (p1)]) (n := 3) (Nat.le_of_ble_eq_true rfl)
  rw [lg_entry_eq]
  generalize (lg_sl ([.ref (bb + 0), .int (p1)]) ++ List.replicate (3 - (lg_sl ([.ref (bb + 0), .int (p1)])).length) Slot.unset).toArray = ls at hl ⊢
  have hl : lv_has ls 3 [(0, .ref (bb + 0)), (1, .int (p1))] := hl
  have hf : fX10_entry p1 x = (if p1 = 0 then ((0, x, (fX9_inUnits (fX1_places x.2.1 (foc x (x.1 0 6).toNatClampNeg)) (foc x (x.1 0 6).toNatClampNeg)))) else if p1 = 1 then ((0, x, (fX9_length (foc x (x.1 0 6).toNatClampNeg)))) else if p1 = 2 then (if (fX1_hasEntry (foc x (x.1 0 6).toNatClampNeg)) = 0 then ((0, x, 0)) else ((0, x, x.2.2.1 ((x.1 0 6).toNatClampNeg) 1 6))) else ((xcode "java/lang/IndexOutOfBoundsException", x, 0))) := rfl
  refine lv_aload_n hx hb dX10_entry_0 rfl (lv_at hl 0 rfl) ?_
  refine fx_get (ci := 10) (v := .ref (bb + 2)) hx hb hts i10 hown hK (pw_P (o := 0) hW (by decide)) rfl 1 (by decide) kl17 rfl dX10_entry_1 ?_
  refine lv_aload_n hx hb dX10_entry_4 rfl (lv_at hl 0 rfl) ?_
  refine fx_get (ci := 10) (v := .int (x.1 0 6)) hx hb hts i10 hown hK (pw_P (o := 0) hW (by decide)) rfl 6 (by decide) kl95 rfl dX10_entry_5 ?_
  refine fx_ald (v := .ref (bb + 21 + 14 * (x.1 0 6).toNatClampNeg + 0)) hx hb hK 2 (pw_P (o := 2) hW (by decide)) rfl hch rfl dX10_entry_8 ?_
  refine lv_astore_n (lv' := [(2, .ref (bb + 21 + 14 * (x.1 0 6).toNatClampNeg + 0)), (0, .ref (bb + 0)), (1, .int (p1))]) hx hb dX10_entry_9 rfl hl (by decide) rfl (fun ls hl => ?_)
  refine lv_iload_n hx hb dX10_entry_10 rfl (lv_at hl 2 rfl) ?_
  by_cases c_11_0 : p1 = 0
  · have hf_11_0 := hf.trans (if_pos c_11_0)
    refine gx_tab (tgt := 36) hx hb c_11_0 dX10_entry_11 (by decide) (by decide) rfl (by decide) ?_
    refine lv_aload_n hx hb dX10_entry_36 rfl (lv_at hl 0 rfl) ?_
    refine fx_get (ci := 1) (v := .ref (bb + 21 + 14 * (x.1 0 6).toNatClampNeg + 1)) hx hb hts i1 hown hK (pw_C (n := (x.1 0 6).toNatClampNeg) (o := 0) hW (vj_lt hch) (by decide)) rfl 1 (by decide) kl106 rfl dX10_entry_37 ?_
    refine fx_get (ci := 3) (v := .ref (bb + 21 + 14 * (x.1 0 6).toNatClampNeg + 2)) hx hb hts i3 hown hK (pw_C (n := (x.1 0 6).toNatClampNeg) (o := 1) hW (vj_lt hch) (by decide)) rfl 0 (by decide) kl226 rfl dX10_entry_40 ?_
    refine lv_aload_n hx hb dX10_entry_43 rfl (lv_at hl 0 rfl) ?_
    refine gx_i (rest := [.ref (bb + 21 + 14 * (x.1 0 6).toNatClampNeg + 2)]) ⟨hx, hb, hml, hown, hts⟩ (mX1_places l E bb x.2.1 x.2.2.1 (x.1 0 6).toNatClampNeg (vj_lt hch) (foc x (x.1 0 6).toNatClampNeg)  (hok (x.1 0 6).toNatClampNeg (vj_lt hch))) (cwV 0 hts gX10_entry_X1_places rfl rfl rfl (by decide +kernel) ⟨Nat.le_of_ble_eq_true rfl, Nat.le_of_ble_eq_true rfl⟩) (pw_foc hW) hK (fx_recv hK (pw_C (n := (x.1 0 6).toNatClampNeg) (o := 0) hW (vj_lt hch) (by decide)) rfl) rfl hl.1 rfl (Nat.le_of_ble_eq_true rfl) dX10_entry_44 ⟨Nat.le_of_ble_eq_true rfl, Nat.le_of_ble_eq_true rfl⟩ hS (fun _ h => Or.inl h) (fun _ r1 H locs _ e1 hW9 hS => ?_)
    have hW : pw E bb x H := pw_unfoc hW9
    have e1 : fX1_places x.2.1 (foc x (x.1 0 6).toNatClampNeg) = r1 := e1
    try rw [e1] at hf_11_0
    refine gx_i (rest := []) ⟨hx, hb, hml, hown, hts⟩ (mX9_inUnits l E bb x.2.1 x.2.2.1 (x.1 0 6).toNatClampNeg (vj_lt hch) (foc x (x.1 0 6).toNatClampNeg) r1) (cwV 1 hts gX10_entry_X9_inUnits rfl rfl rfl (by decide +kernel) ⟨Nat.le_of_ble_eq_true rfl, Nat.le_of_ble_eq_true rfl⟩) (pw_foc hW) hK (fx_recv hK (pw_C (n := (x.1 0 6).toNatClampNeg) (o := 2) hW (vj_lt hch) (by decide)) rfl) rfl hl.1 rfl (Nat.le_of_ble_eq_true rfl) dX10_entry_47 ⟨Nat.le_of_ble_eq_true rfl, Nat.le_of_ble_eq_true rfl⟩ hS (fun _ h => Or.inl h) (fun _ r2 H locs _ e2 hW9 hS => ?_)
    have hW : pw E bb x H := pw_unfoc hW9
    have e2 : fX9_inUnits r1 (foc x (x.1 0 6).toNatClampNeg) = r2 := e2
    try rw [e2] at hf_11_0
    exact xx_iret hx hb hr rfl hlocks hK hf_11_0 hW hS dX10_entry_50 (Nat.le_of_ble_eq_true rfl) (Nat.le_of_ble_eq_true rfl)
  have hn_11_0 := hf.trans (if_neg c_11_0)
  by_cases c_11_1 : p1 = 1
  · have hf_11_1 := hn_11_0.trans (if_pos c_11_1)
    refine gx_tab (tgt := 51) hx hb c_11_1 dX10_entry_11 (by decide) (by decide) rfl (by decide) ?_
    refine lv_aload_n hx hb dX10_entry_51 rfl (lv_at hl 0 rfl) ?_
    refine fx_get (ci := 1) (v := .ref (bb + 21 + 14 * (x.1 0 6).toNatClampNeg + 1)) hx hb hts i1 hown hK (pw_C (n := (x.1 0 6).toNatClampNeg) (o := 0) hW (vj_lt hch) (by decide)) rfl 1 (by decide) kl106 rfl dX10_entry_52 ?_
    refine fx_get (ci := 3) (v := .ref (bb + 21 + 14 * (x.1 0 6).toNatClampNeg + 2)) hx hb hts i3 hown hK (pw_C (n := (x.1 0 6).toNatClampNeg) (o := 1) hW (vj_lt hch) (by decide)) rfl 0 (by decide) kl226 rfl dX10_entry_55 ?_
    refine gx_i (rest := []) ⟨hx, hb, hml, hown, hts⟩ (mX9_length l E bb x.2.1 x.2.2.1 (x.1 0 6).toNatClampNeg (vj_lt hch) (foc x (x.1 0 6).toNatClampNeg) ) (cwV 0 hts gX10_entry_X9_length rfl rfl rfl (by decide +kernel) ⟨Nat.le_of_ble_eq_true rfl, Nat.le_of_ble_eq_true rfl⟩) (pw_foc hW) hK (fx_recv hK (pw_C (n := (x.1 0 6).toNatClampNeg) (o := 2) hW (vj_lt hch) (by decide)) rfl) rfl hl.1 rfl (Nat.le_of_ble_eq_true rfl) dX10_entry_58 ⟨Nat.le_of_ble_eq_true rfl, Nat.le_of_ble_eq_true rfl⟩ hS (fun _ h => Or.inl h) (fun _ r3 H locs _ e3 hW9 hS => ?_)
    have hW : pw E bb x H := pw_unfoc hW9
    have e3 : fX9_length (foc x (x.1 0 6).toNatClampNeg) = r3 := e3
    try rw [e3] at hf_11_1
    exact xx_iret hx hb hr rfl hlocks hK hf_11_1 hW hS dX10_entry_61 (Nat.le_of_ble_eq_true rfl) (Nat.le_of_ble_eq_true rfl)
  have hn_11_1 := hn_11_0.trans (if_neg c_11_1)
  by_cases c_11_2 : p1 = 2
  · have hf_11_2 := hn_11_1.trans (if_pos c_11_2)
    refine gx_tab (tgt := 62) hx hb c_11_2 dX10_entry_11 (by decide) (by decide) rfl (by decide) ?_
    refine lv_aload_n hx hb dX10_entry_62 rfl (lv_at hl 0 rfl) ?_
    refine gx_i (rest := []) ⟨hx, hb, hml, hown, hts⟩ (mX1_hasEntry l E bb x.2.1 x.2.2.1 (x.1 0 6).toNatClampNeg (vj_lt hch) (foc x (x.1 0 6).toNatClampNeg) ) (cwV 0 hts gX10_entry_X1_hasEntry rfl rfl rfl (by decide +kernel) ⟨Nat.le_of_ble_eq_true rfl, Nat.le_of_ble_eq_true rfl⟩) (pw_foc hW) hK (fx_recv hK (pw_C (n := (x.1 0 6).toNatClampNeg) (o := 0) hW (vj_lt hch) (by decide)) rfl) rfl hl.1 rfl (Nat.le_of_ble_eq_true rfl) dX10_entry_63 ⟨Nat.le_of_ble_eq_true rfl, Nat.le_of_ble_eq_true rfl⟩ hS (fun _ h => Or.inl h) (fun _ r4 H locs _ e4 hW9 hS => ?_)
    have hW : pw E bb x H := pw_unfoc hW9
    have e4 : fX1_hasEntry (foc x (x.1 0 6).toNatClampNeg) = r4 := e4
    try rw [e4] at hf_11_2
    refine lv_if_eq (tgt := 79) hx hb dX10_entry_66 (by decide) (fun c_66 => ?_) (fun c_66 => ?_)
    · have hf_66 := hf_11_2.trans (if_pos c_66)
      refine lv_iconst (v := 0) hx hb dX10_entry_79 (by decide) ?_
      exact xx_iret hx hb hr rfl hlocks hK hf_66 hW hS dX10_entry_80 (Nat.le_of_ble_eq_true rfl) (Nat.le_of_ble_eq_true rfl)
    · have hf_66 := hf_11_2.trans (if_neg c_66)
      refine lv_aload_n hx hb dX10_entry_69 rfl (lv_at hl 0 rfl) ?_
      refine fx_get (ci := 1) (v := .ref (bb + 21 + 14 * (x.1 0 6).toNatClampNeg + 1)) hx hb hts i1 hown hK (pw_C (n := (x.1 0 6).toNatClampNeg) (o := 0) hW (vj_lt hch) (by decide)) rfl 1 (by decide) kl106 rfl dX10_entry_70 ?_
      refine fx_get (ci := 3) (v := .int (x.2.2.1 ((x.1 0 6).toNatClampNeg) 1 6)) hx hb hts i3 hown hK (pw_C (n := (x.1 0 6).toNatClampNeg) (o := 1) hW (vj_lt hch) (by decide)) rfl 6 (by decide) kl110 rfl dX10_entry_73 ?_
      refine lv_goto (tgt := 80) hx hb dX10_entry_76 (by decide) ?_
      exact xx_iret hx hb hr rfl hlocks hK hf_66 hW hS dX10_entry_80 (Nat.le_of_ble_eq_true rfl) (Nat.le_of_ble_eq_true rfl)
  have hn_11_2 := hn_11_1.trans (if_neg c_11_2)
  refine lv_tableOut (tgt := 81) hx hb dX10_entry_11 (by have e0 := sw_ne (k := 0) 0 rfl c_11_0; have e1 := sw_ne (k := 1) 1 rfl c_11_1; have e2 := sw_ne (k := 2) 2 rfl c_11_2; omega) (by decide) ?_
  exact xx_throw (X := "java/lang/IndexOutOfBoundsException") (text := "no such what") (ik := 41) (is := 158) (ic := 45) hx hb hl9 hown (by decide) (by decide) (by decide +kernel) (hts (.classLink RX10 41 "java/lang/IndexOutOfBoundsException") (by decide +kernel)) (hts (.initialized "java/lang/IndexOutOfBoundsException") (by decide +kernel)) (fun w hw => hts w ((by decide +kernel : ∀ w ∈ (vx_atS RX10 45 "java/lang/IndexOutOfBoundsException" xNm).filter goodWord, w ∈ wsX10_entry) w hw)) (by decide +kernel) (by decide +kernel) hxs hS (hl.1.trans hml.symm) dX10_entry_81 dX10_entry_84 dX10_entry_85 dX10_entry_87 dX10_entry_90 hEx (Nat.le_of_ble_eq_true rfl) (Nat.le_of_ble_eq_true rfl) (Nat.le_of_ble_eq_true rfl) (Nat.le_of_ble_eq_true rfl) (Nat.le_of_ble_eq_true rfl) (Nat.le_of_ble_eq_true rfl) hlocks hK hn_11_2 hW

def fX10_key (p1 : Int32) (x : PS) : Nat × PS × Int32 := if p1 < 0 then ((xcode "java/lang/IllegalArgumentException", x, 0)) else (if p1 ≤ 21 then (if ((fX10_press x.2.1 (x.1 0 6).toNatClampNeg p1 (foc x (x.1 0 6).toNatClampNeg)).2) = (-1) then ((0, (put x (x.1 0 6).toNatClampNeg (fX10_press x.2.1 (x.1 0 6).toNatClampNeg p1 (foc x (x.1 0 6).toNatClampNeg)).1), ((fX10_press x.2.1 (x.1 0 6).toNatClampNeg p1 (foc x (x.1 0 6).toNatClampNeg)).2))) else (if (fX10_keepsEntryAlive p1 (foc (put x (x.1 0 6).toNatClampNeg (fX10_press x.2.1 (x.1 0 6).toNatClampNeg p1 (foc x (x.1 0 6).toNatClampNeg)).1) 0)) = 0 then ((0, (put x (x.1 0 6).toNatClampNeg (fX10_press x.2.1 (x.1 0 6).toNatClampNeg p1 (foc x (x.1 0 6).toNatClampNeg)).1), ((fX10_press x.2.1 (x.1 0 6).toNatClampNeg p1 (foc x (x.1 0 6).toNatClampNeg)).2))) else ((0, (tC (put x (x.1 0 6).toNatClampNeg (fX10_press x.2.1 (x.1 0 6).toNatClampNeg p1 (foc x (x.1 0 6).toNatClampNeg)).1) (x.1 0 6).toNatClampNeg 1 6 (0)), ((fX10_press x.2.1 (x.1 0 6).toNatClampNeg p1 (foc x (x.1 0 6).toNatClampNeg)).2))))) else ((xcode "java/lang/IllegalArgumentException", x, 0)))
set_option maxHeartbeats 4000000 in
set_option maxRecDepth 100000 in
theorem mX10_key (l : Launch) (hl9 : l.stackTraces = false) (E : eE) (bb sz : Nat) (x : PS) (p1 : Int32) (hok : okP x) (hch : vp_in (x.1 0 6) 3) : vx_Met l yX10_key wsX10_key ({ frames := 6, cells := 1, slots := 6, locals := 119 }) (xPre E bb sz (pw E bb x) [.ref (bb + 0), .int (p1)]) (xQi E (pw E bb) (fX10_key p1 x) (xA bb sz)) (xX E (pw E bb) (fX10_key p1 x) (xA bb sz)) 1 6 (xA bb sz) := by
  refine vx_ofW (cc := cX10_key) (maxL := 4) (ret := (some .int)) (by decide) rfl ?_
  intro p e s m args below meth c s₁ B hml hEx hv
  obtain ⟨rfl, hsz, hW, hK, hxs⟩ := hv
  subst hsz
  have hx := B.exec
  have hb := B.bytes
  have hr := B.returns
  have hts := atoms_spec (ws := wsX10_key) B.pre
  have hown : s.vm.findClass RX10 = some m.cls := findClass_of_methodNamed B.named
  have hlocks := B.notSynchronized
  have i1 : ∀ w ∈ wsX10, w ∈ wsX10_key := by decide +kernel
  have i3 : ∀ w ∈ wsX30, w ∈ wsX10_key := by decide +kernel
  have i10 : ∀ w ∈ wsX100, w ∈ wsX10_key := by decide +kernel
  have kl17 := hts (.fieldLink RX10 17 "DosePump" "channels" "[LDosePump$Channel;") (by decide +kernel)
  have kl95 := hts (.fieldLink RX10 95 "DosePump" "chosen" "I") (by decide +kernel)
  have kl106 := hts (.fieldLink RX10 106 "DosePump$Channel" "entry" "LDosePump$Entry;") (by decide +kernel)
  have kl110 := hts (.fieldLink RX10 110 "DosePump$Entry" "idle" "I") (by decide +kernel)
  have hS : va_S (xA bb s.heap.size) s.heap s.heap [] := va_S.rf
  have hl := lv_entry ([.ref (bb + 0), .int (p1)]) (n := 4) (Nat.le_of_ble_eq_true rfl)
  rw [lg_entry_eq]
  generalize (lg_sl ([.ref (bb + 0), .int (p1)]) ++ List.replicate (4 - (lg_sl ([.ref (bb + 0), .int (p1)])).length) Slot.unset).toArray = ls at hl ⊢
  have hl : lv_has ls 4 [(0, .ref (bb + 0)), (1, .int (p1))] := hl
  have hf : fX10_key p1 x = (if p1 < 0 then ((xcode "java/lang/IllegalArgumentException", x, 0)) else (if p1 ≤ 21 then (if ((fX10_press x.2.1 (x.1 0 6).toNatClampNeg p1 (foc x (x.1 0 6).toNatClampNeg)).2) = (-1) then ((0, (put x (x.1 0 6).toNatClampNeg (fX10_press x.2.1 (x.1 0 6).toNatClampNeg p1 (foc x (x.1 0 6).toNatClampNeg)).1), ((fX10_press x.2.1 (x.1 0 6).toNatClampNeg p1 (foc x (x.1 0 6).toNatClampNeg)).2))) else (if (fX10_keepsEntryAlive p1 (foc (put x (x.1 0 6).toNatClampNeg (fX10_press x.2.1 (x.1 0 6).toNatClampNeg p1 (foc x (x.1 0 6).toNatClampNeg)).1) 0)) = 0 then ((0, (put x (x.1 0 6).toNatClampNeg (fX10_press x.2.1 (x.1 0 6).toNatClampNeg p1 (foc x (x.1 0 6).toNatClampNeg)).1), ((fX10_press x.2.1 (x.1 0 6).toNatClampNeg p1 (foc x (x.1 0 6).toNatClampNeg)).2))) else ((0, (tC (put x (x.1 0 6).toNatClampNeg (fX10_press x.2.1 (x.1 0 6).toNatClampNeg p1 (foc x (x.1 0 6).toNatClampNeg)).1) (x.1 0 6).toNatClampNeg 1 6 (0)), ((fX10_press x.2.1 (x.1 0 6).toNatClampNeg p1 (foc x (x.1 0 6).toNatClampNeg)).2))))) else ((xcode "java/lang/IllegalArgumentException", x, 0)))) := rfl
  refine lv_iload_n hx hb dX10_key_0 rfl (lv_at hl 1 rfl) ?_
  refine lv_if_lt (tgt := 10) hx hb dX10_key_1 (by decide) (fun c_1 => ?_) (fun c_1 => ?_)
  · have hf_1 := hf.trans (if_pos c_1)
    exact xx_throw (X := "java/lang/IllegalArgumentException") (text := "no such key") (ik := 48) (is := 93) (ic := 52) hx hb hl9 hown (by decide) (by decide) (by decide +kernel) (hts (.classLink RX10 48 "java/lang/IllegalArgumentException") (by decide +kernel)) (hts (.initialized "java/lang/IllegalArgumentException") (by decide +kernel)) (fun w hw => hts w ((by decide +kernel : ∀ w ∈ (vx_atS RX10 52 "java/lang/IllegalArgumentException" xNm).filter goodWord, w ∈ wsX10_key) w hw)) (by decide +kernel) (by decide +kernel) hxs hS (hl.1.trans hml.symm) dX10_key_10 dX10_key_13 dX10_key_14 dX10_key_16 dX10_key_19 hEx (Nat.le_of_ble_eq_true rfl) (Nat.le_of_ble_eq_true rfl) (Nat.le_of_ble_eq_true rfl) (Nat.le_of_ble_eq_true rfl) (Nat.le_of_ble_eq_true rfl) (Nat.le_of_ble_eq_true rfl) hlocks hK hf_1 hW
  · have hf_1 := hf.trans (if_neg c_1)
    refine lv_iload_n hx hb dX10_key_4 rfl (lv_at hl 1 rfl) ?_
    refine lv_bipush (v := 21) hx hb dX10_key_5 (by decide) ?_
    refine lv_icmp_le (tgt := 20) hx hb dX10_key_7 (by decide) (fun c_7 => ?_) (fun c_7 => ?_)
    · have hf_7 := hf_1.trans (if_pos c_7)
      refine lv_aload_n hx hb dX10_key_20 rfl (lv_at hl 0 rfl) ?_
      refine fx_get (ci := 10) (v := .ref (bb + 2)) hx hb hts i10 hown hK (pw_P (o := 0) hW (by decide)) rfl 1 (by decide) kl17 rfl dX10_key_21 ?_
      refine lv_aload_n hx hb dX10_key_24 rfl (lv_at hl 0 rfl) ?_
      refine fx_get (ci := 10) (v := .int (x.1 0 6)) hx hb hts i10 hown hK (pw_P (o := 0) hW (by decide)) rfl 6 (by decide) kl95 rfl dX10_key_25 ?_
      refine fx_ald (v := .ref (bb + 21 + 14 * (x.1 0 6).toNatClampNeg + 0)) hx hb hK 2 (pw_P (o := 2) hW (by decide)) rfl hch rfl dX10_key_28 ?_
      refine lv_astore_n (lv' := [(2, .ref (bb + 21 + 14 * (x.1 0 6).toNatClampNeg + 0)), (0, .ref (bb + 0)), (1, .int (p1))]) hx hb dX10_key_29 rfl hl (by decide) rfl (fun ls hl => ?_)
      refine lv_aload_n hx hb dX10_key_30 rfl (lv_at hl 1 rfl) ?_
      refine lv_aload_n hx hb dX10_key_31 rfl (lv_at hl 0 rfl) ?_
      refine lv_iload_n hx hb dX10_key_32 rfl (lv_at hl 2 rfl) ?_
      refine gx_i (rest := []) ⟨hx, hb, hml, hown, hts⟩ (mX10_press l E bb x.2.1 x.2.2.1 (x.1 0 6).toNatClampNeg (vj_lt hch) (foc x (x.1 0 6).toNatClampNeg) p1 (hok (x.1 0 6).toNatClampNeg (vj_lt hch))) (cwV 2 hts gX10_key_X10_press rfl rfl rfl (by decide +kernel) ⟨Nat.le_of_ble_eq_true rfl, Nat.le_of_ble_eq_true rfl⟩) (pw_foc hW) hK (fx_recv hK (pw_P (o := 0) hW (by decide)) rfl) rfl hl.1 rfl (Nat.le_of_ble_eq_true rfl) dX10_key_33 ⟨Nat.le_of_ble_eq_true rfl, Nat.le_of_ble_eq_true rfl⟩ hS (fun _ h => Or.inl h) (fun u1 r1 H locs e1 e1r hW9 hS => ?_)
      have hW : pw E bb (put x (x.1 0 6).toNatClampNeg u1) H := hW9
      have e1 : (fX10_press x.2.1 (x.1 0 6).toNatClampNeg p1 (foc x (x.1 0 6).toNatClampNeg)).1 = u1 := e1
      have e1r : (fX10_press x.2.1 (x.1 0 6).toNatClampNeg p1 (foc x (x.1 0 6).toNatClampNeg)).2 = r1 := e1r
      try rw [e1] at hf_7
      try rw [e1r] at hf_7
      refine lv_istore_n (lv' := [(3, .int (r1)), (2, .ref (bb + 21 + 14 * (x.1 0 6).toNatClampNeg + 0)), (0, .ref (bb + 0)), (1, .int (p1))]) hx hb dX10_key_36 rfl hl (by decide) rfl (fun ls hl => ?_)
      refine lv_iload_n hx hb dX10_key_37 rfl (lv_at hl 0 rfl) ?_
      refine lv_iconst (v := -1) hx hb dX10_key_38 (by decide) ?_
      refine lv_icmp_eq (tgt := 57) hx hb dX10_key_39 (by decide) (fun c_39 => ?_) (fun c_39 => ?_)
      · have hf_39 := hf_7.trans (if_pos c_39)
        refine lv_iload_n hx hb dX10_key_57 rfl (lv_at hl 0 rfl) ?_
        exact xx_iret hx hb hr rfl hlocks hK hf_39 hW hS dX10_key_58 (Nat.le_of_ble_eq_true rfl) (Nat.le_of_ble_eq_true rfl)
      · have hf_39 := hf_7.trans (if_neg c_39)
        refine lv_iload_n hx hb dX10_key_42 rfl (lv_at hl 3 rfl) ?_
        refine gx_si (rest := []) ⟨hx, hb, hml, hown, hts⟩ (mX10_keepsEntryAlive l E bb (put x (x.1 0 6).toNatClampNeg u1).2.1 (put x (x.1 0 6).toNatClampNeg u1).2.2.1 0 (by decide) (foc (put x (x.1 0 6).toNatClampNeg u1) 0) p1) (va_cwS 1 hts gX10_key_X10_keepsEntryAlive rfl rfl rfl (by decide +kernel) ⟨Nat.le_of_ble_eq_true rfl, Nat.le_of_ble_eq_true rfl⟩) (pw_foc hW) hK rfl hl.1 rfl (Nat.le_of_ble_eq_true rfl) dX10_key_43 ⟨Nat.le_of_ble_eq_true rfl, Nat.le_of_ble_eq_true rfl⟩ hS (fun _ h => Or.inl h) (fun _ r2 H locs _ e2 hW9 hS => ?_)
        have hW : pw E bb (put x (x.1 0 6).toNatClampNeg u1) H := pw_unfoc hW9
        have e2 : fX10_keepsEntryAlive p1 (foc (put x (x.1 0 6).toNatClampNeg u1) 0) = r2 := e2
        try rw [e2] at hf_39
        refine lv_if_eq (tgt := 57) hx hb dX10_key_46 (by decide) (fun c_46 => ?_) (fun c_46 => ?_)
        · have hf_46 := hf_39.trans (if_pos c_46)
          refine lv_iload_n hx hb dX10_key_57 rfl (lv_at hl 0 rfl) ?_
          exact xx_iret hx hb hr rfl hlocks hK hf_46 hW hS dX10_key_58 (Nat.le_of_ble_eq_true rfl) (Nat.le_of_ble_eq_true rfl)
        · have hf_46 := hf_39.trans (if_neg c_46)
          refine lv_aload_n hx hb dX10_key_49 rfl (lv_at hl 1 rfl) ?_
          refine fx_get (ci := 1) (v := .ref (bb + 21 + 14 * (x.1 0 6).toNatClampNeg + 1)) hx hb hts i1 hown hK (pw_C (n := (x.1 0 6).toNatClampNeg) (o := 0) hW (vj_lt hch) (by decide)) rfl 1 (by decide) kl106 rfl dX10_key_50 ?_
          refine lv_iconst (v := 0) hx hb dX10_key_53 (by decide) ?_
          refine fx_put (ci := 3) (v := .int (0)) hx hb hts i3 tyX3_ok nmX3 hown hK (pw_C (n := (x.1 0 6).toNatClampNeg) (o := 1) hW (vj_lt hch) (by decide)) (Or.inl (cA_C (vj_lt hch) (by decide))) hS rfl 6 (by decide) kl110 rfl rfl rfl (Nat.le_of_ble_eq_true rfl) dX10_key_54 (fun H locs hat hne hS => ?_)
          have hW : pw E bb (tC (put x (x.1 0 6).toNatClampNeg u1) (x.1 0 6).toNatClampNeg 1 6 (0)) H := pw_sC (n := (x.1 0 6).toNatClampNeg) (o := 1) (k := 6) (v := 0) hW (vj_lt hch) (by decide) hat hne
          refine lv_iload_n hx hb dX10_key_57 rfl (lv_at hl 0 rfl) ?_
          exact xx_iret hx hb hr rfl hlocks hK hf_46 hW hS dX10_key_58 (Nat.le_of_ble_eq_true rfl) (Nat.le_of_ble_eq_true rfl)
    · have hf_7 := hf_1.trans (if_neg c_7)
      exact xx_throw (X := "java/lang/IllegalArgumentException") (text := "no such key") (ik := 48) (is := 93) (ic := 52) hx hb hl9 hown (by decide) (by decide) (by decide +kernel) (hts (.classLink RX10 48 "java/lang/IllegalArgumentException") (by decide +kernel)) (hts (.initialized "java/lang/IllegalArgumentException") (by decide +kernel)) (fun w hw => hts w ((by decide +kernel : ∀ w ∈ (vx_atS RX10 52 "java/lang/IllegalArgumentException" xNm).filter goodWord, w ∈ wsX10_key) w hw)) (by decide +kernel) (by decide +kernel) hxs hS (hl.1.trans hml.symm) dX10_key_10 dX10_key_13 dX10_key_14 dX10_key_16 dX10_key_19 hEx (Nat.le_of_ble_eq_true rfl) (Nat.le_of_ble_eq_true rfl) (Nat.le_of_ble_eq_true rfl) (Nat.le_of_ble_eq_true rfl) (Nat.le_of_ble_eq_true rfl) (Nat.le_of_ble_eq_true rfl) hlocks hK hf_7 hW

def fX10_log (p1 : Int32) (p2 : Int32) (x : PS) : Nat × PS × Int32 := if (fX5_keeps p1 (foc x 0)) = 0 then ((xcode "java/lang/IndexOutOfBoundsException", x, 0)) else (if p2 < 0 then ((xcode "java/lang/IndexOutOfBoundsException", x, 0)) else (if p2 < 4 then ((0, x, (fX5_read p1 p2 (foc x 0)))) else ((xcode "java/lang/IndexOutOfBoundsException", x, 0))))
set_option maxHeartbeats 4000000 in
set_option maxRecDepth 100000 in
theorem mX10_log (l : Launch) (hl9 : l.stackTraces = false) (E : eE) (bb sz : Nat) (x : PS) (p1 : Int32) (p2 : Int32) : vx_Met l yX10_log wsX10_log ({ frames := 6, cells := 1, slots := 6, locals := 90 }) (xPre E bb sz (pw E bb x) [.ref (bb + 0), .int (p1), .int (p2)]) (xQi E (pw E bb) (fX10_log p1 p2 x) (xA bb sz)) (xX E (pw E bb) (fX10_log p1 p2 x) (xA bb sz)) 1 6 (xA bb sz) := by
  refine vx_ofW (cc := cX10_log) (maxL := 3) (ret := (some .int)) (by decide) rfl ?_
  intro p e s m args below meth c s₁ B hml hEx hv
  obtain ⟨rfl, hsz, hW, hK, hxs⟩ := hv
  subst hsz
  have hx := B.exec
  have hb := B.bytes
  have hr := B.returns
  have hts := atoms_spec (ws := wsX10_log) B.pre
  have hown : s.vm.findClass RX10 = some m.cls := findClass_of_methodNamed B.named
  have hlocks := B.notSynchronized
  have i10 : ∀ w ∈ wsX100, w ∈ wsX10_log := by decide +kernel
  have kl24 := hts (.fieldLink RX10 24 "DosePump" "journal" "LDosePump$Journal;") (by decide +kernel)
  have hS : va_S (xA bb s.heap.size) s.heap s.heap [] := va_S.rf
  have hl := lv_entry ([.ref (bb + 0), .int (p1), .int (p2)]) (n := 3) (Nat.le_of_ble_eq_true rfl)
  rw [lg_entry_eq]
  generalize (lg_sl ([.ref (bb + 0), .int (p1), .int (p2)]) ++ List.replicate (3 - (lg_sl ([.ref (bb + 0), .int (p1), .int (p2)])).length) Slot.unset).toArray = ls at hl ⊢
  have hl : lv_has ls 3 [(0, .ref (bb + 0)), (1, .int (p1)), (2, .int (p2))] := hl
  have hf : fX10_log p1 p2 x = (if (fX5_keeps p1 (foc x 0)) = 0 then ((xcode "java/lang/IndexOutOfBoundsException", x, 0)) else (if p2 < 0 then ((xcode "java/lang/IndexOutOfBoundsException", x, 0)) else (if p2 < 4 then ((0, x, (fX5_read p1 p2 (foc x 0)))) else ((xcode "java/lang/IndexOutOfBoundsException", x, 0))))) := rfl
  refine lv_aload_n hx hb dX10_log_0 rfl (lv_at hl 0 rfl) ?_
  refine fx_get (ci := 10) (v := .ref (bb + 3)) hx hb hts i10 hown hK (pw_P (o := 0) hW (by decide)) rfl 2 (by decide) kl24 rfl dX10_log_1 ?_
  refine lv_iload_n hx hb dX10_log_4 rfl (lv_at hl 1 rfl) ?_
  refine gx_i (rest := []) ⟨hx, hb, hml, hown, hts⟩ (mX5_keeps l E bb x.2.1 x.2.2.1 0 (by decide) (foc x 0) p1) (cwV 1 hts gX10_log_X5_keeps rfl rfl rfl (by decide +kernel) ⟨Nat.le_of_ble_eq_true rfl, Nat.le_of_ble_eq_true rfl⟩) (pw_foc hW) hK (fx_recv hK (pw_P (o := 3) hW (by decide)) rfl) rfl hl.1 rfl (Nat.le_of_ble_eq_true rfl) dX10_log_5 ⟨Nat.le_of_ble_eq_true rfl, Nat.le_of_ble_eq_true rfl⟩ hS (fun _ h => Or.inl h) (fun _ r1 H locs _ e1 hW9 hS => ?_)
  have hW : pw E bb x H := pw_unfoc hW9
  have e1 : fX5_keeps p1 (foc x 0) = r1 := e1
  try rw [e1] at hf
  refine lv_if_eq (tgt := 20) hx hb dX10_log_8 (by decide) (fun c_8 => ?_) (fun c_8 => ?_)
  · have hf_8 := hf.trans (if_pos c_8)
    exact xx_throw (X := "java/lang/IndexOutOfBoundsException") (text := "no such entry or what") (ik := 41) (is := 254) (ic := 45) hx hb hl9 hown (by decide) (by decide) (by decide +kernel) (hts (.classLink RX10 41 "java/lang/IndexOutOfBoundsException") (by decide +kernel)) (hts (.initialized "java/lang/IndexOutOfBoundsException") (by decide +kernel)) (fun w hw => hts w ((by decide +kernel : ∀ w ∈ (vx_atS RX10 45 "java/lang/IndexOutOfBoundsException" xNm).filter goodWord, w ∈ wsX10_log) w hw)) (by decide +kernel) (by decide +kernel) hxs hS (hl.1.trans hml.symm) dX10_log_20 dX10_log_23 dX10_log_24 dX10_log_26 dX10_log_29 hEx (Nat.le_of_ble_eq_true rfl) (Nat.le_of_ble_eq_true rfl) (Nat.le_of_ble_eq_true rfl) (Nat.le_of_ble_eq_true rfl) (Nat.le_of_ble_eq_true rfl) (Nat.le_of_ble_eq_true rfl) hlocks hK hf_8 hW
  · have hf_8 := hf.trans (if_neg c_8)
    refine lv_iload_n hx hb dX10_log_11 rfl (lv_at hl 2 rfl) ?_
    refine lv_if_lt (tgt := 20) hx hb dX10_log_12 (by decide) (fun c_12 => ?_) (fun c_12 => ?_)
    · have hf_12 := hf_8.trans (if_pos c_12)
      exact xx_throw (X := "java/lang/IndexOutOfBoundsException") (text := "no such entry or what") (ik := 41) (is := 254) (ic := 45) hx hb hl9 hown (by decide) (by decide) (by decide +kernel) (hts (.classLink RX10 41 "java/lang/IndexOutOfBoundsException") (by decide +kernel)) (hts (.initialized "java/lang/IndexOutOfBoundsException") (by decide +kernel)) (fun w hw => hts w ((by decide +kernel : ∀ w ∈ (vx_atS RX10 45 "java/lang/IndexOutOfBoundsException" xNm).filter goodWord, w ∈ wsX10_log) w hw)) (by decide +kernel) (by decide +kernel) hxs hS (hl.1.trans hml.symm) dX10_log_20 dX10_log_23 dX10_log_24 dX10_log_26 dX10_log_29 hEx (Nat.le_of_ble_eq_true rfl) (Nat.le_of_ble_eq_true rfl) (Nat.le_of_ble_eq_true rfl) (Nat.le_of_ble_eq_true rfl) (Nat.le_of_ble_eq_true rfl) (Nat.le_of_ble_eq_true rfl) hlocks hK hf_12 hW
    · have hf_12 := hf_8.trans (if_neg c_12)
      refine lv_iload_n hx hb dX10_log_15 rfl (lv_at hl 2 rfl) ?_
      refine lv_iconst (v := 4) hx hb dX10_log_16 (by decide) ?_
      refine lv_icmp_lt (tgt := 30) hx hb dX10_log_17 (by decide) (fun c_17 => ?_) (fun c_17 => ?_)
      · have hf_17 := hf_12.trans (if_pos c_17)
        refine lv_aload_n hx hb dX10_log_30 rfl (lv_at hl 0 rfl) ?_
        refine fx_get (ci := 10) (v := .ref (bb + 3)) hx hb hts i10 hown hK (pw_P (o := 0) hW (by decide)) rfl 2 (by decide) kl24 rfl dX10_log_31 ?_
        refine lv_iload_n hx hb dX10_log_34 rfl (lv_at hl 1 rfl) ?_
        refine lv_iload_n hx hb dX10_log_35 rfl (lv_at hl 2 rfl) ?_
        refine gx_i (rest := []) ⟨hx, hb, hml, hown, hts⟩ (mX5_read l E bb x.2.1 x.2.2.1 0 (by decide) (foc x 0) p1 p2 (vj_of4 c_12 c_17)) (cwV 2 hts gX10_log_X5_read rfl rfl rfl (by decide +kernel) ⟨Nat.le_of_ble_eq_true rfl, Nat.le_of_ble_eq_true rfl⟩) (pw_foc hW) hK (fx_recv hK (pw_P (o := 3) hW (by decide)) rfl) rfl hl.1 rfl (Nat.le_of_ble_eq_true rfl) dX10_log_36 ⟨Nat.le_of_ble_eq_true rfl, Nat.le_of_ble_eq_true rfl⟩ hS (fun _ h => Or.inl h) (fun _ r2 H locs _ e2 hW9 hS => ?_)
        have hW : pw E bb x H := pw_unfoc hW9
        have e2 : fX5_read p1 p2 (foc x 0) = r2 := e2
        try rw [e2] at hf_17
        exact xx_iret hx hb hr rfl hlocks hK hf_17 hW hS dX10_log_39 (Nat.le_of_ble_eq_true rfl) (Nat.le_of_ble_eq_true rfl)
      · have hf_17 := hf_12.trans (if_neg c_17)
        exact xx_throw (X := "java/lang/IndexOutOfBoundsException") (text := "no such entry or what") (ik := 41) (is := 254) (ic := 45) hx hb hl9 hown (by decide) (by decide) (by decide +kernel) (hts (.classLink RX10 41 "java/lang/IndexOutOfBoundsException") (by decide +kernel)) (hts (.initialized "java/lang/IndexOutOfBoundsException") (by decide +kernel)) (fun w hw => hts w ((by decide +kernel : ∀ w ∈ (vx_atS RX10 45 "java/lang/IndexOutOfBoundsException" xNm).filter goodWord, w ∈ wsX10_log) w hw)) (by decide +kernel) (by decide +kernel) hxs hS (hl.1.trans hml.symm) dX10_log_20 dX10_log_23 dX10_log_24 dX10_log_26 dX10_log_29 hEx (Nat.le_of_ble_eq_true rfl) (Nat.le_of_ble_eq_true rfl) (Nat.le_of_ble_eq_true rfl) (Nat.le_of_ble_eq_true rfl) (Nat.le_of_ble_eq_true rfl) (Nat.le_of_ble_eq_true rfl) hlocks hK hf_17 hW

def fX10_rate (p1 : Int32) (p2 : Int32) (p3 : Int32) (x : PS) : Nat × PS × Int32 := if (fX10_toldDrug p1 x).1 = 0 then (if p2 < 1 then ((xcode "java/lang/IllegalArgumentException", x, 0)) else (if (99999 : Int32) < p2 then ((xcode "java/lang/IllegalArgumentException", x, 0)) else (if p3 < 5 then ((xcode "java/lang/IllegalArgumentException", x, 0)) else (if p3 ≤ 3000 then ((0, x, (fX2_rateFor x.2.1 p1 p2 p3 (foc x 0)))) else ((xcode "java/lang/IllegalArgumentException", x, 0)))))) else ((fX10_toldDrug p1 x).1, (fX10_toldDrug p1 x).2.1, 0)
set_option maxHeartbeats 4000000 in
set_option maxRecDepth 100000 in
theorem mX10_rate (l : Launch) (hl9 : l.stackTraces = false) (E : eE) (bb sz : Nat) (x : PS) (p1 : Int32) (p2 : Int32) (p3 : Int32) : vx_Met l yX10_rate wsX10_rate ({ frames := 7, cells := 2, slots := 12, locals := 111 }) (xPre E bb sz (pw E bb x) [.ref (bb + 0), .int (p1), .int (p2), .int (p3)]) (xQi E (pw E bb) (fX10_rate p1 p2 p3 x) (xA bb sz)) (xX E (pw E bb) (fX10_rate p1 p2 p3 x) (xA bb sz)) 2 12 (xA bb sz) := by
  refine vx_ofW (cc := cX10_rate) (maxL := 5) (ret := (some .int)) (by decide) rfl ?_
  intro p e s m args below meth c s₁ B hml hEx hv
  obtain ⟨rfl, hsz, hW, hK, hxs⟩ := hv
  subst hsz
  have hx := B.exec
  have hb := B.bytes
  have hr := B.returns
  have hts := atoms_spec (ws := wsX10_rate) B.pre
  have hown : s.vm.findClass RX10 = some m.cls := findClass_of_methodNamed B.named
  have hlocks := B.notSynchronized
  have hS : va_S (xA bb s.heap.size) s.heap s.heap [] := va_S.rf
  have hl := lv_entry ([.ref (bb + 0), .int (p1), .int (p2), .int (p3)]) (n := 5) (Nat.le_of_ble_eq_true rfl)
  rw [lg_entry_eq]
  generalize (lg_sl ([.ref (bb + 0), .int (p1), .int (p2), .int (p3)]) ++ List.replicate (5 - (lg_sl ([.ref (bb + 0), .int (p1), .int (p2), .int (p3)])).length) Slot.unset).toArray = ls at hl ⊢
  have hl : lv_has ls 5 [(0, .ref (bb + 0)), (1, .int (p1)), (2, .int (p2)), (3, .int (p3))] := hl
  have hf : fX10_rate p1 p2 p3 x = (if (fX10_toldDrug p1 x).1 = 0 then (if p2 < 1 then ((xcode "java/lang/IllegalArgumentException", x, 0)) else (if (99999 : Int32) < p2 then ((xcode "java/lang/IllegalArgumentException", x, 0)) else (if p3 < 5 then ((xcode "java/lang/IllegalArgumentException", x, 0)) else (if p3 ≤ 3000 then ((0, x, (fX2_rateFor x.2.1 p1 p2 p3 (foc x 0)))) else ((xcode "java/lang/IllegalArgumentException", x, 0)))))) else ((fX10_toldDrug p1 x).1, (fX10_toldDrug p1 x).2.1, 0)) := rfl
  refine lv_aload_n hx hb dX10_rate_0 rfl (lv_at hl 0 rfl) ?_
  refine lv_iload_n hx hb dX10_rate_1 rfl (lv_at hl 1 rfl) ?_
  refine xx_cr (rest := []) ⟨hx, hb, hml, hown, hts⟩ (mX10_toldDrug l hl9 E bb _ x p1) (cwV 1 hts gX10_rate_X10_toldDrug rfl rfl rfl (by decide +kernel) ⟨Nat.le_of_ble_eq_true rfl, Nat.le_of_ble_eq_true rfl⟩) hW hK hxs (fx_recv hK (pw_P (o := 0) hW (by decide)) rfl) rfl hl.1 rfl (Nat.le_of_ble_eq_true rfl) dX10_rate_2 ⟨Nat.le_of_ble_eq_true rfl, Nat.le_of_ble_eq_true rfl⟩ hS hEx hlocks (Nat.le_of_ble_eq_true rfl) (Nat.le_of_ble_eq_true rfl) (fun h9 => hf.trans (if_neg h9)) (fun u1 r1 H locs z1 e1 e1r hW hS => ?_)
  have hf_2 := hf.trans (if_pos z1)
  have e1 : x = u1 := (pureX10_toldDrug).symm.trans e1
  subst e1
  have e1r : p1 = r1 := (ansX10_toldDrug z1).symm.trans e1r
  subst e1r
  have hin1 := inX10_toldDrug z1
  refine lv_astore (lv' := [(4, .ref (dAd bb (p1).toNatClampNeg)), (0, .ref (bb + 0)), (1, .int (p1)), (2, .int (p2)), (3, .int (p3))]) hx hb dX10_rate_5 hl (by decide) rfl (fun ls hl => ?_)
  refine lv_iload_n hx hb dX10_rate_7 rfl (lv_at hl 3 rfl) ?_
  refine lv_iconst (v := 1) hx hb dX10_rate_8 (by decide) ?_
  refine lv_icmp_lt (tgt := 30) hx hb dX10_rate_9 (by decide) (fun c_9 => ?_) (fun c_9 => ?_)
  · have hf_9 := hf_2.trans (if_pos c_9)
    exact xx_throw (X := "java/lang/IllegalArgumentException") (text := "amount or weight") (ik := 48) (is := 245) (ic := 52) hx hb hl9 hown (by decide) (by decide) (by decide +kernel) (hts (.classLink RX10 48 "java/lang/IllegalArgumentException") (by decide +kernel)) (hts (.initialized "java/lang/IllegalArgumentException") (by decide +kernel)) (fun w hw => hts w ((by decide +kernel : ∀ w ∈ (vx_atS RX10 52 "java/lang/IllegalArgumentException" xNm).filter goodWord, w ∈ wsX10_rate) w hw)) (by decide +kernel) (by decide +kernel) hxs hS (hl.1.trans hml.symm) dX10_rate_30 dX10_rate_33 dX10_rate_34 dX10_rate_36 dX10_rate_39 hEx (Nat.le_of_ble_eq_true rfl) (Nat.le_of_ble_eq_true rfl) (Nat.le_of_ble_eq_true rfl) (Nat.le_of_ble_eq_true rfl) (Nat.le_of_ble_eq_true rfl) (Nat.le_of_ble_eq_true rfl) hlocks hK hf_9 hW
  · have hf_9 := hf_2.trans (if_neg c_9)
    refine lv_iload_n hx hb dX10_rate_12 rfl (lv_at hl 3 rfl) ?_
    refine lv_ldc hx hb hown (hts (.constant RX10 53 (99999)) (by decide +kernel)) dX10_rate_13 ?_
    refine lv_icmp_gt (tgt := 30) hx hb dX10_rate_15 (by decide) (fun c_15 => ?_) (fun c_15 => ?_)
    · have hf_15 := hf_9.trans (if_pos c_15)
      exact xx_throw (X := "java/lang/IllegalArgumentException") (text := "amount or weight") (ik := 48) (is := 245) (ic := 52) hx hb hl9 hown (by decide) (by decide) (by decide +kernel) (hts (.classLink RX10 48 "java/lang/IllegalArgumentException") (by decide +kernel)) (hts (.initialized "java/lang/IllegalArgumentException") (by decide +kernel)) (fun w hw => hts w ((by decide +kernel : ∀ w ∈ (vx_atS RX10 52 "java/lang/IllegalArgumentException" xNm).filter goodWord, w ∈ wsX10_rate) w hw)) (by decide +kernel) (by decide +kernel) hxs hS (hl.1.trans hml.symm) dX10_rate_30 dX10_rate_33 dX10_rate_34 dX10_rate_36 dX10_rate_39 hEx (Nat.le_of_ble_eq_true rfl) (Nat.le_of_ble_eq_true rfl) (Nat.le_of_ble_eq_true rfl) (Nat.le_of_ble_eq_true rfl) (Nat.le_of_ble_eq_true rfl) (Nat.le_of_ble_eq_true rfl) hlocks hK hf_15 hW
    · have hf_15 := hf_9.trans (if_neg c_15)
      refine lv_iload_n hx hb dX10_rate_18 rfl (lv_at hl 4 rfl) ?_
      refine lv_iconst (v := 5) hx hb dX10_rate_19 (by decide) ?_
      refine lv_icmp_lt (tgt := 30) hx hb dX10_rate_20 (by decide) (fun c_20 => ?_) (fun c_20 => ?_)
      · have hf_20 := hf_15.trans (if_pos c_20)
        exact xx_throw (X := "java/lang/IllegalArgumentException") (text := "amount or weight") (ik := 48) (is := 245) (ic := 52) hx hb hl9 hown (by decide) (by decide) (by decide +kernel) (hts (.classLink RX10 48 "java/lang/IllegalArgumentException") (by decide +kernel)) (hts (.initialized "java/lang/IllegalArgumentException") (by decide +kernel)) (fun w hw => hts w ((by decide +kernel : ∀ w ∈ (vx_atS RX10 52 "java/lang/IllegalArgumentException" xNm).filter goodWord, w ∈ wsX10_rate) w hw)) (by decide +kernel) (by decide +kernel) hxs hS (hl.1.trans hml.symm) dX10_rate_30 dX10_rate_33 dX10_rate_34 dX10_rate_36 dX10_rate_39 hEx (Nat.le_of_ble_eq_true rfl) (Nat.le_of_ble_eq_true rfl) (Nat.le_of_ble_eq_true rfl) (Nat.le_of_ble_eq_true rfl) (Nat.le_of_ble_eq_true rfl) (Nat.le_of_ble_eq_true rfl) hlocks hK hf_20 hW
      · have hf_20 := hf_15.trans (if_neg c_20)
        refine lv_iload_n hx hb dX10_rate_23 rfl (lv_at hl 4 rfl) ?_
        refine lv_sipush (v := 3000) hx hb dX10_rate_24 (by decide) ?_
        refine lv_icmp_le (tgt := 40) hx hb dX10_rate_27 (by decide) (fun c_27 => ?_) (fun c_27 => ?_)
        · have hf_27 := hf_20.trans (if_pos c_27)
          refine lv_aload hx hb dX10_rate_40 (lv_at hl 0 rfl) ?_
          refine lv_iload_n hx hb dX10_rate_42 rfl (lv_at hl 3 rfl) ?_
          refine lv_iload_n hx hb dX10_rate_43 rfl (lv_at hl 4 rfl) ?_
          refine gx_i (rest := []) ⟨hx, hb, hml, hown, hts⟩ (mX2_rateFor l E bb x.2.1 x.2.2.1 0 (by decide) (foc x 0) p1 p2 p3 (vi_22 hin1)) (cwV 2 hts gX10_rate_X2_rateFor rfl rfl rfl (by decide +kernel) ⟨Nat.le_of_ble_eq_true rfl, Nat.le_of_ble_eq_true rfl⟩) (pw_foc hW) hK (fx_recv hK (pw_D hW (vi_22 hin1)) rfl) rfl hl.1 rfl (Nat.le_of_ble_eq_true rfl) dX10_rate_44 ⟨Nat.le_of_ble_eq_true rfl, Nat.le_of_ble_eq_true rfl⟩ hS (fun _ h => Or.inl h) (fun _ r2 H locs _ e2 hW9 hS => ?_)
          have hW : pw E bb x H := pw_unfoc hW9
          have e2 : fX2_rateFor x.2.1 p1 p2 p3 (foc x 0) = r2 := e2
          try rw [e2] at hf_27
          exact xx_iret hx hb hr rfl hlocks hK hf_27 hW hS dX10_rate_47 (Nat.le_of_ble_eq_true rfl) (Nat.le_of_ble_eq_true rfl)
        · have hf_27 := hf_20.trans (if_neg c_27)
          exact xx_throw (X := "java/lang/IllegalArgumentException") (text := "amount or weight") (ik := 48) (is := 245) (ic := 52) hx hb hl9 hown (by decide) (by decide) (by decide +kernel) (hts (.classLink RX10 48 "java/lang/IllegalArgumentException") (by decide +kernel)) (hts (.initialized "java/lang/IllegalArgumentException") (by decide +kernel)) (fun w hw => hts w ((by decide +kernel : ∀ w ∈ (vx_atS RX10 52 "java/lang/IllegalArgumentException" xNm).filter goodWord, w ∈ wsX10_rate) w hw)) (by decide +kernel) (by decide +kernel) hxs hS (hl.1.trans hml.symm) dX10_rate_30 dX10_rate_33 dX10_rate_34 dX10_rate_36 dX10_rate_39 hEx (Nat.le_of_ble_eq_true rfl) (Nat.le_of_ble_eq_true rfl) (Nat.le_of_ble_eq_true rfl) (Nat.le_of_ble_eq_true rfl) (Nat.le_of_ble_eq_true rfl) (Nat.le_of_ble_eq_true rfl) hlocks hK hf_27 hW
