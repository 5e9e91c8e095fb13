/-! the keypad -/
def fX10_pressClear_J56 (n : Nat) (y : FS) : FS × Int32 := (y, y.2.1 0 6)
def fX10_pressClear (n : Nat) (x : FS) : FS × Int32 := if (x.2.1 0 6) = 5 then (fX10_pressClear_J56 n (fX1_goTo 3 x)) else (if (fX1_takesNumber x) = 0 then ((x, -1)) else (if (fX9_length x) ≤ 0 then (fX10_pressClear_J56 n (fX10_dropEntry n x)) else (fX10_pressClear_J56 n (fX9_clear x))))
set_option maxHeartbeats 4000000 in
set_option maxRecDepth 100000 in
theorem mX10_pressClear (l : Launch) (E : eE) (bb : Nat) (gd : Nat → Nat → Int32) (ch : Nat → Nat → Nat → Int32) (n : Nat) (hn : n < 3) (x : FS) : Met l yX10_pressClear wsX10_pressClear ({ frames := 3, cells := 0, slots := 0, locals := 73 }) (gPre E (cwf E bb gd ch n x) [.ref (bb + 0), .ref (bb + 21 + 14 * n + 0)]) (gQi E (cwf E bb gd ch n) (fX10_pressClear n x) (cA bb)) 0 0 (cA bb) := by
  refine Met.ofW (cc := cX10_pressClear) (maxL := 2) (ret := (some .int)) (by decide) rfl ?_
  intro p e s m args below meth c s₁ B hml hv
  obtain ⟨rfl, hW, hK⟩ := hv
  have hx := B.exec
  have hb := B.bytes
  have hr := B.returns
  have hts := atoms_spec (ws := wsX10_pressClear) B.pre
  have hown : s.vm.findClass RX10 = some m.cls := findClass_of_methodNamed B.named
  have hlocks := B.notSynchronized
  have i1 : ∀ w ∈ wsX10, w ∈ wsX10_pressClear := by decide +kernel
  have i3 : ∀ w ∈ wsX30, w ∈ wsX10_pressClear := by decide +kernel
  have kl106 := hts (.fieldLink RX10 106 "DosePump$Channel" "entry" "LDosePump$Entry;") (by decide +kernel)
  have kl141 := hts (.fieldLink RX10 141 "DosePump$Channel" "phase" "I") (by decide +kernel)
  have kl226 := hts (.fieldLink RX10 226 "DosePump$Entry" "typed" "LDosePump$Typed;") (by decide +kernel)
  have hS : va_S (cA bb) s.heap s.heap [] := va_S.rf
  have hl := lv_entry ([.ref (bb + 0), .ref (bb + 21 + 14 * n + 0)]) (n := 2) (Nat.le_of_ble_eq_true rfl)
  rw [lg_entry_eq]
  generalize (lg_sl ([.ref (bb + 0), .ref (bb + 21 + 14 * n + 0)]) ++ List.replicate (2 - (lg_sl ([.ref (bb + 0), .ref (bb + 21 + 14 * n + 0)])).length) Slot.unset).toArray = ls at hl ⊢
  have hl : lv_has ls 2 [(0, .ref (bb + 0)), (1, .ref (bb + 21 + 14 * n + 0))] := hl
  have J56 : ∀ (H : Heap) (locs : List Loc) (ls : Array Slot) (y : FS), cwf E bb gd ch n y H → va_S (cA bb) s.heap H locs → lv_has ls 2 [(1, .ref (bb + 21 + 14 * n + 0))] → fX10_pressClear n x = fX10_pressClear_J56 n y → W p l e (headSpec wsX10_pressClear { frames := 3, cells := 0, slots := 0, locals := 73 }).room s m ([.ref (bb + 0), .ref (bb + 21 + 14 * n + 0)] : List Value).toArray below meth c H locs 0 0 (MQ below (gQi E (cwf E bb gd ch n) (fX10_pressClear n x) (cA bb)) ([.ref (bb + 0), .ref (bb + 21 + 14 * n + 0)] : List Value).toArray s 0 0 (cA bb)) (F0 m 56 ls []) := by
    intro H locs ls y hW hS hl hf
    replace hf : fX10_pressClear n x = ((y, y.2.1 0 6)) := hf
    refine lv_aload_n hx hb dX10_pressClear_56 rfl (lv_at hl 0 rfl) ?_
    refine fx_get (ci := 1) (v := .int (y.2.1 0 6)) hx hb hts i1 hown hK (cwf_C (o := 0) hW hn (by decide)) rfl 6 (by decide) kl141 rfl dX10_pressClear_57 ?_
    exact gx_iret hx hb hr rfl hlocks hK hf hW hS dX10_pressClear_60
  have hf : fX10_pressClear n x = (if (x.2.1 0 6) = 5 then (fX10_pressClear_J56 n (fX1_goTo 3 x)) else (if (fX1_takesNumber x) = 0 then ((x, -1)) else (if (fX9_length x) ≤ 0 then (fX10_pressClear_J56 n (fX10_dropEntry n x)) else (fX10_pressClear_J56 n (fX9_clear x))))) := rfl
  refine lv_aload_n hx hb dX10_pressClear_0 rfl (lv_at hl 1 rfl) ?_
  refine fx_get (ci := 1) (v := .int (x.2.1 0 6)) hx hb hts i1 hown hK (cwf_C (o := 0) hW hn (by decide)) rfl 6 (by decide) kl141 rfl dX10_pressClear_1 ?_
  refine lv_iconst (v := 5) hx hb dX10_pressClear_4 (by decide) ?_
  refine lv_icmp_ne (tgt := 16) hx hb dX10_pressClear_5 (by decide) (fun c_5 => ?_) (fun c_5 => ?_)
  · have hf_5 := hf.trans (if_neg c_5)
    refine lv_aload_n hx hb dX10_pressClear_16 rfl (lv_at hl 1 rfl) ?_
    refine gx_i (rest := []) ⟨hx, hb, hml, hown, hts⟩ (mX1_takesNumber l E bb gd ch n hn x) (cwV 0 hts gX10_pressClear_X1_takesNumber rfl rfl rfl (by decide +kernel) ⟨Nat.le_of_ble_eq_true rfl, Nat.le_of_ble_eq_true rfl⟩) hW hK (fx_recv hK (cwf_C (o := 0) hW hn (by decide)) rfl) rfl hl.1 rfl (Nat.le_of_ble_eq_true rfl) dX10_pressClear_17 ⟨Nat.le_of_ble_eq_true rfl, Nat.le_of_ble_eq_true rfl⟩ hS (fun _ h => h) (fun _ r1 H locs _ e1 hW hS => ?_)
    have e1 : fX1_takesNumber x = r1 := e1
    try rw [e1] at hf_5
    refine lv_if_ne (tgt := 25) hx hb dX10_pressClear_20 (by decide) (fun c_20 => ?_) (fun c_20 => ?_)
    · have hf_20 := hf_5.trans (if_neg c_20)
      refine lv_aload_n hx hb dX10_pressClear_25 rfl (lv_at hl 1 rfl) ?_
      refine fx_get (ci := 1) (v := .ref (bb + 21 + 14 * n + 1)) hx hb hts i1 hown hK (cwf_C (o := 0) hW hn (by decide)) rfl 1 (by decide) kl106 rfl dX10_pressClear_26 ?_
      refine fx_get (ci := 3) (v := .ref (bb + 21 + 14 * n + 2)) hx hb hts i3 hown hK (cwf_C (o := 1) hW hn (by decide)) rfl 0 (by decide) kl226 rfl dX10_pressClear_29 ?_
      refine gx_i (rest := []) ⟨hx, hb, hml, hown, hts⟩ (mX9_length l E bb gd ch n hn x) (cwV 0 hts gX10_pressClear_X9_length rfl rfl rfl (by decide +kernel) ⟨Nat.le_of_ble_eq_true rfl, Nat.le_of_ble_eq_true rfl⟩) hW hK (fx_recv hK (cwf_C (o := 2) hW hn (by decide)) rfl) rfl hl.1 rfl (Nat.le_of_ble_eq_true rfl) dX10_pressClear_32 ⟨Nat.le_of_ble_eq_true rfl, Nat.le_of_ble_eq_true rfl⟩ hS (fun _ h => h) (fun _ r2 H locs _ e2 hW hS => ?_)
      have e2 : fX9_length x = r2 := e2
      try rw [e2] at hf_20
      refine lv_if_le (tgt := 51) hx hb dX10_pressClear_35 (by decide) (fun c_35 => ?_) (fun c_35 => ?_)
      · have hf_35 := hf_20.trans (if_pos c_35)
        refine lv_aload_n hx hb dX10_pressClear_51 rfl (lv_at hl 0 rfl) ?_
        refine lv_aload_n hx hb dX10_pressClear_52 rfl (lv_at hl 1 rfl) ?_
        refine gx_v (rest := []) ⟨hx, hb, hml, hown, hts⟩ (mX10_dropEntry l E bb gd ch n hn x) (cwV 1 hts gX10_pressClear_X10_dropEntry rfl rfl rfl (by decide +kernel) ⟨Nat.le_of_ble_eq_true rfl, Nat.le_of_ble_eq_true rfl⟩) hW hK (fx_recv hK (cwf_P (o := 0) hW (by decide)) rfl) rfl hl.1 rfl (Nat.le_of_ble_eq_true rfl) dX10_pressClear_53 ⟨Nat.le_of_ble_eq_true rfl, Nat.le_of_ble_eq_true rfl⟩ hS (fun _ h => h) (fun u3 H locs e3 hW hS => ?_)
        have e3 : fX10_dropEntry n x = u3 := e3
        try rw [e3] at hf_35
        exact J56 _ _ _ u3 hW hS (lv_sub hl [1] rfl) hf_35
      · have hf_35 := hf_20.trans (if_neg c_35)
        refine lv_aload_n hx hb dX10_pressClear_38 rfl (lv_at hl 1 rfl) ?_
        refine fx_get (ci := 1) (v := .ref (bb + 21 + 14 * n + 1)) hx hb hts i1 hown hK (cwf_C (o := 0) hW hn (by decide)) rfl 1 (by decide) kl106 rfl dX10_pressClear_39 ?_
        refine fx_get (ci := 3) (v := .ref (bb + 21 + 14 * n + 2)) hx hb hts i3 hown hK (cwf_C (o := 1) hW hn (by decide)) rfl 0 (by decide) kl226 rfl dX10_pressClear_42 ?_
        refine gx_v (rest := []) ⟨hx, hb, hml, hown, hts⟩ (mX9_clear l E bb gd ch n hn x) (cwV 0 hts gX10_pressClear_X9_clear rfl rfl rfl (by decide +kernel) ⟨Nat.le_of_ble_eq_true rfl, Nat.le_of_ble_eq_true rfl⟩) hW hK (fx_recv hK (cwf_C (o := 2) hW hn (by decide)) rfl) rfl hl.1 rfl (Nat.le_of_ble_eq_true rfl) dX10_pressClear_45 ⟨Nat.le_of_ble_eq_true rfl, Nat.le_of_ble_eq_true rfl⟩ hS (fun _ h => h) (fun u4 H locs e4 hW hS => ?_)
        have e4 : fX9_clear x = u4 := e4
        try rw [e4] at hf_35
        refine lv_goto (tgt := 56) hx hb dX10_pressClear_48 (by decide) ?_
        exact J56 _ _ _ u4 hW hS (lv_sub hl [1] rfl) hf_35
    · have hf_20 := hf_5.trans (if_pos c_20)
      refine lv_iconst (v := -1) hx hb dX10_pressClear_23 (by decide) ?_
      exact gx_iret hx hb hr rfl hlocks hK hf_20 hW hS dX10_pressClear_24
  · have hf_5 := hf.trans (if_pos c_5)
    refine lv_aload_n hx hb dX10_pressClear_8 rfl (lv_at hl 1 rfl) ?_
    refine lv_iconst (v := 3) hx hb dX10_pressClear_9 (by decide) ?_
    refine gx_v (rest := []) ⟨hx, hb, hml, hown, hts⟩ (mX1_goTo l E bb gd ch n hn x 3) (cwV 1 hts gX10_pressClear_X1_goTo rfl rfl rfl (by decide +kernel) ⟨Nat.le_of_ble_eq_true rfl, Nat.le_of_ble_eq_true rfl⟩) hW hK (fx_recv hK (cwf_C (o := 0) hW hn (by decide)) rfl) rfl hl.1 rfl (Nat.le_of_ble_eq_true rfl) dX10_pressClear_10 ⟨Nat.le_of_ble_eq_true rfl, Nat.le_of_ble_eq_true rfl⟩ hS (fun _ h => h) (fun u5 H locs e5 hW hS => ?_)
    have e5 : fX1_goTo 3 x = u5 := e5
    try rw [e5] at hf_5
    refine lv_goto (tgt := 56) hx hb dX10_pressClear_13 (by decide) ?_
    exact J56 _ _ _ u5 hW hS (lv_sub hl [1] rfl) hf_5
theorem okX10_pressClear_J56 {n : Nat} {y : FS} (hn : n < 3) (hok : okF y) : okF (fX10_pressClear_J56 n y).1 := by unfold fX10_pressClear_J56; exact hok
theorem okX10_pressClear {n : Nat} {x : FS} (hn : n < 3) (hok : okF x) : okF (fX10_pressClear n x).1 := by unfold fX10_pressClear; exact (okF_ite1 (fun c_5 => (okX10_pressClear_J56 hn (okX1_goTo hok))) (fun c_5 => (okF_ite1 (fun c_20 => hok) (fun c_20 => (okF_ite1 (fun c_35 => (okX10_pressClear_J56 hn (okX10_dropEntry hn hok))) (fun c_35 => (okX10_pressClear_J56 hn (okX9_clear hok))))))))

def fX10_enterDrug_J42 (gd : Nat → Nat → Int32) (p1 : Int32) (y : FS) (w0 : Int32) : FS × Int32 := ((fX1_goTo w0 y), (fX1_goTo w0 y).2.1 0 6)
def fX10_enterDrug (gd : Nat → Nat → Int32) (p1 : Int32) (x : FS) : FS × Int32 := if (fX10_isTold gd p1 x) = 0 then ((x, -1)) else (if (dRow gd (p1).toNatClampNeg 2) = 1 then (fX10_enterDrug_J42 gd p1 (sC x 1 2 (p1)) 2) else (fX10_enterDrug_J42 gd p1 (sC x 1 2 (p1)) 3))
set_option maxHeartbeats 4000000 in
set_option maxRecDepth 100000 in
theorem mX10_enterDrug (l : Launch) (E : eE) (bb : Nat) (gd : Nat → Nat → Int32) (ch : Nat → Nat → Nat → Int32) (n : Nat) (hn : n < 3) (x : FS) (p1 : Int32) (hok : okF x) : Met l yX10_enterDrug wsX10_enterDrug ({ frames := 2, cells := 0, slots := 0, locals := 41 }) (gPre E (cwf E bb gd ch n x) [.ref (bb + 0), .ref (bb + 21 + 14 * n + 0), .int (p1)]) (gQi E (cwf E bb gd ch n) (fX10_enterDrug gd p1 x) (cA bb)) 0 0 (cA bb) := by
  refine Met.ofW (cc := cX10_enterDrug) (maxL := 3) (ret := (some .int)) (by decide) rfl ?_
  intro p e s m args below meth c s₁ B hml hv
  obtain ⟨rfl, hW, hK⟩ := hv
  have hx := B.exec
  have hb := B.bytes
  have hr := B.returns
  have hts := atoms_spec (ws := wsX10_enterDrug) B.pre
  have hown : s.vm.findClass RX10 = some m.cls := findClass_of_methodNamed B.named
  have hlocks := B.notSynchronized
  have i1 : ∀ w ∈ wsX10, w ∈ wsX10_enterDrug := by decide +kernel
  have i2 : ∀ w ∈ wsX20, w ∈ wsX10_enterDrug := by decide +kernel
  have i3 : ∀ w ∈ wsX30, w ∈ wsX10_enterDrug := by decide +kernel
  have i10 : ∀ w ∈ wsX100, w ∈ wsX10_enterDrug := by decide +kernel
  have kl11 := hts (.fieldLink RX10 11 "DosePump" "drugs" "[LDosePump$Drug;") (by decide +kernel)
  have kl62 := hts (.fieldLink RX10 62 "DosePump$Drug" "kind" "I") (by decide +kernel)
  have kl106 := hts (.fieldLink RX10 106 "DosePump$Channel" "entry" "LDosePump$Entry;") (by decide +kernel)
  have kl141 := hts (.fieldLink RX10 141 "DosePump$Channel" "phase" "I") (by decide +kernel)
  have kl268 := hts (.fieldLink RX10 268 "DosePump$Entry" "drug" "LDosePump$Drug;") (by decide +kernel)
  have hS : va_S (cA bb) s.heap s.heap [] := va_S.rf
  have hl := lv_entry ([.ref (bb + 0), .ref (bb + 21 + 14 * n + 0), .int (p1)]) (n := 3) (Nat.le_of_ble_eq_true rfl)
  rw [lg_entry_eq]
  generalize (lg_sl ([.ref (bb + 0), .ref (bb + 21 + 14 * n + 0), .int (p1)]) ++ List.replicate (3 - (lg_sl ([.ref (bb + 0), .ref (bb + 21 + 14 * n + 0), .int (p1)])).length) Slot.unset).toArray = ls at hl ⊢
  have hl : lv_has ls 3 [(0, .ref (bb + 0)), (1, .ref (bb + 21 + 14 * n + 0)), (2, .int (p1))] := hl
  have J42 : ∀ (H : Heap) (locs : List Loc) (ls : Array Slot) (y : FS) (w0 : Int32), cwf E bb gd ch n y H → va_S (cA bb) s.heap H locs → lv_has ls 3 [(1, .ref (bb + 21 + 14 * n + 0))] → okF y → fX10_enterDrug gd p1 x = fX10_enterDrug_J42 gd p1 y w0 → W p l e (headSpec wsX10_enterDrug { frames := 2, cells := 0, slots := 0, locals := 41 }).room s m ([.ref (bb + 0), .ref (bb + 21 + 14 * n + 0), .int (p1)] : List Value).toArray below meth c H locs 0 0 (MQ below (gQi E (cwf E bb gd ch n) (fX10_enterDrug gd p1 x) (cA bb)) ([.ref (bb + 0), .ref (bb + 21 + 14 * n + 0), .int (p1)] : List Value).toArray s 0 0 (cA bb)) (F0 m 42 ls [.int (w0), .ref (bb + 21 + 14 * n + 0)]) := by
    intro H locs ls y w0 hW hS hl hok hf
    replace hf : fX10_enterDrug gd p1 x = (((fX1_goTo w0 y), (fX1_goTo w0 y).2.1 0 6)) := hf
    refine gx_v (rest := []) ⟨hx, hb, hml, hown, hts⟩ (mX1_goTo l E bb gd ch n hn y w0) (cwV 1 hts gX10_enterDrug_X1_goTo rfl rfl rfl (by decide +kernel) ⟨Nat.le_of_ble_eq_true rfl, Nat.le_of_ble_eq_true rfl⟩) hW hK (fx_recv hK (cwf_C (o := 0) hW hn (by decide)) rfl) rfl hl.1 rfl (Nat.le_of_ble_eq_true rfl) dX10_enterDrug_42 ⟨Nat.le_of_ble_eq_true rfl, Nat.le_of_ble_eq_true rfl⟩ hS (fun _ h => h) (fun u2 H locs e2 hW hS => ?_)
    have e2 : fX1_goTo w0 y = u2 := e2
    try rw [e2] at hf
    have hk2 : okF u2 := e2 ▸ (okX1_goTo hok)
    refine lv_aload_n hx hb dX10_enterDrug_45 rfl (lv_at hl 0 rfl) ?_
    refine fx_get (ci := 1) (v := .int (u2.2.1 0 6)) hx hb hts i1 hown hK (cwf_C (o := 0) hW hn (by decide)) rfl 6 (by decide) kl141 rfl dX10_enterDrug_46 ?_
    exact gx_iret hx hb hr rfl hlocks hK hf hW hS dX10_enterDrug_49
  have hf : fX10_enterDrug gd p1 x = (if (fX10_isTold gd p1 x) = 0 then ((x, -1)) else (if (dRow gd (p1).toNatClampNeg 2) = 1 then (fX10_enterDrug_J42 gd p1 (sC x 1 2 (p1)) 2) else (fX10_enterDrug_J42 gd p1 (sC x 1 2 (p1)) 3))) := rfl
  refine lv_aload_n hx hb dX10_enterDrug_0 rfl (lv_at hl 0 rfl) ?_
  refine lv_iload_n hx hb dX10_enterDrug_1 rfl (lv_at hl 2 rfl) ?_
  refine gx_i (rest := []) ⟨hx, hb, hml, hown, hts⟩ (mX10_isTold l E bb gd ch n hn x p1) (cwV 1 hts gX10_enterDrug_X10_isTold rfl rfl rfl (by decide +kernel) ⟨Nat.le_of_ble_eq_true rfl, Nat.le_of_ble_eq_true rfl⟩) hW hK (fx_recv hK (cwf_P (o := 0) hW (by decide)) rfl) rfl hl.1 rfl (Nat.le_of_ble_eq_true rfl) dX10_enterDrug_2 ⟨Nat.le_of_ble_eq_true rfl, Nat.le_of_ble_eq_true rfl⟩ hS (fun _ h => h) (fun _ r1 H locs _ e1 hW hS => ?_)
  have e1 : fX10_isTold gd p1 x = r1 := e1
  try rw [e1] at hf
  refine lv_if_ne (tgt := 10) hx hb dX10_enterDrug_5 (by decide) (fun c_5 => ?_) (fun c_5 => ?_)
  · have hf_5 := hf.trans (if_neg c_5)
    refine lv_aload_n hx hb dX10_enterDrug_10 rfl (lv_at hl 1 rfl) ?_
    refine fx_get (ci := 1) (v := .ref (bb + 21 + 14 * n + 1)) hx hb hts i1 hown hK (cwf_C (o := 0) hW hn (by decide)) rfl 1 (by decide) kl106 rfl dX10_enterDrug_11 ?_
    refine lv_aload_n hx hb dX10_enterDrug_14 rfl (lv_at hl 0 rfl) ?_
    refine fx_get (ci := 10) (v := .ref (bb + 1)) hx hb hts i10 hown hK (cwf_P (o := 0) hW (by decide)) rfl 0 (by decide) kl11 rfl dX10_enterDrug_15 ?_
    refine lv_iload_n hx hb dX10_enterDrug_18 rfl (lv_at hl 2 rfl) ?_
    refine fx_ald (v := .ref (dAd bb (p1).toNatClampNeg)) hx hb hK 3 (cwf_P (o := 1) hW (by decide)) rfl (told_in (gd := gd) (p1 := p1) (x := x) (by rw [e1]; exact c_5)) rfl dX10_enterDrug_19 ?_
    refine fx_put (ci := 3) (v := .ref (dAd bb (p1).toNatClampNeg)) hx hb hts i3 tyX3_ok nmX3 hown hK (cwf_C (o := 1) hW hn (by decide)) (cA_C hn (by decide)) hS rfl 2 (by decide) kl268 rfl rfl rfl (Nat.le_of_ble_eq_true rfl) dX10_enterDrug_20 (fun H locs hat hne hS => ?_)
    have hW : cwf E bb gd ch n (sC x 1 2 (p1)) H := cwf_sC (o := 1) (k := 2) (v := p1) hW hn (by decide) hat hne
    refine lv_aload_n hx hb dX10_enterDrug_23 rfl (lv_at hl 1 rfl) ?_
    refine lv_aload_n hx hb dX10_enterDrug_24 rfl (lv_at hl 0 rfl) ?_
    refine fx_get (ci := 10) (v := .ref (bb + 1)) hx hb hts i10 hown hK (cwf_P (o := 0) hW (by decide)) rfl 0 (by decide) kl11 rfl dX10_enterDrug_25 ?_
    refine lv_iload_n hx hb dX10_enterDrug_28 rfl (lv_at hl 2 rfl) ?_
    refine fx_ald (v := .ref (dAd bb (p1).toNatClampNeg)) hx hb hK 3 (cwf_P (o := 1) hW (by decide)) rfl (told_in (gd := gd) (p1 := p1) (x := x) (by rw [e1]; exact c_5)) rfl dX10_enterDrug_29 ?_
    refine fx_get (ci := 2) (v := .int (dRow gd (p1).toNatClampNeg 2)) hx hb hts i2 hown hK (cwf_D hW (vi_22 (told_in (gd := gd) (p1 := p1) (x := x) (by rw [e1]; exact c_5)))) rfl 2 (by decide) kl62 rfl dX10_enterDrug_30 ?_
    refine lv_iconst (v := 1) hx hb dX10_enterDrug_33 (by decide) ?_
    refine lv_icmp_ne (tgt := 41) hx hb dX10_enterDrug_34 (by decide) (fun c_34 => ?_) (fun c_34 => ?_)
    · have hf_34 := hf_5.trans (if_neg c_34)
      refine lv_iconst (v := 3) hx hb dX10_enterDrug_41 (by decide) ?_
      exact J42 _ _ _ (sC x 1 2 (p1)) 3 hW hS (lv_sub hl [1] rfl) ⟨hok.1, hok.2.1, hok.2.2.1, hok.2.2.2.1, hok.2.2.2.2.1, vi_22 (told_in (gd := gd) (p1 := p1) (x := x) (by rw [e1]; exact c_5)), hok.2.2.2.2.2.2⟩ hf_34
    · have hf_34 := hf_5.trans (if_pos c_34)
      refine lv_iconst (v := 2) hx hb dX10_enterDrug_37 (by decide) ?_
      refine lv_goto (tgt := 42) hx hb dX10_enterDrug_38 (by decide) ?_
      exact J42 _ _ _ (sC x 1 2 (p1)) 2 hW hS (lv_sub hl [1] rfl) ⟨hok.1, hok.2.1, hok.2.2.1, hok.2.2.2.1, hok.2.2.2.2.1, vi_22 (told_in (gd := gd) (p1 := p1) (x := x) (by rw [e1]; exact c_5)), hok.2.2.2.2.2.2⟩ hf_34
  · have hf_5 := hf.trans (if_pos c_5)
    refine lv_iconst (v := -1) hx hb dX10_enterDrug_8 (by decide) ?_
    exact gx_iret hx hb hr rfl hlocks hK hf_5 hW hS dX10_enterDrug_9
theorem okX10_enterDrug_J42 {gd : Nat → Nat → Int32} {p1 : Int32} {y : FS} {w0 : Int32} (hok : okF y) : okF (fX10_enterDrug_J42 gd p1 y w0).1 := by unfold fX10_enterDrug_J42; exact (okX1_goTo hok)
theorem okX10_enterDrug {gd : Nat → Nat → Int32} {p1 : Int32} {x : FS} (hok : okF x) : okF (fX10_enterDrug gd p1 x).1 := by unfold fX10_enterDrug; exact (okF_ite1 (fun c_5 => hok) (fun c_5 => (okF_ite1 (fun c_34 => (okX10_enterDrug_J42 ⟨hok.1, hok.2.1, hok.2.2.1, hok.2.2.2.1, hok.2.2.2.2.1, vi_22 (told_in c_5), hok.2.2.2.2.2.2⟩)) (fun c_34 => (okX10_enterDrug_J42 ⟨hok.1, hok.2.1, hok.2.2.1, hok.2.2.2.1, hok.2.2.2.2.1, vi_22 (told_in c_5), hok.2.2.2.2.2.2⟩)))))

def fX10_enterWeight (p1 : Int32) (x : FS) : FS × Int32 := if p1 < 5 then ((x, -1)) else (if p1 ≤ 3000 then (((fX1_goTo 3 (sC x 1 4 (p1))), (fX1_goTo 3 (sC x 1 4 (p1))).2.1 0 6)) else ((x, -1)))
set_option maxHeartbeats 4000000 in
set_option maxRecDepth 100000 in
theorem mX10_enterWeight (l : Launch) (E : eE) (bb : Nat) (gd : Nat → Nat → Int32) (ch : Nat → Nat → Nat → Int32) (n : Nat) (hn : n < 3) (x : FS) (p1 : Int32) : Met l yX10_enterWeight wsX10_enterWeight ({ frames := 2, cells := 0, slots := 0, locals := 41 }) (gPre E (cwf E bb gd ch n x) [.ref (bb + 0), .ref (bb + 21 + 14 * n + 0), .int (p1)]) (gQi E (cwf E bb gd ch n) (fX10_enterWeight p1 x) (cA bb)) 0 0 (cA bb) := by
  refine Met.ofW (cc := cX10_enterWeight) (maxL := 3) (ret := (some .int)) (by decide) rfl ?_
  intro p e s m args below meth c s₁ B hml hv
  obtain ⟨rfl, hW, hK⟩ := hv
  have hx := B.exec
  have hb := B.bytes
  have hr := B.returns
  have hts := atoms_spec (ws := wsX10_enterWeight) B.pre
  have hown : s.vm.findClass RX10 = some m.cls := findClass_of_methodNamed B.named
  have hlocks := B.notSynchronized
  have i1 : ∀ w ∈ wsX10, w ∈ wsX10_enterWeight := by decide +kernel
  have i3 : ∀ w ∈ wsX30, w ∈ wsX10_enterWeight := by decide +kernel
  have kl106 := hts (.fieldLink RX10 106 "DosePump$Channel" "entry" "LDosePump$Entry;") (by decide +kernel)
  have kl141 := hts (.fieldLink RX10 141 "DosePump$Channel" "phase" "I") (by decide +kernel)
  have kl351 := hts (.fieldLink RX10 351 "DosePump$Entry" "weight" "I") (by decide +kernel)
  have hS : va_S (cA bb) s.heap s.heap [] := va_S.rf
  have hl := lv_entry ([.ref (bb + 0), .ref (bb + 21 + 14 * n + 0), .int (p1)]) (n := 3) (Nat.le_of_ble_eq_true rfl)
  rw [lg_entry_eq]
  generalize (lg_sl ([.ref (bb + 0), .ref (bb + 21 + 14 * n + 0), .int (p1)]) ++ List.replicate (3 - (lg_sl ([.ref (bb + 0), .ref (bb + 21 + 14 * n + 0), .int (p1)])).length) Slot.unset).toArray = ls at hl ⊢
  have hl : lv_has ls 3 [(0, .ref (bb + 0)), (1, .ref (bb + 21 + 14 * n + 0)), (2, .int (p1))] := hl
  have hf : fX10_enterWeight p1 x = (if p1 < 5 then ((x, -1)) else (if p1 ≤ 3000 then (((fX1_goTo 3 (sC x 1 4 (p1))), (fX1_goTo 3 (sC x 1 4 (p1))).2.1 0 6)) else ((x, -1)))) := rfl
  refine lv_iload_n hx hb dX10_enterWeight_0 rfl (lv_at hl 2 rfl) ?_
  refine lv_iconst (v := 5) hx hb dX10_enterWeight_1 (by decide) ?_
  refine lv_icmp_lt (tgt := 12) hx hb dX10_enterWeight_2 (by decide) (fun c_2 => ?_) (fun c_2 => ?_)
  · have hf_2 := hf.trans (if_pos c_2)
    refine lv_iconst (v := -1) hx hb dX10_enterWeight_12 (by decide) ?_
    exact gx_iret hx hb hr rfl hlocks hK hf_2 hW hS dX10_enterWeight_13
  · have hf_2 := hf.trans (if_neg c_2)
    refine lv_iload_n hx hb dX10_enterWeight_5 rfl (lv_at hl 2 rfl) ?_
    refine lv_sipush (v := 3000) hx hb dX10_enterWeight_6 (by decide) ?_
    refine lv_icmp_le (tgt := 14) hx hb dX10_enterWeight_9 (by decide) (fun c_9 => ?_) (fun c_9 => ?_)
    · have hf_9 := hf_2.trans (if_pos c_9)
      refine lv_aload_n hx hb dX10_enterWeight_14 rfl (lv_at hl 1 rfl) ?_
      refine fx_get (ci := 1) (v := .ref (bb + 21 + 14 * n + 1)) hx hb hts i1 hown hK (cwf_C (o := 0) hW hn (by decide)) rfl 1 (by decide) kl106 rfl dX10_enterWeight_15 ?_
      refine lv_iload_n hx hb dX10_enterWeight_18 rfl (lv_at hl 2 rfl) ?_
      refine fx_put (ci := 3) (v := .int (p1)) hx hb hts i3 tyX3_ok nmX3 hown hK (cwf_C (o := 1) hW hn (by decide)) (cA_C hn (by decide)) hS rfl 4 (by decide) kl351 rfl rfl rfl (Nat.le_of_ble_eq_true rfl) dX10_enterWeight_19 (fun H locs hat hne hS => ?_)
      have hW : cwf E bb gd ch n (sC x 1 4 (p1)) H := cwf_sC (o := 1) (k := 4) (v := p1) hW hn (by decide) hat hne
      refine lv_aload_n hx hb dX10_enterWeight_22 rfl (lv_at hl 1 rfl) ?_
      refine lv_iconst (v := 3) hx hb dX10_enterWeight_23 (by decide) ?_
      refine gx_v (rest := []) ⟨hx, hb, hml, hown, hts⟩ (mX1_goTo l E bb gd ch n hn (sC x 1 4 (p1)) 3) (cwV 1 hts gX10_enterWeight_X1_goTo rfl rfl rfl (by decide +kernel) ⟨Nat.le_of_ble_eq_true rfl, Nat.le_of_ble_eq_true rfl⟩) hW hK (fx_recv hK (cwf_C (o := 0) hW hn (by decide)) rfl) rfl hl.1 rfl (Nat.le_of_ble_eq_true rfl) dX10_enterWeight_24 ⟨Nat.le_of_ble_eq_true rfl, Nat.le_of_ble_eq_true rfl⟩ hS (fun _ h => h) (fun u1 H locs e1 hW hS => ?_)
      have e1 : fX1_goTo 3 (sC x 1 4 (p1)) = u1 := e1
      try rw [e1] at hf_9
      refine lv_aload_n hx hb dX10_enterWeight_27 rfl (lv_at hl 1 rfl) ?_
      refine fx_get (ci := 1) (v := .int (u1.2.1 0 6)) hx hb hts i1 hown hK (cwf_C (o := 0) hW hn (by decide)) rfl 6 (by decide) kl141 rfl dX10_enterWeight_28 ?_
      exact gx_iret hx hb hr rfl hlocks hK hf_9 hW hS dX10_enterWeight_31
    · have hf_9 := hf_2.trans (if_neg c_9)
      refine lv_iconst (v := -1) hx hb dX10_enterWeight_12 (by decide) ?_
      exact gx_iret hx hb hr rfl hlocks hK hf_9 hW hS dX10_enterWeight_13
theorem okX10_enterWeight {p1 : Int32} {x : FS} (hok : okF x) : okF (fX10_enterWeight p1 x).1 := by unfold fX10_enterWeight; exact (okF_ite1 (fun c_2 => hok) (fun c_2 => (okF_ite1 (fun c_9 => (okX1_goTo (okF_sC rfl hok))) (fun c_9 => hok))))

def fX10_enterAmount_J102 (gd : Nat → Nat → Int32) (n : Nat) (p1 : Int32) (y : FS) (w0 : Int32) : FS × Int32 := ((fX1_goTo w0 y), (fX1_goTo w0 y).2.1 0 6)
def fX10_enterAmount_J101 (gd : Nat → Nat → Int32) (n : Nat) (p1 : Int32) (y : FS) : FS × Int32 := fX10_enterAmount_J102 gd n p1 y 5
def fX10_enterAmount_J52 (gd : Nat → Nat → Int32) (n : Nat) (p1 : Int32) (y : FS) : FS × Int32 := ((fX10_note n 1 p1 (fX9_clear y)), -2)
def fX10_enterAmount (gd : Nat → Nat → Int32) (n : Nat) (p1 : Int32) (x : FS) : FS × Int32 := if p1 < (dRow gd (x.2.1 1 2).toNatClampNeg 4) then (fX10_enterAmount_J52 gd n p1 x) else (if (dRow gd (x.2.1 1 2).toNatClampNeg 7) < p1 then (fX10_enterAmount_J52 gd n p1 x) else (if (fX2_rateFor gd (x.2.1 1 2) p1 (x.2.1 1 4) x) < 1 then (fX10_enterAmount_J52 gd n p1 x) else (if (fX2_rateFor gd (x.2.1 1 2) p1 (x.2.1 1 4) x) ≤ 9999 then (if p1 < (dRow gd (x.2.1 1 2).toNatClampNeg 5) then (fX10_enterAmount_J101 gd n p1 (sC x 1 5 (p1))) else (if (dRow gd (x.2.1 1 2).toNatClampNeg 6) < p1 then (fX10_enterAmount_J101 gd n p1 (sC x 1 5 (p1))) else (fX10_enterAmount_J102 gd n p1 (sC x 1 5 (p1)) 4))) else (fX10_enterAmount_J52 gd n p1 x))))
set_option maxHeartbeats 4000000 in
set_option maxRecDepth 100000 in
theorem mX10_enterAmount (l : Launch) (E : eE) (bb : Nat) (gd : Nat → Nat → Int32) (ch : Nat → Nat → Nat → Int32) (n : Nat) (hn : n < 3) (x : FS) (p1 : Int32) (hok : okF x) : Met l yX10_enterAmount wsX10_enterAmount ({ frames := 2, cells := 0, slots := 0, locals := 51 }) (gPre E (cwf E bb gd ch n x) [.ref (bb + 0), .ref (bb + 21 + 14 * n + 0), .int (p1)]) (gQi E (cwf E bb gd ch n) (fX10_enterAmount gd n p1 x) (cA bb)) 0 0 (cA bb) := by
  refine Met.ofW (cc := cX10_enterAmount) (maxL := 5) (ret := (some .int)) (by decide) rfl ?_
  intro p e s m args below meth c s₁ B hml hv
  obtain ⟨rfl, hW, hK⟩ := hv
  have hx := B.exec
  have hb := B.bytes
  have hr := B.returns
  have hts := atoms_spec (ws := wsX10_enterAmount) B.pre
  have hown : s.vm.findClass RX10 = some m.cls := findClass_of_methodNamed B.named
  have hlocks := B.notSynchronized
  have i1 : ∀ w ∈ wsX10, w ∈ wsX10_enterAmount := by decide +kernel
  have i2 : ∀ w ∈ wsX20, w ∈ wsX10_enterAmount := by decide +kernel
  have i3 : ∀ w ∈ wsX30, w ∈ wsX10_enterAmount := by decide +kernel
  have kl68 := hts (.fieldLink RX10 68 "DosePump$Drug" "hardLow" "I") (by decide +kernel)
  have kl71 := hts (.fieldLink RX10 71 "DosePump$Drug" "softLow" "I") (by decide +kernel)
  have kl74 := hts (.fieldLink RX10 74 "DosePump$Drug" "softHigh" "I") (by decide +kernel)
  have kl77 := hts (.fieldLink RX10 77 "DosePump$Drug" "hardHigh" "I") (by decide +kernel)
  have kl106 := hts (.fieldLink RX10 106 "DosePump$Channel" "entry" "LDosePump$Entry;") (by decide +kernel)
  have kl141 := hts (.fieldLink RX10 141 "DosePump$Channel" "phase" "I") (by decide +kernel)
  have kl226 := hts (.fieldLink RX10 226 "DosePump$Entry" "typed" "LDosePump$Typed;") (by decide +kernel)
  have kl268 := hts (.fieldLink RX10 268 "DosePump$Entry" "drug" "LDosePump$Drug;") (by decide +kernel)
  have kl351 := hts (.fieldLink RX10 351 "DosePump$Entry" "weight" "I") (by decide +kernel)
  have kl358 := hts (.fieldLink RX10 358 "DosePump$Entry" "amount" "I") (by decide +kernel)
  have hS : va_S (cA bb) s.heap s.heap [] := va_S.rf
  have hl := lv_entry ([.ref (bb + 0), .ref (bb + 21 + 14 * n + 0), .int (p1)]) (n := 5) (Nat.le_of_ble_eq_true rfl)
  rw [lg_entry_eq]
  generalize (lg_sl ([.ref (bb + 0), .ref (bb + 21 + 14 * n + 0), .int (p1)]) ++ List.replicate (5 - (lg_sl ([.ref (bb + 0), .ref (bb + 21 + 14 * n + 0), .int (p1)])).length) Slot.unset).toArray = ls at hl ⊢
  have hl : lv_has ls 5 [(0, .ref (bb + 0)), (1, .ref (bb + 21 + 14 * n + 0)), (2, .int (p1))] := hl
  have J102 : ∀ (H : Heap) (locs : List Loc) (ls : Array Slot) (y : FS) (w0 : Int32), cwf E bb gd ch n y H → va_S (cA bb) s.heap H locs → lv_has ls 5 [(1, .ref (bb + 21 + 14 * n + 0))] → okF y → fX10_enterAmount gd n p1 x = fX10_enterAmount_J102 gd n p1 y w0 → W p l e (headSpec wsX10_enterAmount { frames := 2, cells := 0, slots := 0, locals := 51 }).room s m ([.ref (bb + 0), .ref (bb + 21 + 14 * n + 0), .int (p1)] : List Value).toArray below meth c H locs 0 0 (MQ below (gQi E (cwf E bb gd ch n) (fX10_enterAmount gd n p1 x) (cA bb)) ([.ref (bb + 0), .ref (bb + 21 + 14 * n + 0), .int (p1)] : List Value).toArray s 0 0 (cA bb)) (F0 m 102 ls [.int (w0), .ref (bb + 21 + 14 * n + 0)]) := by
    intro H locs ls y w0 hW hS hl hok hf
    replace hf : fX10_enterAmount gd n p1 x = (((fX1_goTo w0 y), (fX1_goTo w0 y).2.1 0 6)) := hf
    refine gx_v (rest := []) ⟨hx, hb, hml, hown, hts⟩ (mX1_goTo l E bb gd ch n hn y w0) (cwV 1 hts gX10_enterAmount_X1_goTo rfl rfl rfl (by decide +kernel) ⟨Nat.le_of_ble_eq_true rfl, Nat.le_of_ble_eq_true rfl⟩) hW hK (fx_recv hK (cwf_C (o := 0) hW hn (by decide)) rfl) rfl hl.1 rfl (Nat.le_of_ble_eq_true rfl) dX10_enterAmount_102 ⟨Nat.le_of_ble_eq_true rfl, Nat.le_of_ble_eq_true rfl⟩ hS (fun _ h => h) (fun u4 H locs e4 hW hS => ?_)
    have e4 : fX1_goTo w0 y = u4 := e4
    try rw [e4] at hf
    have hk4 : okF u4 := e4 ▸ (okX1_goTo hok)
    refine lv_aload_n hx hb dX10_enterAmount_105 rfl (lv_at hl 0 rfl) ?_
    refine fx_get (ci := 1) (v := .int (u4.2.1 0 6)) hx hb hts i1 hown hK (cwf_C (o := 0) hW hn (by decide)) rfl 6 (by decide) kl141 rfl dX10_enterAmount_106 ?_
    exact gx_iret hx hb hr rfl hlocks hK hf hW hS dX10_enterAmount_109
  have J101 : ∀ (H : Heap) (locs : List Loc) (ls : Array Slot) (y : FS), cwf E bb gd ch n y H → va_S (cA bb) s.heap H locs → lv_has ls 5 [(1, .ref (bb + 21 + 14 * n + 0))] → okF y → fX10_enterAmount gd n p1 x = fX10_enterAmount_J101 gd n p1 y → W p l e (headSpec wsX10_enterAmount { frames := 2, cells := 0, slots := 0, locals := 51 }).room s m ([.ref (bb + 0), .ref (bb + 21 + 14 * n + 0), .int (p1)] : List Value).toArray below meth c H locs 0 0 (MQ below (gQi E (cwf E bb gd ch n) (fX10_enterAmount gd n p1 x) (cA bb)) ([.ref (bb + 0), .ref (bb + 21 + 14 * n + 0), .int (p1)] : List Value).toArray s 0 0 (cA bb)) (F0 m 101 ls [.ref (bb + 21 + 14 * n + 0)]) := by
    intro H locs ls y hW hS hl hok hf
    replace hf : fX10_enterAmount gd n p1 x = (fX10_enterAmount_J102 gd n p1 y 5) := hf
    refine lv_iconst (v := 5) hx hb dX10_enterAmount_101 (by decide) ?_
    exact J102 _ _ _ y 5 hW hS (lv_sub hl [0] rfl) hok hf
  have J52 : ∀ (H : Heap) (locs : List Loc) (ls : Array Slot) (y : FS), cwf E bb gd ch n y H → va_S (cA bb) s.heap H locs → lv_has ls 5 [(0, .ref (bb + 0)), (1, .ref (bb + 21 + 14 * n + 0)), (2, .int (p1))] → okF y → fX10_enterAmount gd n p1 x = fX10_enterAmount_J52 gd n p1 y → W p l e (headSpec wsX10_enterAmount { frames := 2, cells := 0, slots := 0, locals := 51 }).room s m ([.ref (bb + 0), .ref (bb + 21 + 14 * n + 0), .int (p1)] : List Value).toArray below meth c H locs 0 0 (MQ below (gQi E (cwf E bb gd ch n) (fX10_enterAmount gd n p1 x) (cA bb)) ([.ref (bb + 0), .ref (bb + 21 + 14 * n + 0), .int (p1)] : List Value).toArray s 0 0 (cA bb)) (F0 m 52 ls []) := by
    intro H locs ls y hW hS hl hok hf
    replace hf : fX10_enterAmount gd n p1 x = (((fX10_note n 1 p1 (fX9_clear y)), -2)) := hf
    refine lv_aload_n hx hb dX10_enterAmount_52 rfl (lv_at hl 1 rfl) ?_
    refine fx_get (ci := 1) (v := .ref (bb + 21 + 14 * n + 1)) hx hb hts i1 hown hK (cwf_C (o := 0) hW hn (by decide)) rfl 1 (by decide) kl106 rfl dX10_enterAmount_53 ?_
    refine fx_get (ci := 3) (v := .ref (bb + 21 + 14 * n + 2)) hx hb hts i3 hown hK (cwf_C (o := 1) hW hn (by decide)) rfl 0 (by decide) kl226 rfl dX10_enterAmount_56 ?_
    refine gx_v (rest := []) ⟨hx, hb, hml, hown, hts⟩ (mX9_clear l E bb gd ch n hn y) (cwV 0 hts gX10_enterAmount_X9_clear rfl rfl rfl (by decide +kernel) ⟨Nat.le_of_ble_eq_true rfl, Nat.le_of_ble_eq_true rfl⟩) hW hK (fx_recv hK (cwf_C (o := 2) hW hn (by decide)) rfl) rfl hl.1 rfl (Nat.le_of_ble_eq_true rfl) dX10_enterAmount_59 ⟨Nat.le_of_ble_eq_true rfl, Nat.le_of_ble_eq_true rfl⟩ hS (fun _ h => h) (fun u2 H locs e2 hW hS => ?_)
    have e2 : fX9_clear y = u2 := e2
    try rw [e2] at hf
    have hk2 : okF u2 := e2 ▸ (okX9_clear hok)
    refine lv_aload_n hx hb dX10_enterAmount_62 rfl (lv_at hl 0 rfl) ?_
    refine lv_iconst (v := 1) hx hb dX10_enterAmount_63 (by decide) ?_
    refine lv_aload_n hx hb dX10_enterAmount_64 rfl (lv_at hl 1 rfl) ?_
    refine lv_iload_n hx hb dX10_enterAmount_65 rfl (lv_at hl 2 rfl) ?_
    refine gx_v (rest := []) ⟨hx, hb, hml, hown, hts⟩ (mX10_note l E bb gd ch n hn u2 1 p1) (cwV 3 hts gX10_enterAmount_X10_note rfl rfl rfl (by decide +kernel) ⟨Nat.le_of_ble_eq_true rfl, Nat.le_of_ble_eq_true rfl⟩) hW hK (fx_recv hK (cwf_P (o := 0) hW (by decide)) rfl) rfl hl.1 rfl (Nat.le_of_ble_eq_true rfl) dX10_enterAmount_66 ⟨Nat.le_of_ble_eq_true rfl, Nat.le_of_ble_eq_true rfl⟩ hS (fun _ h => h) (fun u3 H locs e3 hW hS => ?_)
    have e3 : fX10_note n 1 p1 u2 = u3 := e3
    try rw [e3] at hf
    have hk3 : okF u3 := e3 ▸ (okX10_note hk2)
    refine lv_bipush (v := -2) hx hb dX10_enterAmount_69 (by decide) ?_
    exact gx_iret hx hb hr rfl hlocks hK hf hW hS dX10_enterAmount_71
  have hf : fX10_enterAmount gd n p1 x = (if p1 < (dRow gd (x.2.1 1 2).toNatClampNeg 4) then (fX10_enterAmount_J52 gd n p1 x) else (if (dRow gd (x.2.1 1 2).toNatClampNeg 7) < p1 then (fX10_enterAmount_J52 gd n p1 x) else (if (fX2_rateFor gd (x.2.1 1 2) p1 (x.2.1 1 4) x) < 1 then (fX10_enterAmount_J52 gd n p1 x) else (if (fX2_rateFor gd (x.2.1 1 2) p1 (x.2.1 1 4) x) ≤ 9999 then (if p1 < (dRow gd (x.2.1 1 2).toNatClampNeg 5) then (fX10_enterAmount_J101 gd n p1 (sC x 1 5 (p1))) else (if (dRow gd (x.2.1 1 2).toNatClampNeg 6) < p1 then (fX10_enterAmount_J101 gd n p1 (sC x 1 5 (p1))) else (fX10_enterAmount_J102 gd n p1 (sC x 1 5 (p1)) 4))) else (fX10_enterAmount_J52 gd n p1 x))))) := rfl
  refine lv_aload_n hx hb dX10_enterAmount_0 rfl (lv_at hl 1 rfl) ?_
  refine fx_get (ci := 1) (v := .ref (bb + 21 + 14 * n + 1)) hx hb hts i1 hown hK (cwf_C (o := 0) hW hn (by decide)) rfl 1 (by decide) kl106 rfl dX10_enterAmount_1 ?_
  refine fx_get (ci := 3) (v := .ref (dAd bb (x.2.1 1 2).toNatClampNeg)) hx hb hts i3 hown hK (cwf_C (o := 1) hW hn (by decide)) rfl 2 (by decide) kl268 rfl dX10_enterAmount_4 ?_
  refine lv_astore_n (lv' := [(3, .ref (dAd bb (x.2.1 1 2).toNatClampNeg)), (0, .ref (bb + 0)), (1, .ref (bb + 21 + 14 * n + 0)), (2, .int (p1))]) hx hb dX10_enterAmount_7 rfl hl (by decide) rfl (fun ls hl => ?_)
  refine lv_aload_n hx hb dX10_enterAmount_8 rfl (lv_at hl 0 rfl) ?_
  refine lv_iload_n hx hb dX10_enterAmount_9 rfl (lv_at hl 3 rfl) ?_
  refine lv_aload_n hx hb dX10_enterAmount_10 rfl (lv_at hl 2 rfl) ?_
  refine fx_get (ci := 1) (v := .ref (bb + 21 + 14 * n + 1)) hx hb hts i1 hown hK (cwf_C (o := 0) hW hn (by decide)) rfl 1 (by decide) kl106 rfl dX10_enterAmount_11 ?_
  refine fx_get (ci := 3) (v := .int (x.2.1 1 4)) hx hb hts i3 hown hK (cwf_C (o := 1) hW hn (by decide)) rfl 4 (by decide) kl351 rfl dX10_enterAmount_14 ?_
  refine gx_i (rest := []) ⟨hx, hb, hml, hown, hts⟩ (mX2_rateFor l E bb gd ch n hn x (x.2.1 1 2) p1 (x.2.1 1 4) hok.2.2.2.2.2.1) (cwV 2 hts gX10_enterAmount_X2_rateFor rfl rfl rfl (by decide +kernel) ⟨Nat.le_of_ble_eq_true rfl, Nat.le_of_ble_eq_true rfl⟩) hW hK (fx_recv hK (cwf_D hW hok.2.2.2.2.2.1) rfl) rfl hl.1 rfl (Nat.le_of_ble_eq_true rfl) dX10_enterAmount_17 ⟨Nat.le_of_ble_eq_true rfl, Nat.le_of_ble_eq_true rfl⟩ hS (fun _ h => h) (fun _ r1 H locs _ e1 hW hS => ?_)
  have e1 : fX2_rateFor gd (x.2.1 1 2) p1 (x.2.1 1 4) x = r1 := e1
  try rw [e1] at hf
  refine lv_istore (lv' := [(4, .int (r1)), (3, .ref (dAd bb (x.2.1 1 2).toNatClampNeg)), (0, .ref (bb + 0)), (1, .ref (bb + 21 + 14 * n + 0)), (2, .int (p1))]) hx hb dX10_enterAmount_20 hl (by decide) rfl (fun ls hl => ?_)
  refine lv_iload_n hx hb dX10_enterAmount_22 rfl (lv_at hl 4 rfl) ?_
  refine lv_aload_n hx hb dX10_enterAmount_23 rfl (lv_at hl 1 rfl) ?_
  refine fx_get (ci := 2) (v := .int (dRow gd (x.2.1 1 2).toNatClampNeg 4)) hx hb hts i2 hown hK (cwf_D hW hok.2.2.2.2.2.1) rfl 4 (by decide) kl68 rfl dX10_enterAmount_24 ?_
  refine lv_icmp_lt (tgt := 52) hx hb dX10_enterAmount_27 (by decide) (fun c_27 => ?_) (fun c_27 => ?_)
  · have hf_27 := hf.trans (if_pos c_27)
    exact J52 _ _ _ x hW hS (lv_sub hl [2, 3, 4] rfl) hok hf_27
  · have hf_27 := hf.trans (if_neg c_27)
    refine lv_iload_n hx hb dX10_enterAmount_30 rfl (lv_at hl 4 rfl) ?_
    refine lv_aload_n hx hb dX10_enterAmount_31 rfl (lv_at hl 1 rfl) ?_
    refine fx_get (ci := 2) (v := .int (dRow gd (x.2.1 1 2).toNatClampNeg 7)) hx hb hts i2 hown hK (cwf_D hW hok.2.2.2.2.2.1) rfl 7 (by decide) kl77 rfl dX10_enterAmount_32 ?_
    refine lv_icmp_gt (tgt := 52) hx hb dX10_enterAmount_35 (by decide) (fun c_35 => ?_) (fun c_35 => ?_)
    · have hf_35 := hf_27.trans (if_pos c_35)
      exact J52 _ _ _ x hW hS (lv_sub hl [2, 3, 4] rfl) hok hf_35
    · have hf_35 := hf_27.trans (if_neg c_35)
      refine lv_iload hx hb dX10_enterAmount_38 (lv_at hl 0 rfl) ?_
      refine lv_iconst (v := 1) hx hb dX10_enterAmount_40 (by decide) ?_
      refine lv_icmp_lt (tgt := 52) hx hb dX10_enterAmount_41 (by decide) (fun c_41 => ?_) (fun c_41 => ?_)
      · have hf_41 := hf_35.trans (if_pos c_41)
        exact J52 _ _ _ x hW hS (lv_sub hl [2, 3, 4] rfl) hok hf_41
      · have hf_41 := hf_35.trans (if_neg c_41)
        refine lv_iload hx hb dX10_enterAmount_44 (lv_at hl 0 rfl) ?_
        refine lv_sipush (v := 9999) hx hb dX10_enterAmount_46 (by decide) ?_
        refine lv_icmp_le (tgt := 72) hx hb dX10_enterAmount_49 (by decide) (fun c_49 => ?_) (fun c_49 => ?_)
        · have hf_49 := hf_41.trans (if_pos c_49)
          refine lv_aload_n hx hb dX10_enterAmount_72 rfl (lv_at hl 3 rfl) ?_
          refine fx_get (ci := 1) (v := .ref (bb + 21 + 14 * n + 1)) hx hb hts i1 hown hK (cwf_C (o := 0) hW hn (by decide)) rfl 1 (by decide) kl106 rfl dX10_enterAmount_73 ?_
          refine lv_iload_n hx hb dX10_enterAmount_76 rfl (lv_at hl 4 rfl) ?_
          refine fx_put (ci := 3) (v := .int (p1)) hx hb hts i3 tyX3_ok nmX3 hown hK (cwf_C (o := 1) hW hn (by decide)) (cA_C hn (by decide)) hS rfl 5 (by decide) kl358 rfl rfl rfl (Nat.le_of_ble_eq_true rfl) dX10_enterAmount_77 (fun H locs hat hne hS => ?_)
          have hW : cwf E bb gd ch n (sC x 1 5 (p1)) H := cwf_sC (o := 1) (k := 5) (v := p1) hW hn (by decide) hat hne
          refine lv_aload_n hx hb dX10_enterAmount_80 rfl (lv_at hl 3 rfl) ?_
          refine lv_iload_n hx hb dX10_enterAmount_81 rfl (lv_at hl 4 rfl) ?_
          refine lv_aload_n hx hb dX10_enterAmount_82 rfl (lv_at hl 1 rfl) ?_
          refine fx_get (ci := 2) (v := .int (dRow gd (x.2.1 1 2).toNatClampNeg 5)) hx hb hts i2 hown hK (cwf_D hW hok.2.2.2.2.2.1) rfl 5 (by decide) kl71 rfl dX10_enterAmount_83 ?_
          refine lv_icmp_lt (tgt := 101) hx hb dX10_enterAmount_86 (by decide) (fun c_86 => ?_) (fun c_86 => ?_)
          · have hf_86 := hf_49.trans (if_pos c_86)
            exact J101 _ _ _ (sC x 1 5 (p1)) hW hS (lv_sub hl [3] rfl) hok hf_86
          · have hf_86 := hf_49.trans (if_neg c_86)
            refine lv_iload_n hx hb dX10_enterAmount_89 rfl (lv_at hl 4 rfl) ?_
            refine lv_aload_n hx hb dX10_enterAmount_90 rfl (lv_at hl 1 rfl) ?_
            refine fx_get (ci := 2) (v := .int (dRow gd (x.2.1 1 2).toNatClampNeg 6)) hx hb hts i2 hown hK (cwf_D hW hok.2.2.2.2.2.1) rfl 6 (by decide) kl74 rfl dX10_enterAmount_91 ?_
            refine lv_icmp_gt (tgt := 101) hx hb dX10_enterAmount_94 (by decide) (fun c_94 => ?_) (fun c_94 => ?_)
            · have hf_94 := hf_86.trans (if_pos c_94)
              exact J101 _ _ _ (sC x 1 5 (p1)) hW hS (lv_sub hl [3] rfl) hok hf_94
            · have hf_94 := hf_86.trans (if_neg c_94)
              refine lv_iconst (v := 4) hx hb dX10_enterAmount_97 (by decide) ?_
              refine lv_goto (tgt := 102) hx hb dX10_enterAmount_98 (by decide) ?_
              exact J102 _ _ _ (sC x 1 5 (p1)) 4 hW hS (lv_sub hl [3] rfl) hok hf_94
        · have hf_49 := hf_41.trans (if_neg c_49)
          exact J52 _ _ _ x hW hS (lv_sub hl [2, 3, 4] rfl) hok hf_49
theorem okX10_enterAmount_J102 {gd : Nat → Nat → Int32} {n : Nat} {p1 : Int32} {y : FS} {w0 : Int32} (hok : okF y) : okF (fX10_enterAmount_J102 gd n p1 y w0).1 := by unfold fX10_enterAmount_J102; exact (okX1_goTo hok)
theorem okX10_enterAmount_J101 {gd : Nat → Nat → Int32} {n : Nat} {p1 : Int32} {y : FS} (hok : okF y) : okF (fX10_enterAmount_J101 gd n p1 y).1 := by unfold fX10_enterAmount_J101; exact (okX10_enterAmount_J102 hok)
theorem okX10_enterAmount_J52 {gd : Nat → Nat → Int32} {n : Nat} {p1 : Int32} {y : FS} (hok : okF y) : okF (fX10_enterAmount_J52 gd n p1 y).1 := by unfold fX10_enterAmount_J52; exact (okX10_note (okX9_clear hok))
theorem okX10_enterAmount {gd : Nat → Nat → Int32} {n : Nat} {p1 : Int32} {x : FS} (hok : okF x) : okF (fX10_enterAmount gd n p1 x).1 := by unfold fX10_enterAmount; exact (okF_ite1 (fun c_27 => (okX10_enterAmount_J52 hok)) (fun c_27 => (okF_ite1 (fun c_35 => (okX10_enterAmount_J52 hok)) (fun c_35 => (okF_ite1 (fun c_41 => (okX10_enterAmount_J52 hok)) (fun c_41 => (okF_ite1 (fun c_49 => (okF_ite1 (fun c_86 => (okX10_enterAmount_J101 (okF_sC rfl hok))) (fun c_86 => (okF_ite1 (fun c_94 => (okX10_enterAmount_J101 (okF_sC rfl hok))) (fun c_94 => (okX10_enterAmount_J102 (okF_sC rfl hok))))))) (fun c_49 => (okX10_enterAmount_J52 hok)))))))))

def fX10_enterVolume (gd : Nat → Nat → Int32) (n : Nat) (p1 : Int32) (x : FS) : FS × Int32 := ((fX10_note n 0 ((fX1_goTo 6 (fX3_forgetDrug n (sC (fX7_renew (x.2.1 1 2) (fX2_rateFor gd (x.2.1 1 2) (x.2.1 1 5) (x.2.1 1 4) x) p1 x) 6 2 (0)))).2.1 4 1) (fX1_goTo 6 (fX3_forgetDrug n (sC (fX7_renew (x.2.1 1 2) (fX2_rateFor gd (x.2.1 1 2) (x.2.1 1 5) (x.2.1 1 4) x) p1 x) 6 2 (0))))), (fX10_note n 0 ((fX1_goTo 6 (fX3_forgetDrug n (sC (fX7_renew (x.2.1 1 2) (fX2_rateFor gd (x.2.1 1 2) (x.2.1 1 5) (x.2.1 1 4) x) p1 x) 6 2 (0)))).2.1 4 1) (fX1_goTo 6 (fX3_forgetDrug n (sC (fX7_renew (x.2.1 1 2) (fX2_rateFor gd (x.2.1 1 2) (x.2.1 1 5) (x.2.1 1 4) x) p1 x) 6 2 (0))))).2.1 0 6)
set_option maxHeartbeats 4000000 in
set_option maxRecDepth 100000 in
theorem mX10_enterVolume (l : Launch) (E : eE) (bb : Nat) (gd : Nat → Nat → Int32) (ch : Nat → Nat → Nat → Int32) (n : Nat) (hn : n < 3) (x : FS) (p1 : Int32) (hok : okF x) : Met l yX10_enterVolume wsX10_enterVolume ({ frames := 2, cells := 0, slots := 0, locals := 51 }) (gPre E (cwf E bb gd ch n x) [.ref (bb + 0), .ref (bb + 21 + 14 * n + 0), .int (p1)]) (gQi E (cwf E bb gd ch n) (fX10_enterVolume gd n p1 x) (cA bb)) 0 0 (cA bb) := by
  refine Met.ofW (cc := cX10_enterVolume) (maxL := 4) (ret := (some .int)) (by decide) rfl ?_
  intro p e s m args below meth c s₁ B hml hv
  obtain ⟨rfl, hW, hK⟩ := hv
  have hx := B.exec
  have hb := B.bytes
  have hr := B.returns
  have hts := atoms_spec (ws := wsX10_enterVolume) B.pre
  have hown : s.vm.findClass RX10 = some m.cls := findClass_of_methodNamed B.named
  have hlocks := B.notSynchronized
  have i0 : ∀ w ∈ wsX00, w ∈ wsX10_enterVolume := by decide +kernel
  have i1 : ∀ w ∈ wsX10, w ∈ wsX10_enterVolume := by decide +kernel
  have i3 : ∀ w ∈ wsX30, w ∈ wsX10_enterVolume := by decide +kernel
  have i7 : ∀ w ∈ wsX70, w ∈ wsX10_enterVolume := by decide +kernel
  have kl106 := hts (.fieldLink RX10 106 "DosePump$Channel" "entry" "LDosePump$Entry;") (by decide +kernel)
  have kl141 := hts (.fieldLink RX10 141 "DosePump$Channel" "phase" "I") (by decide +kernel)
  have kl163 := hts (.fieldLink RX10 163 "DosePump$Channel" "program" "LDosePump$Program;") (by decide +kernel)
  have kl167 := hts (.fieldLink RX10 167 "DosePump$Program" "rate" "I") (by decide +kernel)
  have kl181 := hts (.fieldLink RX10 181 "DosePump$Channel" "boluses" "LDosePump$Boluses;") (by decide +kernel)
  have kl185 := hts (.fieldLink RX10 185 "DosePump$Boluses" "left" "I") (by decide +kernel)
  have kl268 := hts (.fieldLink RX10 268 "DosePump$Entry" "drug" "LDosePump$Drug;") (by decide +kernel)
  have kl351 := hts (.fieldLink RX10 351 "DosePump$Entry" "weight" "I") (by decide +kernel)
  have kl358 := hts (.fieldLink RX10 358 "DosePump$Entry" "amount" "I") (by decide +kernel)
  have hS : va_S (cA bb) s.heap s.heap [] := va_S.rf
  have hl := lv_entry ([.ref (bb + 0), .ref (bb + 21 + 14 * n + 0), .int (p1)]) (n := 4) (Nat.le_of_ble_eq_true rfl)
  rw [lg_entry_eq]
  generalize (lg_sl ([.ref (bb + 0), .ref (bb + 21 + 14 * n + 0), .int (p1)]) ++ List.replicate (4 - (lg_sl ([.ref (bb + 0), .ref (bb + 21 + 14 * n + 0), .int (p1)])).length) Slot.unset).toArray = ls at hl ⊢
  have hl : lv_has ls 4 [(0, .ref (bb + 0)), (1, .ref (bb + 21 + 14 * n + 0)), (2, .int (p1))] := hl
  have hf : fX10_enterVolume gd n p1 x = (((fX10_note n 0 ((fX1_goTo 6 (fX3_forgetDrug n (sC (fX7_renew (x.2.1 1 2) (fX2_rateFor gd (x.2.1 1 2) (x.2.1 1 5) (x.2.1 1 4) x) p1 x) 6 2 (0)))).2.1 4 1) (fX1_goTo 6 (fX3_forgetDrug n (sC (fX7_renew (x.2.1 1 2) (fX2_rateFor gd (x.2.1 1 2) (x.2.1 1 5) (x.2.1 1 4) x) p1 x) 6 2 (0))))), (fX10_note n 0 ((fX1_goTo 6 (fX3_forgetDrug n (sC (fX7_renew (x.2.1 1 2) (fX2_rateFor gd (x.2.1 1 2) (x.2.1 1 5) (x.2.1 1 4) x) p1 x) 6 2 (0)))).2.1 4 1) (fX1_goTo 6 (fX3_forgetDrug n (sC (fX7_renew (x.2.1 1 2) (fX2_rateFor gd (x.2.1 1 2) (x.2.1 1 5) (x.2.1 1 4) x) p1 x) 6 2 (0))))).2.1 0 6)) := rfl
  refine lv_aload_n hx hb dX10_enterVolume_0 rfl (lv_at hl 1 rfl) ?_
  refine fx_get (ci := 1) (v := .ref (bb + 21 + 14 * n + 1)) hx hb hts i1 hown hK (cwf_C (o := 0) hW hn (by decide)) rfl 1 (by decide) kl106 rfl dX10_enterVolume_1 ?_
  refine lv_astore_n (lv' := [(3, .ref (bb + 21 + 14 * n + 1)), (0, .ref (bb + 0)), (1, .ref (bb + 21 + 14 * n + 0)), (2, .int (p1))]) hx hb dX10_enterVolume_4 rfl hl (by decide) rfl (fun ls hl => ?_)
  refine lv_aload_n hx hb dX10_enterVolume_5 rfl (lv_at hl 2 rfl) ?_
  refine fx_get (ci := 1) (v := .ref (bb + 21 + 14 * n + 4)) hx hb hts i1 hown hK (cwf_C (o := 0) hW hn (by decide)) rfl 2 (by decide) kl163 rfl dX10_enterVolume_6 ?_
  refine lv_aload_n hx hb dX10_enterVolume_9 rfl (lv_at hl 0 rfl) ?_
  refine fx_get (ci := 3) (v := .ref (dAd bb (x.2.1 1 2).toNatClampNeg)) hx hb hts i3 hown hK (cwf_C (o := 1) hW hn (by decide)) rfl 2 (by decide) kl268 rfl dX10_enterVolume_10 ?_
  refine lv_aload_n hx hb dX10_enterVolume_13 rfl (lv_at hl 0 rfl) ?_
  refine fx_get (ci := 3) (v := .ref (dAd bb (x.2.1 1 2).toNatClampNeg)) hx hb hts i3 hown hK (cwf_C (o := 1) hW hn (by decide)) rfl 2 (by decide) kl268 rfl dX10_enterVolume_14 ?_
  refine lv_aload_n hx hb dX10_enterVolume_17 rfl (lv_at hl 0 rfl) ?_
  refine fx_get (ci := 3) (v := .int (x.2.1 1 5)) hx hb hts i3 hown hK (cwf_C (o := 1) hW hn (by decide)) rfl 5 (by decide) kl358 rfl dX10_enterVolume_18 ?_
  refine lv_aload_n hx hb dX10_enterVolume_21 rfl (lv_at hl 0 rfl) ?_
  refine fx_get (ci := 3) (v := .int (x.2.1 1 4)) hx hb hts i3 hown hK (cwf_C (o := 1) hW hn (by decide)) rfl 4 (by decide) kl351 rfl dX10_enterVolume_22 ?_
  refine gx_i (rest := [.ref (dAd bb (x.2.1 1 2).toNatClampNeg), .ref (bb + 21 + 14 * n + 4)]) ⟨hx, hb, hml, hown, hts⟩ (mX2_rateFor l E bb gd ch n hn x (x.2.1 1 2) (x.2.1 1 5) (x.2.1 1 4) hok.2.2.2.2.2.1) (cwV 2 hts gX10_enterVolume_X2_rateFor rfl rfl rfl (by decide +kernel) ⟨Nat.le_of_ble_eq_true rfl, Nat.le_of_ble_eq_true rfl⟩) hW hK (fx_recv hK (cwf_D hW hok.2.2.2.2.2.1) rfl) rfl hl.1 rfl (Nat.le_of_ble_eq_true rfl) dX10_enterVolume_25 ⟨Nat.le_of_ble_eq_true rfl, Nat.le_of_ble_eq_true rfl⟩ hS (fun _ h => h) (fun _ r1 H locs _ e1 hW hS => ?_)
  have e1 : fX2_rateFor gd (x.2.1 1 2) (x.2.1 1 5) (x.2.1 1 4) x = r1 := e1
  try rw [e1] at hf
  refine lv_iload_n hx hb dX10_enterVolume_28 rfl (lv_at hl 3 rfl) ?_
  refine gx_v (rest := []) ⟨hx, hb, hml, hown, hts⟩ (mX7_renew l E bb gd ch n hn x (x.2.1 1 2) r1 p1) (cwV 3 hts gX10_enterVolume_X7_renew rfl rfl rfl (by decide +kernel) ⟨Nat.le_of_ble_eq_true rfl, Nat.le_of_ble_eq_true rfl⟩) hW hK (fx_recv hK (cwf_C (o := 4) hW hn (by decide)) rfl) rfl hl.1 rfl (Nat.le_of_ble_eq_true rfl) dX10_enterVolume_29 ⟨Nat.le_of_ble_eq_true rfl, Nat.le_of_ble_eq_true rfl⟩ hS (fun _ h => h) (fun u2 H locs e2 hW hS => ?_)
  have e2 : fX7_renew (x.2.1 1 2) r1 p1 x = u2 := e2
  try rw [e2] at hf
  have hk2 : okF u2 := e2 ▸ (okX7_renew hok.2.2.2.2.2.1 hok)
  refine lv_aload_n hx hb dX10_enterVolume_32 rfl (lv_at hl 2 rfl) ?_
  refine fx_get (ci := 1) (v := .ref (bb + 21 + 14 * n + 6)) hx hb hts i1 hown hK (cwf_C (o := 0) hW hn (by decide)) rfl 3 (by decide) kl181 rfl dX10_enterVolume_33 ?_
  refine lv_iconst (v := 0) hx hb dX10_enterVolume_36 (by decide) ?_
  refine fx_put (ci := 0) (v := .int (0)) hx hb hts i0 tyX0_ok nmX0 hown hK (cwf_C (o := 6) hW hn (by decide)) (cA_C hn (by decide)) hS rfl 2 (by decide) kl185 rfl rfl rfl (Nat.le_of_ble_eq_true rfl) dX10_enterVolume_37 (fun H locs hat hne hS => ?_)
  have hW : cwf E bb gd ch n (sC u2 6 2 (0)) H := cwf_sC (o := 6) (k := 2) (v := 0) hW hn (by decide) hat hne
  refine lv_aload_n hx hb dX10_enterVolume_40 rfl (lv_at hl 0 rfl) ?_
  refine gx_v (rest := []) ⟨hx, hb, hml, hown, hts⟩ (mX3_forgetDrug l E bb gd ch n hn (sC u2 6 2 (0))) (cwV 0 hts gX10_enterVolume_X3_forgetDrug rfl rfl rfl (by decide +kernel) ⟨Nat.le_of_ble_eq_true rfl, Nat.le_of_ble_eq_true rfl⟩) hW hK (fx_recv hK (cwf_C (o := 1) hW hn (by decide)) rfl) rfl hl.1 rfl (Nat.le_of_ble_eq_true rfl) dX10_enterVolume_41 ⟨Nat.le_of_ble_eq_true rfl, Nat.le_of_ble_eq_true rfl⟩ hS (fun _ h => h) (fun u3 H locs e3 hW hS => ?_)
  have e3 : fX3_forgetDrug n (sC u2 6 2 (0)) = u3 := e3
  try rw [e3] at hf
  have hk3 : okF u3 := e3 ▸ (okX3_forgetDrug hn hk2)
  refine lv_aload_n hx hb dX10_enterVolume_44 rfl (lv_at hl 2 rfl) ?_
  refine lv_bipush (v := 6) hx hb dX10_enterVolume_45 (by decide) ?_
  refine gx_v (rest := []) ⟨hx, hb, hml, hown, hts⟩ (mX1_goTo l E bb gd ch n hn u3 6) (cwV 1 hts gX10_enterVolume_X1_goTo rfl rfl rfl (by decide +kernel) ⟨Nat.le_of_ble_eq_true rfl, Nat.le_of_ble_eq_true rfl⟩) hW hK (fx_recv hK (cwf_C (o := 0) hW hn (by decide)) rfl) rfl hl.1 rfl (Nat.le_of_ble_eq_true rfl) dX10_enterVolume_47 ⟨Nat.le_of_ble_eq_true rfl, Nat.le_of_ble_eq_true rfl⟩ hS (fun _ h => h) (fun u4 H locs e4 hW hS => ?_)
  have e4 : fX1_goTo 6 u3 = u4 := e4
  try rw [e4] at hf
  have hk4 : okF u4 := e4 ▸ (okX1_goTo hk3)
  refine lv_aload_n hx hb dX10_enterVolume_50 rfl (lv_at hl 1 rfl) ?_
  refine lv_iconst (v := 0) hx hb dX10_enterVolume_51 (by decide) ?_
  refine lv_aload_n hx hb dX10_enterVolume_52 rfl (lv_at hl 2 rfl) ?_
  refine lv_aload_n hx hb dX10_enterVolume_53 rfl (lv_at hl 2 rfl) ?_
  refine fx_get (ci := 1) (v := .ref (bb + 21 + 14 * n + 4)) hx hb hts i1 hown hK (cwf_C (o := 0) hW hn (by decide)) rfl 2 (by decide) kl163 rfl dX10_enterVolume_54 ?_
  refine fx_get (ci := 7) (v := .int (u4.2.1 4 1)) hx hb hts i7 hown hK (cwf_C (o := 4) hW hn (by decide)) rfl 1 (by decide) kl167 rfl dX10_enterVolume_57 ?_
  refine gx_v (rest := []) ⟨hx, hb, hml, hown, hts⟩ (mX10_note l E bb gd ch n hn u4 0 (u4.2.1 4 1)) (cwV 3 hts gX10_enterVolume_X10_note rfl rfl rfl (by decide +kernel) ⟨Nat.le_of_ble_eq_true rfl, Nat.le_of_ble_eq_true rfl⟩) hW hK (fx_recv hK (cwf_P (o := 0) hW (by decide)) rfl) rfl hl.1 rfl (Nat.le_of_ble_eq_true rfl) dX10_enterVolume_60 ⟨Nat.le_of_ble_eq_true rfl, Nat.le_of_ble_eq_true rfl⟩ hS (fun _ h => h) (fun u5 H locs e5 hW hS => ?_)
  have e5 : fX10_note n 0 (u4.2.1 4 1) u4 = u5 := e5
  try rw [e5] at hf
  have hk5 : okF u5 := e5 ▸ (okX10_note hk4)
  refine lv_aload_n hx hb dX10_enterVolume_63 rfl (lv_at hl 2 rfl) ?_
  refine fx_get (ci := 1) (v := .int (u5.2.1 0 6)) hx hb hts i1 hown hK (cwf_C (o := 0) hW hn (by decide)) rfl 6 (by decide) kl141 rfl dX10_enterVolume_64 ?_
  exact gx_iret hx hb hr rfl hlocks hK hf hW hS dX10_enterVolume_67
theorem okX10_enterVolume {gd : Nat → Nat → Int32} {n : Nat} {p1 : Int32} {x : FS} (hn : n < 3) (hok : okF x) : okF (fX10_enterVolume gd n p1 x).1 := by unfold fX10_enterVolume; exact (okX10_note (okX1_goTo (okX3_forgetDrug hn (okF_sC rfl (okX7_renew hok.2.2.2.2.2.1 hok)))))

def fX10_pressEnter (gd : Nat → Nat → Int32) (n : Nat) (x : FS) : FS × Int32 := if (fX1_takesNumber x) = 0 then ((x, -1)) else (if (fX9_isComplete x) = 0 then ((x, -1)) else (if (x.2.1 0 6) = 1 then (((fX10_enterDrug gd (fX9_inUnits (fX1_places gd x) x) x).1, ((fX10_enterDrug gd (fX9_inUnits (fX1_places gd x) x) x).2))) else if (x.2.1 0 6) = 2 then (((fX10_enterWeight (fX9_inUnits (fX1_places gd x) x) x).1, ((fX10_enterWeight (fX9_inUnits (fX1_places gd x) x) x).2))) else if (x.2.1 0 6) = 3 then (((fX10_enterAmount gd n (fX9_inUnits (fX1_places gd x) x) x).1, ((fX10_enterAmount gd n (fX9_inUnits (fX1_places gd x) x) x).2))) else (((fX10_enterVolume gd n (fX9_inUnits (fX1_places gd x) x) x).1, ((fX10_enterVolume gd n (fX9_inUnits (fX1_places gd x) x) x).2)))))
set_option maxHeartbeats 4000000 in
set_option maxRecDepth 100000 in
theorem mX10_pressEnter (l : Launch) (E : eE) (bb : Nat) (gd : Nat → Nat → Int32) (ch : Nat → Nat → Nat → Int32) (n : Nat) (hn : n < 3) (x : FS) (hok : okF x) : Met l yX10_pressEnter wsX10_pressEnter ({ frames := 3, cells := 0, slots := 0, locals := 75 }) (gPre E (cwf E bb gd ch n x) [.ref (bb + 0), .ref (bb + 21 + 14 * n + 0)]) (gQi E (cwf E bb gd ch n) (fX10_pressEnter gd n x) (cA bb)) 0 0 (cA bb) := by
  refine Met.ofW (cc := cX10_pressEnter) (maxL := 3) (ret := (some .int)) (by decide) rfl ?_
  intro p e s m args below meth c s₁ B hml hv
  obtain ⟨rfl, hW, hK⟩ := hv
  have hx := B.exec
  have hb := B.bytes
  have hr := B.returns
  have hts := atoms_spec (ws := wsX10_pressEnter) B.pre
  have hown : s.vm.findClass RX10 = some m.cls := findClass_of_methodNamed B.named
  have hlocks := B.notSynchronized
  have i1 : ∀ w ∈ wsX10, w ∈ wsX10_pressEnter := by decide +kernel
  have i3 : ∀ w ∈ wsX30, w ∈ wsX10_pressEnter := by decide +kernel
  have kl106 := hts (.fieldLink RX10 106 "DosePump$Channel" "entry" "LDosePump$Entry;") (by decide +kernel)
  have kl141 := hts (.fieldLink RX10 141 "DosePump$Channel" "phase" "I") (by decide +kernel)
  have kl226 := hts (.fieldLink RX10 226 "DosePump$Entry" "typed" "LDosePump$Typed;") (by decide +kernel)
  have hS : va_S (cA bb) s.heap s.heap [] := va_S.rf
  have hl := lv_entry ([.ref (bb + 0), .ref (bb + 21 + 14 * n + 0)]) (n := 3) (Nat.le_of_ble_eq_true rfl)
  rw [lg_entry_eq]
  generalize (lg_sl ([.ref (bb + 0), .ref (bb + 21 + 14 * n + 0)]) ++ List.replicate (3 - (lg_sl ([.ref (bb + 0), .ref (bb + 21 + 14 * n + 0)])).length) Slot.unset).toArray = ls at hl ⊢
  have hl : lv_has ls 3 [(0, .ref (bb + 0)), (1, .ref (bb + 21 + 14 * n + 0))] := hl
  have hf : fX10_pressEnter gd n x = (if (fX1_takesNumber x) = 0 then ((x, -1)) else (if (fX9_isComplete x) = 0 then ((x, -1)) else (if (x.2.1 0 6) = 1 then (((fX10_enterDrug gd (fX9_inUnits (fX1_places gd x) x) x).1, ((fX10_enterDrug gd (fX9_inUnits (fX1_places gd x) x) x).2))) else if (x.2.1 0 6) = 2 then (((fX10_enterWeight (fX9_inUnits (fX1_places gd x) x) x).1, ((fX10_enterWeight (fX9_inUnits (fX1_places gd x) x) x).2))) else if (x.2.1 0 6) = 3 then (((fX10_enterAmount gd n (fX9_inUnits (fX1_places gd x) x) x).1, ((fX10_enterAmount gd n (fX9_inUnits (fX1_places gd x) x) x).2))) else (((fX10_enterVolume gd n (fX9_inUnits (fX1_places gd x) x) x).1, ((fX10_enterVolume gd n (fX9_inUnits (fX1_places gd x) x) x).2)))))) := rfl
  refine lv_aload_n hx hb dX10_pressEnter_0 rfl (lv_at hl 1 rfl) ?_
  refine gx_i (rest := []) ⟨hx, hb, hml, hown, hts⟩ (mX1_takesNumber l E bb gd ch n hn x) (cwV 0 hts gX10_pressEnter_X1_takesNumber rfl rfl rfl (by decide +kernel) ⟨Nat.le_of_ble_eq_true rfl, Nat.le_of_ble_eq_true rfl⟩) hW hK (fx_recv hK (cwf_C (o := 0) hW hn (by decide)) rfl) rfl hl.1 rfl (Nat.le_of_ble_eq_true rfl) dX10_pressEnter_1 ⟨Nat.le_of_ble_eq_true rfl, Nat.le_of_ble_eq_true rfl⟩ hS (fun _ h => h) (fun _ r1 H locs _ e1 hW hS => ?_)
  have e1 : fX1_takesNumber x = r1 := e1
  try rw [e1] at hf
  refine lv_if_eq (tgt := 20) hx hb dX10_pressEnter_4 (by decide) (fun c_4 => ?_) (fun c_4 => ?_)
  · have hf_4 := hf.trans (if_pos c_4)
    refine lv_iconst (v := -1) hx hb dX10_pressEnter_20 (by decide) ?_
    exact gx_iret hx hb hr rfl hlocks hK hf_4 hW hS dX10_pressEnter_21
  · have hf_4 := hf.trans (if_neg c_4)
    refine lv_aload_n hx hb dX10_pressEnter_7 rfl (lv_at hl 1 rfl) ?_
    refine fx_get (ci := 1) (v := .ref (bb + 21 + 14 * n + 1)) hx hb hts i1 hown hK (cwf_C (o := 0) hW hn (by decide)) rfl 1 (by decide) kl106 rfl dX10_pressEnter_8 ?_
    refine fx_get (ci := 3) (v := .ref (bb + 21 + 14 * n + 2)) hx hb hts i3 hown hK (cwf_C (o := 1) hW hn (by decide)) rfl 0 (by decide) kl226 rfl dX10_pressEnter_11 ?_
    refine gx_i (rest := []) ⟨hx, hb, hml, hown, hts⟩ (mX9_isComplete l E bb gd ch n hn x) (cwV 0 hts gX10_pressEnter_X9_isComplete rfl rfl rfl (by decide +kernel) ⟨Nat.le_of_ble_eq_true rfl, Nat.le_of_ble_eq_true rfl⟩) hW hK (fx_recv hK (cwf_C (o := 2) hW hn (by decide)) rfl) rfl hl.1 rfl (Nat.le_of_ble_eq_true rfl) dX10_pressEnter_14 ⟨Nat.le_of_ble_eq_true rfl, Nat.le_of_ble_eq_true rfl⟩ hS (fun _ h => h) (fun _ r2 H locs _ e2 hW hS => ?_)
    have e2 : fX9_isComplete x = r2 := e2
    try rw [e2] at hf_4
    refine lv_if_ne (tgt := 22) hx hb dX10_pressEnter_17 (by decide) (fun c_17 => ?_) (fun c_17 => ?_)
    · have hf_17 := hf_4.trans (if_neg c_17)
      refine lv_aload_n hx hb dX10_pressEnter_22 rfl (lv_at hl 1 rfl) ?_
      refine fx_get (ci := 1) (v := .ref (bb + 21 + 14 * n + 1)) hx hb hts i1 hown hK (cwf_C (o := 0) hW hn (by decide)) rfl 1 (by decide) kl106 rfl dX10_pressEnter_23 ?_
      refine fx_get (ci := 3) (v := .ref (bb + 21 + 14 * n + 2)) hx hb hts i3 hown hK (cwf_C (o := 1) hW hn (by decide)) rfl 0 (by decide) kl226 rfl dX10_pressEnter_26 ?_
      refine lv_aload_n hx hb dX10_pressEnter_29 rfl (lv_at hl 1 rfl) ?_
      refine gx_i (rest := [.ref (bb + 21 + 14 * n + 2)]) ⟨hx, hb, hml, hown, hts⟩ (mX1_places l E bb gd ch n hn x hok) (cwV 0 hts gX10_pressEnter_X1_places rfl rfl rfl (by decide +kernel) ⟨Nat.le_of_ble_eq_true rfl, Nat.le_of_ble_eq_true rfl⟩) hW hK (fx_recv hK (cwf_C (o := 0) hW hn (by decide)) rfl) rfl hl.1 rfl (Nat.le_of_ble_eq_true rfl) dX10_pressEnter_30 ⟨Nat.le_of_ble_eq_true rfl, Nat.le_of_ble_eq_true rfl⟩ hS (fun _ h => h) (fun _ r3 H locs _ e3 hW hS => ?_)
      have e3 : fX1_places gd x = r3 := e3
      try rw [e3] at hf_17
      refine gx_i (rest := []) ⟨hx, hb, hml, hown, hts⟩ (mX9_inUnits l E bb gd ch n hn x r3) (cwV 1 hts gX10_pressEnter_X9_inUnits rfl rfl rfl (by decide +kernel) ⟨Nat.le_of_ble_eq_true rfl, Nat.le_of_ble_eq_true rfl⟩) hW hK (fx_recv hK (cwf_C (o := 2) hW hn (by decide)) rfl) rfl hl.1 rfl (Nat.le_of_ble_eq_true rfl) dX10_pressEnter_33 ⟨Nat.le_of_ble_eq_true rfl, Nat.le_of_ble_eq_true rfl⟩ hS (fun _ h => h) (fun _ r4 H locs _ e4 hW hS => ?_)
      have e4 : fX9_inUnits r3 x = r4 := e4
      try rw [e4] at hf_17
      refine lv_istore_n (lv' := [(2, .int (r4)), (0, .ref (bb + 0)), (1, .ref (bb + 21 + 14 * n + 0))]) hx hb dX10_pressEnter_36 rfl hl (by decide) rfl (fun ls hl => ?_)
      refine lv_aload_n hx hb dX10_pressEnter_37 rfl (lv_at hl 2 rfl) ?_
      refine fx_get (ci := 1) (v := .int (x.2.1 0 6)) hx hb hts i1 hown hK (cwf_C (o := 0) hW hn (by decide)) rfl 6 (by decide) kl141 rfl dX10_pressEnter_38 ?_
      by_cases c_41_1 : (x.2.1 0 6) = 1
      · have hf_41_1 := hf_17.trans (if_pos c_41_1)
        refine gx_tab (tgt := 68) hx hb c_41_1 dX10_pressEnter_41 (by decide) (by decide) rfl (by decide) ?_
        refine lv_aload_n hx hb dX10_pressEnter_68 rfl (lv_at hl 1 rfl) ?_
        refine lv_aload_n hx hb dX10_pressEnter_69 rfl (lv_at hl 2 rfl) ?_
        refine lv_iload_n hx hb dX10_pressEnter_70 rfl (lv_at hl 0 rfl) ?_
        refine gx_i (rest := []) ⟨hx, hb, hml, hown, hts⟩ (mX10_enterDrug l E bb gd ch n hn x r4 hok) (cwV 2 hts gX10_pressEnter_X10_enterDrug rfl rfl rfl (by decide +kernel) ⟨Nat.le_of_ble_eq_true rfl, Nat.le_of_ble_eq_true rfl⟩) hW hK (fx_recv hK (cwf_P (o := 0) hW (by decide)) rfl) rfl hl.1 rfl (Nat.le_of_ble_eq_true rfl) dX10_pressEnter_71 ⟨Nat.le_of_ble_eq_true rfl, Nat.le_of_ble_eq_true rfl⟩ hS (fun _ h => h) (fun u5 r5 H locs e5 e5r hW hS => ?_)
        have e5 : (fX10_enterDrug gd r4 x).1 = u5 := e5
        have e5r : (fX10_enterDrug gd r4 x).2 = r5 := e5r
        try rw [e5] at hf_41_1
        try rw [e5r] at hf_41_1
        have hk5 : okF u5 := e5 ▸ (okX10_enterDrug hok)
        exact gx_iret hx hb hr rfl hlocks hK hf_41_1 hW hS dX10_pressEnter_74
      have hn_41_1 := hf_17.trans (if_neg c_41_1)
      by_cases c_41_2 : (x.2.1 0 6) = 2
      · have hf_41_2 := hn_41_1.trans (if_pos c_41_2)
        refine gx_tab (tgt := 75) hx hb c_41_2 dX10_pressEnter_41 (by decide) (by decide) rfl (by decide) ?_
        refine lv_aload_n hx hb dX10_pressEnter_75 rfl (lv_at hl 1 rfl) ?_
        refine lv_aload_n hx hb dX10_pressEnter_76 rfl (lv_at hl 2 rfl) ?_
        refine lv_iload_n hx hb dX10_pressEnter_77 rfl (lv_at hl 0 rfl) ?_
        refine gx_i (rest := []) ⟨hx, hb, hml, hown, hts⟩ (mX10_enterWeight l E bb gd ch n hn x r4) (cwV 2 hts gX10_pressEnter_X10_enterWeight rfl rfl rfl (by decide +kernel) ⟨Nat.le_of_ble_eq_true rfl, Nat.le_of_ble_eq_true rfl⟩) hW hK (fx_recv hK (cwf_P (o := 0) hW (by decide)) rfl) rfl hl.1 rfl (Nat.le_of_ble_eq_true rfl) dX10_pressEnter_78 ⟨Nat.le_of_ble_eq_true rfl, Nat.le_of_ble_eq_true rfl⟩ hS (fun _ h => h) (fun u6 r6 H locs e6 e6r hW hS => ?_)
        have e6 : (fX10_enterWeight r4 x).1 = u6 := e6
        have e6r : (fX10_enterWeight r4 x).2 = r6 := e6r
        try rw [e6] at hf_41_2
        try rw [e6r] at hf_41_2
        have hk6 : okF u6 := e6 ▸ (okX10_enterWeight hok)
        exact gx_iret hx hb hr rfl hlocks hK hf_41_2 hW hS dX10_pressEnter_81
      have hn_41_2 := hn_41_1.trans (if_neg c_41_2)
      by_cases c_41_3 : (x.2.1 0 6) = 3
      · have hf_41_3 := hn_41_2.trans (if_pos c_41_3)
        refine gx_tab (tgt := 82) hx hb c_41_3 dX10_pressEnter_41 (by decide) (by decide) rfl (by decide) ?_
        refine lv_aload_n hx hb dX10_pressEnter_82 rfl (lv_at hl 1 rfl) ?_
        refine lv_aload_n hx hb dX10_pressEnter_83 rfl (lv_at hl 2 rfl) ?_
        refine lv_iload_n hx hb dX10_pressEnter_84 rfl (lv_at hl 0 rfl) ?_
        refine gx_i (rest := []) ⟨hx, hb, hml, hown, hts⟩ (mX10_enterAmount l E bb gd ch n hn x r4 hok) (cwV 2 hts gX10_pressEnter_X10_enterAmount rfl rfl rfl (by decide +kernel) ⟨Nat.le_of_ble_eq_true rfl, Nat.le_of_ble_eq_true rfl⟩) hW hK (fx_recv hK (cwf_P (o := 0) hW (by decide)) rfl) rfl hl.1 rfl (Nat.le_of_ble_eq_true rfl) dX10_pressEnter_85 ⟨Nat.le_of_ble_eq_true rfl, Nat.le_of_ble_eq_true rfl⟩ hS (fun _ h => h) (fun u7 r7 H locs e7 e7r hW hS => ?_)
        have e7 : (fX10_enterAmount gd n r4 x).1 = u7 := e7
        have e7r : (fX10_enterAmount gd n r4 x).2 = r7 := e7r
        try rw [e7] at hf_41_3
        try rw [e7r] at hf_41_3
        have hk7 : okF u7 := e7 ▸ (okX10_enterAmount hok)
        exact gx_iret hx hb hr rfl hlocks hK hf_41_3 hW hS dX10_pressEnter_88
      have hn_41_3 := hn_41_2.trans (if_neg c_41_3)
      refine lv_tableOut (tgt := 89) hx hb dX10_pressEnter_41 (by have e1 := sw_ne (k := 1) 1 rfl c_41_1; have e2 := sw_ne (k := 2) 2 rfl c_41_2; have e3 := sw_ne (k := 3) 3 rfl c_41_3; omega) (by decide) ?_
      refine lv_aload_n hx hb dX10_pressEnter_89 rfl (lv_at hl 1 rfl) ?_
      refine lv_aload_n hx hb dX10_pressEnter_90 rfl (lv_at hl 2 rfl) ?_
      refine lv_iload_n hx hb dX10_pressEnter_91 rfl (lv_at hl 0 rfl) ?_
      refine gx_i (rest := []) ⟨hx, hb, hml, hown, hts⟩ (mX10_enterVolume l E bb gd ch n hn x r4 hok) (cwV 2 hts gX10_pressEnter_X10_enterVolume rfl rfl rfl (by decide +kernel) ⟨Nat.le_of_ble_eq_true rfl, Nat.le_of_ble_eq_true rfl⟩) hW hK (fx_recv hK (cwf_P (o := 0) hW (by decide)) rfl) rfl hl.1 rfl (Nat.le_of_ble_eq_true rfl) dX10_pressEnter_92 ⟨Nat.le_of_ble_eq_true rfl, Nat.le_of_ble_eq_true rfl⟩ hS (fun _ h => h) (fun u8 r8 H locs e8 e8r hW hS => ?_)
      have e8 : (fX10_enterVolume gd n r4 x).1 = u8 := e8
      have e8r : (fX10_enterVolume gd n r4 x).2 = r8 := e8r
      try rw [e8] at hn_41_3
      try rw [e8r] at hn_41_3
      have hk8 : okF u8 := e8 ▸ (okX10_enterVolume hn hok)
      exact gx_iret hx hb hr rfl hlocks hK hn_41_3 hW hS dX10_pressEnter_95
    · have hf_17 := hf_4.trans (if_pos c_17)
      refine lv_iconst (v := -1) hx hb dX10_pressEnter_20 (by decide) ?_
      exact gx_iret hx hb hr rfl hlocks hK hf_17 hW hS dX10_pressEnter_21
theorem okX10_pressEnter {gd : Nat → Nat → Int32} {n : Nat} {x : FS} (hn : n < 3) (hok : okF x) : okF (fX10_pressEnter gd n x).1 := by unfold fX10_pressEnter; exact (okF_ite1 (fun c_4 => hok) (fun c_4 => (okF_ite1 (fun c_17 => hok) (fun c_17 => (okF_ite1 (fun c_41_1 => (okX10_enterDrug hok)) (fun c_41_1 => (okF_ite1 (fun c_41_2 => (okX10_enterWeight hok)) (fun c_41_2 => (okF_ite1 (fun c_41_3 => (okX10_enterAmount hok)) (fun c_41_3 => (okX10_enterVolume hn hok)))))))))))

def fX10_pressBegin_J16 (y : FS) : FS × Int32 := ((fX1_goTo 1 (sC (sC y 1 3 (y.2.1 0 6)) 0 9 (0))), (fX1_goTo 1 (sC (sC y 1 3 (y.2.1 0 6)) 0 9 (0))).2.1 0 6)
def fX10_pressBegin (x : FS) : FS × Int32 := if (fX1_isAtRest x) = 0 then (if (x.2.1 0 6) = 0 then (fX10_pressBegin_J16 x) else ((x, -1))) else (fX10_pressBegin_J16 x)
set_option maxHeartbeats 4000000 in
set_option maxRecDepth 100000 in
theorem mX10_pressBegin (l : Launch) (E : eE) (bb : Nat) (gd : Nat → Nat → Int32) (ch : Nat → Nat → Nat → Int32) (n : Nat) (hn : n < 3) (x : FS) : Met l yX10_pressBegin wsX10_pressBegin ({ frames := 2, cells := 0, slots := 0, locals := 41 }) (gPre E (cwf E bb gd ch n x) [.ref (bb + 0), .ref (bb + 21 + 14 * n + 0)]) (gQi E (cwf E bb gd ch n) (fX10_pressBegin x) (cA bb)) 0 0 (cA bb) := by
  refine Met.ofW (cc := cX10_pressBegin) (maxL := 2) (ret := (some .int)) (by decide) rfl ?_
  intro p e s m args below meth c s₁ B hml hv
  obtain ⟨rfl, hW, hK⟩ := hv
  have hx := B.exec
  have hb := B.bytes
  have hr := B.returns
  have hts := atoms_spec (ws := wsX10_pressBegin) B.pre
  have hown : s.vm.findClass RX10 = some m.cls := findClass_of_methodNamed B.named
  have hlocks := B.notSynchronized
  have i1 : ∀ w ∈ wsX10, w ∈ wsX10_pressBegin := by decide +kernel
  have i3 : ∀ w ∈ wsX30, w ∈ wsX10_pressBegin := by decide +kernel
  have kl106 := hts (.fieldLink RX10 106 "DosePump$Channel" "entry" "LDosePump$Entry;") (by decide +kernel)
  have kl141 := hts (.fieldLink RX10 141 "DosePump$Channel" "phase" "I") (by decide +kernel)
  have kl210 := hts (.fieldLink RX10 210 "DosePump$Channel" "waits" "Z") (by decide +kernel)
  have kl371 := hts (.fieldLink RX10 371 "DosePump$Entry" "cameFrom" "I") (by decide +kernel)
  have hS : va_S (cA bb) s.heap s.heap [] := va_S.rf
  have hl := lv_entry ([.ref (bb + 0), .ref (bb + 21 + 14 * n + 0)]) (n := 2) (Nat.le_of_ble_eq_true rfl)
  rw [lg_entry_eq]
  generalize (lg_sl ([.ref (bb + 0), .ref (bb + 21 + 14 * n + 0)]) ++ List.replicate (2 - (lg_sl ([.ref (bb + 0), .ref (bb + 21 + 14 * n + 0)])).length) Slot.unset).toArray = ls at hl ⊢
  have hl : lv_has ls 2 [(0, .ref (bb + 0)), (1, .ref (bb + 21 + 14 * n + 0))] := hl
  have J16 : ∀ (H : Heap) (locs : List Loc) (ls : Array Slot) (y : FS), cwf E bb gd ch n y H → va_S (cA bb) s.heap H locs → lv_has ls 2 [(1, .ref (bb + 21 + 14 * n + 0))] → fX10_pressBegin x = fX10_pressBegin_J16 y → W p l e (headSpec wsX10_pressBegin { frames := 2, cells := 0, slots := 0, locals := 41 }).room s m ([.ref (bb + 0), .ref (bb + 21 + 14 * n + 0)] : List Value).toArray below meth c H locs 0 0 (MQ below (gQi E (cwf E bb gd ch n) (fX10_pressBegin x) (cA bb)) ([.ref (bb + 0), .ref (bb + 21 + 14 * n + 0)] : List Value).toArray s 0 0 (cA bb)) (F0 m 16 ls []) := by
    intro H locs ls y hW hS hl hf
    replace hf : fX10_pressBegin x = (((fX1_goTo 1 (sC (sC y 1 3 (y.2.1 0 6)) 0 9 (0))), (fX1_goTo 1 (sC (sC y 1 3 (y.2.1 0 6)) 0 9 (0))).2.1 0 6)) := hf
    refine lv_aload_n hx hb dX10_pressBegin_16 rfl (lv_at hl 0 rfl) ?_
    refine fx_get (ci := 1) (v := .ref (bb + 21 + 14 * n + 1)) hx hb hts i1 hown hK (cwf_C (o := 0) hW hn (by decide)) rfl 1 (by decide) kl106 rfl dX10_pressBegin_17 ?_
    refine lv_aload_n hx hb dX10_pressBegin_20 rfl (lv_at hl 0 rfl) ?_
    refine fx_get (ci := 1) (v := .int (y.2.1 0 6)) hx hb hts i1 hown hK (cwf_C (o := 0) hW hn (by decide)) rfl 6 (by decide) kl141 rfl dX10_pressBegin_21 ?_
    refine fx_put (ci := 3) (v := .int (y.2.1 0 6)) hx hb hts i3 tyX3_ok nmX3 hown hK (cwf_C (o := 1) hW hn (by decide)) (cA_C hn (by decide)) hS rfl 3 (by decide) kl371 rfl rfl rfl (Nat.le_of_ble_eq_true rfl) dX10_pressBegin_24 (fun H locs hat hne hS => ?_)
    have hW : cwf E bb gd ch n (sC y 1 3 (y.2.1 0 6)) H := cwf_sC (o := 1) (k := 3) (v := y.2.1 0 6) hW hn (by decide) hat hne
    refine lv_aload_n hx hb dX10_pressBegin_27 rfl (lv_at hl 0 rfl) ?_
    refine lv_iconst (v := 0) hx hb dX10_pressBegin_28 (by decide) ?_
    refine fx_put (ci := 1) (v := .int (0)) hx hb hts i1 tyX1_ok nmX1 hown hK (cwf_C (o := 0) hW hn (by decide)) (cA_C hn (by decide)) hS rfl 9 (by decide) kl210 rfl (by decide) (by decide) (Nat.le_of_ble_eq_true rfl) dX10_pressBegin_29 (fun H locs hat hne hS => ?_)
    have hW : cwf E bb gd ch n (sC (sC y 1 3 (y.2.1 0 6)) 0 9 (0)) H := cwf_sC (o := 0) (k := 9) (v := 0) hW hn (by decide) hat hne
    refine lv_aload_n hx hb dX10_pressBegin_32 rfl (lv_at hl 0 rfl) ?_
    refine lv_iconst (v := 1) hx hb dX10_pressBegin_33 (by decide) ?_
    refine gx_v (rest := []) ⟨hx, hb, hml, hown, hts⟩ (mX1_goTo l E bb gd ch n hn (sC (sC y 1 3 (y.2.1 0 6)) 0 9 (0)) 1) (cwV 1 hts gX10_pressBegin_X1_goTo rfl rfl rfl (by decide +kernel) ⟨Nat.le_of_ble_eq_true rfl, Nat.le_of_ble_eq_true rfl⟩) hW hK (fx_recv hK (cwf_C (o := 0) hW hn (by decide)) rfl) rfl hl.1 rfl (Nat.le_of_ble_eq_true rfl) dX10_pressBegin_34 ⟨Nat.le_of_ble_eq_true rfl, Nat.le_of_ble_eq_true rfl⟩ hS (fun _ h => h) (fun u2 H locs e2 hW hS => ?_)
    have e2 : fX1_goTo 1 (sC (sC y 1 3 (y.2.1 0 6)) 0 9 (0)) = u2 := e2
    try rw [e2] at hf
    refine lv_aload_n hx hb dX10_pressBegin_37 rfl (lv_at hl 0 rfl) ?_
    refine fx_get (ci := 1) (v := .int (u2.2.1 0 6)) hx hb hts i1 hown hK (cwf_C (o := 0) hW hn (by decide)) rfl 6 (by decide) kl141 rfl dX10_pressBegin_38 ?_
    exact gx_iret hx hb hr rfl hlocks hK hf hW hS dX10_pressBegin_41
  have hf : fX10_pressBegin x = (if (fX1_isAtRest x) = 0 then (if (x.2.1 0 6) = 0 then (fX10_pressBegin_J16 x) else ((x, -1))) else (fX10_pressBegin_J16 x)) := rfl
  refine lv_aload_n hx hb dX10_pressBegin_0 rfl (lv_at hl 1 rfl) ?_
  refine gx_i (rest := []) ⟨hx, hb, hml, hown, hts⟩ (mX1_isAtRest l E bb gd ch n hn x) (cwV 0 hts gX10_pressBegin_X1_isAtRest rfl rfl rfl (by decide +kernel) ⟨Nat.le_of_ble_eq_true rfl, Nat.le_of_ble_eq_true rfl⟩) hW hK (fx_recv hK (cwf_C (o := 0) hW hn (by decide)) rfl) rfl hl.1 rfl (Nat.le_of_ble_eq_true rfl) dX10_pressBegin_1 ⟨Nat.le_of_ble_eq_true rfl, Nat.le_of_ble_eq_true rfl⟩ hS (fun _ h => h) (fun _ r1 H locs _ e1 hW hS => ?_)
  have e1 : fX1_isAtRest x = r1 := e1
  try rw [e1] at hf
  refine lv_if_ne (tgt := 16) hx hb dX10_pressBegin_4 (by decide) (fun c_4 => ?_) (fun c_4 => ?_)
  · have hf_4 := hf.trans (if_neg c_4)
    exact J16 _ _ _ x hW hS (lv_sub hl [1] rfl) hf_4
  · have hf_4 := hf.trans (if_pos c_4)
    refine lv_aload_n hx hb dX10_pressBegin_7 rfl (lv_at hl 1 rfl) ?_
    refine fx_get (ci := 1) (v := .int (x.2.1 0 6)) hx hb hts i1 hown hK (cwf_C (o := 0) hW hn (by decide)) rfl 6 (by decide) kl141 rfl dX10_pressBegin_8 ?_
    refine lv_if_eq (tgt := 16) hx hb dX10_pressBegin_11 (by decide) (fun c_11 => ?_) (fun c_11 => ?_)
    · have hf_11 := hf_4.trans (if_pos c_11)
      exact J16 _ _ _ x hW hS (lv_sub hl [1] rfl) hf_11
    · have hf_11 := hf_4.trans (if_neg c_11)
      refine lv_iconst (v := -1) hx hb dX10_pressBegin_14 (by decide) ?_
      exact gx_iret hx hb hr rfl hlocks hK hf_11 hW hS dX10_pressBegin_15
theorem okX10_pressBegin_J16 {y : FS} (hok : okF y) : okF (fX10_pressBegin_J16 y).1 := by unfold fX10_pressBegin_J16; exact (okX1_goTo (okF_sC rfl (okF_sC rfl hok)))
theorem okX10_pressBegin {x : FS} (hok : okF x) : okF (fX10_pressBegin x).1 := by unfold fX10_pressBegin; exact (okF_ite1 (fun c_4 => (okF_ite1 (fun c_11 => (okX10_pressBegin_J16 hok)) (fun c_11 => hok))) (fun c_4 => (okX10_pressBegin_J16 hok)))

def fX10_pressRun (n : Nat) (x : FS) : FS × Int32 := if (fX1_canRun x) = 0 then ((x, -1)) else (((fX10_startRunning n x), (fX10_startRunning n x).2.1 0 6))
set_option maxHeartbeats 4000000 in
set_option maxRecDepth 100000 in
theorem mX10_pressRun (l : Launch) (E : eE) (bb : Nat) (gd : Nat → Nat → Int32) (ch : Nat → Nat → Nat → Int32) (n : Nat) (hn : n < 3) (x : FS) : Met l yX10_pressRun wsX10_pressRun ({ frames := 3, cells := 0, slots := 0, locals := 72 }) (gPre E (cwf E bb gd ch n x) [.ref (bb + 0), .ref (bb + 21 + 14 * n + 0)]) (gQi E (cwf E bb gd ch n) (fX10_pressRun n x) (cA bb)) 0 0 (cA bb) := by
  refine Met.ofW (cc := cX10_pressRun) (maxL := 2) (ret := (some .int)) (by decide) rfl ?_
  intro p e s m args below meth c s₁ B hml hv
  obtain ⟨rfl, hW, hK⟩ := hv
  have hx := B.exec
  have hb := B.bytes
  have hr := B.returns
  have hts := atoms_spec (ws := wsX10_pressRun) B.pre
  have hown : s.vm.findClass RX10 = some m.cls := findClass_of_methodNamed B.named
  have hlocks := B.notSynchronized
  have i1 : ∀ w ∈ wsX10, w ∈ wsX10_pressRun := by decide +kernel
  have kl141 := hts (.fieldLink RX10 141 "DosePump$Channel" "phase" "I") (by decide +kernel)
  have hS : va_S (cA bb) s.heap s.heap [] := va_S.rf
  have hl := lv_entry ([.ref (bb + 0), .ref (bb + 21 + 14 * n + 0)]) (n := 2) (Nat.le_of_ble_eq_true rfl)
  rw [lg_entry_eq]
  generalize (lg_sl ([.ref (bb + 0), .ref (bb + 21 + 14 * n + 0)]) ++ List.replicate (2 - (lg_sl ([.ref (bb + 0), .ref (bb + 21 + 14 * n + 0)])).length) Slot.unset).toArray = ls at hl ⊢
  have hl : lv_has ls 2 [(0, .ref (bb + 0)), (1, .ref (bb + 21 + 14 * n + 0))] := hl
  have hf : fX10_pressRun n x = (if (fX1_canRun x) = 0 then ((x, -1)) else (((fX10_startRunning n x), (fX10_startRunning n x).2.1 0 6))) := rfl
  refine lv_aload_n hx hb dX10_pressRun_0 rfl (lv_at hl 1 rfl) ?_
  refine gx_i (rest := []) ⟨hx, hb, hml, hown, hts⟩ (mX1_canRun l E bb gd ch n hn x) (cwV 0 hts gX10_pressRun_X1_canRun rfl rfl rfl (by decide +kernel) ⟨Nat.le_of_ble_eq_true rfl, Nat.le_of_ble_eq_true rfl⟩) hW hK (fx_recv hK (cwf_C (o := 0) hW hn (by decide)) rfl) rfl hl.1 rfl (Nat.le_of_ble_eq_true rfl) dX10_pressRun_1 ⟨Nat.le_of_ble_eq_true rfl, Nat.le_of_ble_eq_true rfl⟩ hS (fun _ h => h) (fun _ r1 H locs _ e1 hW hS => ?_)
  have e1 : fX1_canRun x = r1 := e1
  try rw [e1] at hf
  refine lv_if_ne (tgt := 9) hx hb dX10_pressRun_4 (by decide) (fun c_4 => ?_) (fun c_4 => ?_)
  · have hf_4 := hf.trans (if_neg c_4)
    refine lv_aload_n hx hb dX10_pressRun_9 rfl (lv_at hl 0 rfl) ?_
    refine lv_aload_n hx hb dX10_pressRun_10 rfl (lv_at hl 1 rfl) ?_
    refine gx_v (rest := []) ⟨hx, hb, hml, hown, hts⟩ (mX10_startRunning l E bb gd ch n hn x) (cwV 1 hts gX10_pressRun_X10_startRunning rfl rfl rfl (by decide +kernel) ⟨Nat.le_of_ble_eq_true rfl, Nat.le_of_ble_eq_true rfl⟩) hW hK (fx_recv hK (cwf_P (o := 0) hW (by decide)) rfl) rfl hl.1 rfl (Nat.le_of_ble_eq_true rfl) dX10_pressRun_11 ⟨Nat.le_of_ble_eq_true rfl, Nat.le_of_ble_eq_true rfl⟩ hS (fun _ h => h) (fun u2 H locs e2 hW hS => ?_)
    have e2 : fX10_startRunning n x = u2 := e2
    try rw [e2] at hf_4
    refine lv_aload_n hx hb dX10_pressRun_14 rfl (lv_at hl 1 rfl) ?_
    refine fx_get (ci := 1) (v := .int (u2.2.1 0 6)) hx hb hts i1 hown hK (cwf_C (o := 0) hW hn (by decide)) rfl 6 (by decide) kl141 rfl dX10_pressRun_15 ?_
    exact gx_iret hx hb hr rfl hlocks hK hf_4 hW hS dX10_pressRun_18
  · have hf_4 := hf.trans (if_pos c_4)
    refine lv_iconst (v := -1) hx hb dX10_pressRun_7 (by decide) ?_
    exact gx_iret hx hb hr rfl hlocks hK hf_4 hW hS dX10_pressRun_8
theorem okX10_pressRun {n : Nat} {x : FS} (hok : okF x) : okF (fX10_pressRun n x).1 := by unfold fX10_pressRun; exact (okF_ite1 (fun c_4 => hok) (fun c_4 => (okX10_startRunning hok)))

def fX10_pressStop_J46 (n : Nat) (y : FS) : FS × Int32 := (y, y.2.1 0 6)
def fX10_pressStop (n : Nat) (x : FS) : FS × Int32 := if (x.2.1 0 6) = 7 then (fX10_pressStop_J46 n (fX10_note n 4 ((fX1_hold x).2.1 4 3) (fX1_hold x))) else (if (fX1_hasEntry x) = 0 then ((x, -1)) else (fX10_pressStop_J46 n (fX10_dropEntry n x)))
set_option maxHeartbeats 4000000 in
set_option maxRecDepth 100000 in
theorem mX10_pressStop (l : Launch) (E : eE) (bb : Nat) (gd : Nat → Nat → Int32) (ch : Nat → Nat → Nat → Int32) (n : Nat) (hn : n < 3) (x : FS) : Met l yX10_pressStop wsX10_pressStop ({ frames := 3, cells := 0, slots := 0, locals := 73 }) (gPre E (cwf E bb gd ch n x) [.ref (bb + 0), .ref (bb + 21 + 14 * n + 0)]) (gQi E (cwf E bb gd ch n) (fX10_pressStop n x) (cA bb)) 0 0 (cA bb) := by
  refine Met.ofW (cc := cX10_pressStop) (maxL := 2) (ret := (some .int)) (by decide) rfl ?_
  intro p e s m args below meth c s₁ B hml hv
  obtain ⟨rfl, hW, hK⟩ := hv
  have hx := B.exec
  have hb := B.bytes
  have hr := B.returns
  have hts := atoms_spec (ws := wsX10_pressStop) B.pre
  have hown : s.vm.findClass RX10 = some m.cls := findClass_of_methodNamed B.named
  have hlocks := B.notSynchronized
  have i1 : ∀ w ∈ wsX10, w ∈ wsX10_pressStop := by decide +kernel
  have i7 : ∀ w ∈ wsX70, w ∈ wsX10_pressStop := by decide +kernel
  have kl141 := hts (.fieldLink RX10 141 "DosePump$Channel" "phase" "I") (by decide +kernel)
  have kl163 := hts (.fieldLink RX10 163 "DosePump$Channel" "program" "LDosePump$Program;") (by decide +kernel)
  have kl175 := hts (.fieldLink RX10 175 "DosePump$Program" "made" "I") (by decide +kernel)
  have hS : va_S (cA bb) s.heap s.heap [] := va_S.rf
  have hl := lv_entry ([.ref (bb + 0), .ref (bb + 21 + 14 * n + 0)]) (n := 2) (Nat.le_of_ble_eq_true rfl)
  rw [lg_entry_eq]
  generalize (lg_sl ([.ref (bb + 0), .ref (bb + 21 + 14 * n + 0)]) ++ List.replicate (2 - (lg_sl ([.ref (bb + 0), .ref (bb + 21 + 14 * n + 0)])).length) Slot.unset).toArray = ls at hl ⊢
  have hl : lv_has ls 2 [(0, .ref (bb + 0)), (1, .ref (bb + 21 + 14 * n + 0))] := hl
  have J46 : ∀ (H : Heap) (locs : List Loc) (ls : Array Slot) (y : FS), cwf E bb gd ch n y H → va_S (cA bb) s.heap H locs → lv_has ls 2 [(1, .ref (bb + 21 + 14 * n + 0))] → fX10_pressStop n x = fX10_pressStop_J46 n y → W p l e (headSpec wsX10_pressStop { frames := 3, cells := 0, slots := 0, locals := 73 }).room s m ([.ref (bb + 0), .ref (bb + 21 + 14 * n + 0)] : List Value).toArray below meth c H locs 0 0 (MQ below (gQi E (cwf E bb gd ch n) (fX10_pressStop n x) (cA bb)) ([.ref (bb + 0), .ref (bb + 21 + 14 * n + 0)] : List Value).toArray s 0 0 (cA bb)) (F0 m 46 ls []) := by
    intro H locs ls y hW hS hl hf
    replace hf : fX10_pressStop n x = ((y, y.2.1 0 6)) := hf
    refine lv_aload_n hx hb dX10_pressStop_46 rfl (lv_at hl 0 rfl) ?_
    refine fx_get (ci := 1) (v := .int (y.2.1 0 6)) hx hb hts i1 hown hK (cwf_C (o := 0) hW hn (by decide)) rfl 6 (by decide) kl141 rfl dX10_pressStop_47 ?_
    exact gx_iret hx hb hr rfl hlocks hK hf hW hS dX10_pressStop_50
  have hf : fX10_pressStop n x = (if (x.2.1 0 6) = 7 then (fX10_pressStop_J46 n (fX10_note n 4 ((fX1_hold x).2.1 4 3) (fX1_hold x))) else (if (fX1_hasEntry x) = 0 then ((x, -1)) else (fX10_pressStop_J46 n (fX10_dropEntry n x)))) := rfl
  refine lv_aload_n hx hb dX10_pressStop_0 rfl (lv_at hl 1 rfl) ?_
  refine fx_get (ci := 1) (v := .int (x.2.1 0 6)) hx hb hts i1 hown hK (cwf_C (o := 0) hW hn (by decide)) rfl 6 (by decide) kl141 rfl dX10_pressStop_1 ?_
  refine lv_bipush (v := 7) hx hb dX10_pressStop_4 (by decide) ?_
  refine lv_icmp_ne (tgt := 29) hx hb dX10_pressStop_6 (by decide) (fun c_6 => ?_) (fun c_6 => ?_)
  · have hf_6 := hf.trans (if_neg c_6)
    refine lv_aload_n hx hb dX10_pressStop_29 rfl (lv_at hl 1 rfl) ?_
    refine gx_i (rest := []) ⟨hx, hb, hml, hown, hts⟩ (mX1_hasEntry l E bb gd ch n hn x) (cwV 0 hts gX10_pressStop_X1_hasEntry rfl rfl rfl (by decide +kernel) ⟨Nat.le_of_ble_eq_true rfl, Nat.le_of_ble_eq_true rfl⟩) hW hK (fx_recv hK (cwf_C (o := 0) hW hn (by decide)) rfl) rfl hl.1 rfl (Nat.le_of_ble_eq_true rfl) dX10_pressStop_30 ⟨Nat.le_of_ble_eq_true rfl, Nat.le_of_ble_eq_true rfl⟩ hS (fun _ h => h) (fun _ r1 H locs _ e1 hW hS => ?_)
    have e1 : fX1_hasEntry x = r1 := e1
    try rw [e1] at hf_6
    refine lv_if_eq (tgt := 44) hx hb dX10_pressStop_33 (by decide) (fun c_33 => ?_) (fun c_33 => ?_)
    · have hf_33 := hf_6.trans (if_pos c_33)
      refine lv_iconst (v := -1) hx hb dX10_pressStop_44 (by decide) ?_
      exact gx_iret hx hb hr rfl hlocks hK hf_33 hW hS dX10_pressStop_45
    · have hf_33 := hf_6.trans (if_neg c_33)
      refine lv_aload_n hx hb dX10_pressStop_36 rfl (lv_at hl 0 rfl) ?_
      refine lv_aload_n hx hb dX10_pressStop_37 rfl (lv_at hl 1 rfl) ?_
      refine gx_v (rest := []) ⟨hx, hb, hml, hown, hts⟩ (mX10_dropEntry l E bb gd ch n hn x) (cwV 1 hts gX10_pressStop_X10_dropEntry rfl rfl rfl (by decide +kernel) ⟨Nat.le_of_ble_eq_true rfl, Nat.le_of_ble_eq_true rfl⟩) hW hK (fx_recv hK (cwf_P (o := 0) hW (by decide)) rfl) rfl hl.1 rfl (Nat.le_of_ble_eq_true rfl) dX10_pressStop_38 ⟨Nat.le_of_ble_eq_true rfl, Nat.le_of_ble_eq_true rfl⟩ hS (fun _ h => h) (fun u2 H locs e2 hW hS => ?_)
      have e2 : fX10_dropEntry n x = u2 := e2
      try rw [e2] at hf_33
      refine lv_goto (tgt := 46) hx hb dX10_pressStop_41 (by decide) ?_
      exact J46 _ _ _ u2 hW hS (lv_sub hl [1] rfl) hf_33
  · have hf_6 := hf.trans (if_pos c_6)
    refine lv_aload_n hx hb dX10_pressStop_9 rfl (lv_at hl 1 rfl) ?_
    refine gx_v (rest := []) ⟨hx, hb, hml, hown, hts⟩ (mX1_hold l E bb gd ch n hn x) (cwV 0 hts gX10_pressStop_X1_hold rfl rfl rfl (by decide +kernel) ⟨Nat.le_of_ble_eq_true rfl, Nat.le_of_ble_eq_true rfl⟩) hW hK (fx_recv hK (cwf_C (o := 0) hW hn (by decide)) rfl) rfl hl.1 rfl (Nat.le_of_ble_eq_true rfl) dX10_pressStop_10 ⟨Nat.le_of_ble_eq_true rfl, Nat.le_of_ble_eq_true rfl⟩ hS (fun _ h => h) (fun u3 H locs e3 hW hS => ?_)
    have e3 : fX1_hold x = u3 := e3
    try rw [e3] at hf_6
    refine lv_aload_n hx hb dX10_pressStop_13 rfl (lv_at hl 0 rfl) ?_
    refine lv_iconst (v := 4) hx hb dX10_pressStop_14 (by decide) ?_
    refine lv_aload_n hx hb dX10_pressStop_15 rfl (lv_at hl 1 rfl) ?_
    refine lv_aload_n hx hb dX10_pressStop_16 rfl (lv_at hl 1 rfl) ?_
    refine fx_get (ci := 1) (v := .ref (bb + 21 + 14 * n + 4)) hx hb hts i1 hown hK (cwf_C (o := 0) hW hn (by decide)) rfl 2 (by decide) kl163 rfl dX10_pressStop_17 ?_
    refine fx_get (ci := 7) (v := .int (u3.2.1 4 3)) hx hb hts i7 hown hK (cwf_C (o := 4) hW hn (by decide)) rfl 3 (by decide) kl175 rfl dX10_pressStop_20 ?_
    refine gx_v (rest := []) ⟨hx, hb, hml, hown, hts⟩ (mX10_note l E bb gd ch n hn u3 4 (u3.2.1 4 3)) (cwV 3 hts gX10_pressStop_X10_note rfl rfl rfl (by decide +kernel) ⟨Nat.le_of_ble_eq_true rfl, Nat.le_of_ble_eq_true rfl⟩) hW hK (fx_recv hK (cwf_P (o := 0) hW (by decide)) rfl) rfl hl.1 rfl (Nat.le_of_ble_eq_true rfl) dX10_pressStop_23 ⟨Nat.le_of_ble_eq_true rfl, Nat.le_of_ble_eq_true rfl⟩ hS (fun _ h => h) (fun u4 H locs e4 hW hS => ?_)
    have e4 : fX10_note n 4 (u3.2.1 4 3) u3 = u4 := e4
    try rw [e4] at hf_6
    refine lv_goto (tgt := 46) hx hb dX10_pressStop_26 (by decide) ?_
    exact J46 _ _ _ u4 hW hS (lv_sub hl [1] rfl) hf_6
theorem okX10_pressStop_J46 {n : Nat} {y : FS} (hn : n < 3) (hok : okF y) : okF (fX10_pressStop_J46 n y).1 := by unfold fX10_pressStop_J46; exact hok
theorem okX10_pressStop {n : Nat} {x : FS} (hn : n < 3) (hok : okF x) : okF (fX10_pressStop n x).1 := by unfold fX10_pressStop; exact (okF_ite1 (fun c_6 => (okX10_pressStop_J46 hn (okX10_note (okX1_hold hok)))) (fun c_6 => (okF_ite1 (fun c_33 => hok) (fun c_33 => (okX10_pressStop_J46 hn (okX10_dropEntry hn hok))))))

def fX10_pressOver (n : Nat) (x : FS) : FS × Int32 := if (x.2.1 0 6) = 5 then (((fX10_note n 2 ((fX1_goTo 4 x).2.1 1 5) (fX1_goTo 4 x)), (fX10_note n 2 ((fX1_goTo 4 x).2.1 1 5) (fX1_goTo 4 x)).2.1 0 6)) else ((x, -1))
set_option maxHeartbeats 4000000 in
set_option maxRecDepth 100000 in
theorem mX10_pressOver (l : Launch) (E : eE) (bb : Nat) (gd : Nat → Nat → Int32) (ch : Nat → Nat → Nat → Int32) (n : Nat) (hn : n < 3) (x : FS) : Met l yX10_pressOver wsX10_pressOver ({ frames := 2, cells := 0, slots := 0, locals := 51 }) (gPre E (cwf E bb gd ch n x) [.ref (bb + 0), .ref (bb + 21 + 14 * n + 0)]) (gQi E (cwf E bb gd ch n) (fX10_pressOver n x) (cA bb)) 0 0 (cA bb) := by
  refine Met.ofW (cc := cX10_pressOver) (maxL := 2) (ret := (some .int)) (by decide) rfl ?_
  intro p e s m args below meth c s₁ B hml hv
  obtain ⟨rfl, hW, hK⟩ := hv
  have hx := B.exec
  have hb := B.bytes
  have hr := B.returns
  have hts := atoms_spec (ws := wsX10_pressOver) B.pre
  have hown : s.vm.findClass RX10 = some m.cls := findClass_of_methodNamed B.named
  have hlocks := B.notSynchronized
  have i1 : ∀ w ∈ wsX10, w ∈ wsX10_pressOver := by decide +kernel
  have i3 : ∀ w ∈ wsX30, w ∈ wsX10_pressOver := by decide +kernel
  have kl106 := hts (.fieldLink RX10 106 "DosePump$Channel" "entry" "LDosePump$Entry;") (by decide +kernel)
  have kl141 := hts (.fieldLink RX10 141 "DosePump$Channel" "phase" "I") (by decide +kernel)
  have kl358 := hts (.fieldLink RX10 358 "DosePump$Entry" "amount" "I") (by decide +kernel)
  have hS : va_S (cA bb) s.heap s.heap [] := va_S.rf
  have hl := lv_entry ([.ref (bb + 0), .ref (bb + 21 + 14 * n + 0)]) (n := 2) (Nat.le_of_ble_eq_true rfl)
  rw [lg_entry_eq]
  generalize (lg_sl ([.ref (bb + 0), .ref (bb + 21 + 14 * n + 0)]) ++ List.replicate (2 - (lg_sl ([.ref (bb + 0), .ref (bb + 21 + 14 * n + 0)])).length) Slot.unset).toArray = ls at hl ⊢
  have hl : lv_has ls 2 [(0, .ref (bb + 0)), (1, .ref (bb + 21 + 14 * n + 0))] := hl
  have hf : fX10_pressOver n x = (if (x.2.1 0 6) = 5 then (((fX10_note n 2 ((fX1_goTo 4 x).2.1 1 5) (fX1_goTo 4 x)), (fX10_note n 2 ((fX1_goTo 4 x).2.1 1 5) (fX1_goTo 4 x)).2.1 0 6)) else ((x, -1))) := rfl
  refine lv_aload_n hx hb dX10_pressOver_0 rfl (lv_at hl 1 rfl) ?_
  refine fx_get (ci := 1) (v := .int (x.2.1 0 6)) hx hb hts i1 hown hK (cwf_C (o := 0) hW hn (by decide)) rfl 6 (by decide) kl141 rfl dX10_pressOver_1 ?_
  refine lv_iconst (v := 5) hx hb dX10_pressOver_4 (by decide) ?_
  refine lv_icmp_eq (tgt := 10) hx hb dX10_pressOver_5 (by decide) (fun c_5 => ?_) (fun c_5 => ?_)
  · have hf_5 := hf.trans (if_pos c_5)
    refine lv_aload_n hx hb dX10_pressOver_10 rfl (lv_at hl 1 rfl) ?_
    refine lv_iconst (v := 4) hx hb dX10_pressOver_11 (by decide) ?_
    refine gx_v (rest := []) ⟨hx, hb, hml, hown, hts⟩ (mX1_goTo l E bb gd ch n hn x 4) (cwV 1 hts gX10_pressOver_X1_goTo rfl rfl rfl (by decide +kernel) ⟨Nat.le_of_ble_eq_true rfl, Nat.le_of_ble_eq_true rfl⟩) hW hK (fx_recv hK (cwf_C (o := 0) hW hn (by decide)) rfl) rfl hl.1 rfl (Nat.le_of_ble_eq_true rfl) dX10_pressOver_12 ⟨Nat.le_of_ble_eq_true rfl, Nat.le_of_ble_eq_true rfl⟩ hS (fun _ h => h) (fun u1 H locs e1 hW hS => ?_)
    have e1 : fX1_goTo 4 x = u1 := e1
    try rw [e1] at hf_5
    refine lv_aload_n hx hb dX10_pressOver_15 rfl (lv_at hl 0 rfl) ?_
    refine lv_iconst (v := 2) hx hb dX10_pressOver_16 (by decide) ?_
    refine lv_aload_n hx hb dX10_pressOver_17 rfl (lv_at hl 1 rfl) ?_
    refine lv_aload_n hx hb dX10_pressOver_18 rfl (lv_at hl 1 rfl) ?_
    refine fx_get (ci := 1) (v := .ref (bb + 21 + 14 * n + 1)) hx hb hts i1 hown hK (cwf_C (o := 0) hW hn (by decide)) rfl 1 (by decide) kl106 rfl dX10_pressOver_19 ?_
    refine fx_get (ci := 3) (v := .int (u1.2.1 1 5)) hx hb hts i3 hown hK (cwf_C (o := 1) hW hn (by decide)) rfl 5 (by decide) kl358 rfl dX10_pressOver_22 ?_
    refine gx_v (rest := []) ⟨hx, hb, hml, hown, hts⟩ (mX10_note l E bb gd ch n hn u1 2 (u1.2.1 1 5)) (cwV 3 hts gX10_pressOver_X10_note rfl rfl rfl (by decide +kernel) ⟨Nat.le_of_ble_eq_true rfl, Nat.le_of_ble_eq_true rfl⟩) hW hK (fx_recv hK (cwf_P (o := 0) hW (by decide)) rfl) rfl hl.1 rfl (Nat.le_of_ble_eq_true rfl) dX10_pressOver_25 ⟨Nat.le_of_ble_eq_true rfl, Nat.le_of_ble_eq_true rfl⟩ hS (fun _ h => h) (fun u2 H locs e2 hW hS => ?_)
    have e2 : fX10_note n 2 (u1.2.1 1 5) u1 = u2 := e2
    try rw [e2] at hf_5
    refine lv_aload_n hx hb dX10_pressOver_28 rfl (lv_at hl 1 rfl) ?_
    refine fx_get (ci := 1) (v := .int (u2.2.1 0 6)) hx hb hts i1 hown hK (cwf_C (o := 0) hW hn (by decide)) rfl 6 (by decide) kl141 rfl dX10_pressOver_29 ?_
    exact gx_iret hx hb hr rfl hlocks hK hf_5 hW hS dX10_pressOver_32
  · have hf_5 := hf.trans (if_neg c_5)
    refine lv_iconst (v := -1) hx hb dX10_pressOver_8 (by decide) ?_
    exact gx_iret hx hb hr rfl hlocks hK hf_5 hW hS dX10_pressOver_9
theorem okX10_pressOver {n : Nat} {x : FS} (hok : okF x) : okF (fX10_pressOver n x).1 := by unfold fX10_pressOver; exact (okF_ite1 (fun c_5 => (okX10_note (okX1_goTo hok))) (fun c_5 => hok))

def fX10_pressBolus (gd : Nat → Nat → Int32) (n : Nat) (x : FS) : FS × Int32 := if (x.2.1 0 6) = 7 then (if (fX0_mayBegin gd (x.2.1 4 0) (x.1 0 3) x) = 0 then (((fX10_note n 6 0 x), -1)) else (((fX10_note n 5 (dRow gd (x.2.1 4 0).toNatClampNeg 9) (fX0_begin gd (x.2.1 4 0) (x.1 0 3) x)), (fX10_note n 5 (dRow gd (x.2.1 4 0).toNatClampNeg 9) (fX0_begin gd (x.2.1 4 0) (x.1 0 3) x)).2.1 0 6))) else ((x, -1))
set_option maxHeartbeats 4000000 in
set_option maxRecDepth 100000 in
theorem mX10_pressBolus (l : Launch) (E : eE) (bb : Nat) (gd : Nat → Nat → Int32) (ch : Nat → Nat → Nat → Int32) (n : Nat) (hn : n < 3) (x : FS) (hok : okF x) : Met l yX10_pressBolus wsX10_pressBolus ({ frames := 2, cells := 0, slots := 0, locals := 51 }) (gPre E (cwf E bb gd ch n x) [.ref (bb + 0), .ref (bb + 21 + 14 * n + 0)]) (gQi E (cwf E bb gd ch n) (fX10_pressBolus gd n x) (cA bb)) 0 0 (cA bb) := by
  refine Met.ofW (cc := cX10_pressBolus) (maxL := 3) (ret := (some .int)) (by decide) rfl ?_
  intro p e s m args below meth c s₁ B hml hv
  obtain ⟨rfl, hW, hK⟩ := hv
  have hx := B.exec
  have hb := B.bytes
  have hr := B.returns
  have hts := atoms_spec (ws := wsX10_pressBolus) B.pre
  have hown : s.vm.findClass RX10 = some m.cls := findClass_of_methodNamed B.named
  have hlocks := B.notSynchronized
  have i1 : ∀ w ∈ wsX10, w ∈ wsX10_pressBolus := by decide +kernel
  have i2 : ∀ w ∈ wsX20, w ∈ wsX10_pressBolus := by decide +kernel
  have i7 : ∀ w ∈ wsX70, w ∈ wsX10_pressBolus := by decide +kernel
  have i10 : ∀ w ∈ wsX100, w ∈ wsX10_pressBolus := by decide +kernel
  have kl141 := hts (.fieldLink RX10 141 "DosePump$Channel" "phase" "I") (by decide +kernel)
  have kl148 := hts (.fieldLink RX10 148 "DosePump" "time" "I") (by decide +kernel)
  have kl163 := hts (.fieldLink RX10 163 "DosePump$Channel" "program" "LDosePump$Program;") (by decide +kernel)
  have kl181 := hts (.fieldLink RX10 181 "DosePump$Channel" "boluses" "LDosePump$Boluses;") (by decide +kernel)
  have kl216 := hts (.fieldLink RX10 216 "DosePump$Program" "drug" "LDosePump$Drug;") (by decide +kernel)
  have kl391 := hts (.fieldLink RX10 391 "DosePump$Drug" "bolus" "I") (by decide +kernel)
  have hS : va_S (cA bb) s.heap s.heap [] := va_S.rf
  have hl := lv_entry ([.ref (bb + 0), .ref (bb + 21 + 14 * n + 0)]) (n := 3) (Nat.le_of_ble_eq_true rfl)
  rw [lg_entry_eq]
  generalize (lg_sl ([.ref (bb + 0), .ref (bb + 21 + 14 * n + 0)]) ++ List.replicate (3 - (lg_sl ([.ref (bb + 0), .ref (bb + 21 + 14 * n + 0)])).length) Slot.unset).toArray = ls at hl ⊢
  have hl : lv_has ls 3 [(0, .ref (bb + 0)), (1, .ref (bb + 21 + 14 * n + 0))] := hl
  have hf : fX10_pressBolus gd n x = (if (x.2.1 0 6) = 7 then (if (fX0_mayBegin gd (x.2.1 4 0) (x.1 0 3) x) = 0 then (((fX10_note n 6 0 x), -1)) else (((fX10_note n 5 (dRow gd (x.2.1 4 0).toNatClampNeg 9) (fX0_begin gd (x.2.1 4 0) (x.1 0 3) x)), (fX10_note n 5 (dRow gd (x.2.1 4 0).toNatClampNeg 9) (fX0_begin gd (x.2.1 4 0) (x.1 0 3) x)).2.1 0 6))) else ((x, -1))) := rfl
  refine lv_aload_n hx hb dX10_pressBolus_0 rfl (lv_at hl 1 rfl) ?_
  refine fx_get (ci := 1) (v := .int (x.2.1 0 6)) hx hb hts i1 hown hK (cwf_C (o := 0) hW hn (by decide)) rfl 6 (by decide) kl141 rfl dX10_pressBolus_1 ?_
  refine lv_bipush (v := 7) hx hb dX10_pressBolus_4 (by decide) ?_
  refine lv_icmp_eq (tgt := 11) hx hb dX10_pressBolus_6 (by decide) (fun c_6 => ?_) (fun c_6 => ?_)
  · have hf_6 := hf.trans (if_pos c_6)
    refine lv_aload_n hx hb dX10_pressBolus_11 rfl (lv_at hl 1 rfl) ?_
    refine fx_get (ci := 1) (v := .ref (bb + 21 + 14 * n + 4)) hx hb hts i1 hown hK (cwf_C (o := 0) hW hn (by decide)) rfl 2 (by decide) kl163 rfl dX10_pressBolus_12 ?_
    refine fx_get (ci := 7) (v := .ref (dAd bb (x.2.1 4 0).toNatClampNeg)) hx hb hts i7 hown hK (cwf_C (o := 4) hW hn (by decide)) rfl 0 (by decide) kl216 rfl dX10_pressBolus_15 ?_
    refine lv_astore_n (lv' := [(2, .ref (dAd bb (x.2.1 4 0).toNatClampNeg)), (0, .ref (bb + 0)), (1, .ref (bb + 21 + 14 * n + 0))]) hx hb dX10_pressBolus_18 rfl hl (by decide) rfl (fun ls hl => ?_)
    refine lv_aload_n hx hb dX10_pressBolus_19 rfl (lv_at hl 2 rfl) ?_
    refine fx_get (ci := 1) (v := .ref (bb + 21 + 14 * n + 6)) hx hb hts i1 hown hK (cwf_C (o := 0) hW hn (by decide)) rfl 3 (by decide) kl181 rfl dX10_pressBolus_20 ?_
    refine lv_aload_n hx hb dX10_pressBolus_23 rfl (lv_at hl 0 rfl) ?_
    refine lv_aload_n hx hb dX10_pressBolus_24 rfl (lv_at hl 1 rfl) ?_
    refine fx_get (ci := 10) (v := .int (x.1 0 3)) hx hb hts i10 hown hK (cwf_P (o := 0) hW (by decide)) rfl 3 (by decide) kl148 rfl dX10_pressBolus_25 ?_
    refine gx_i (rest := []) ⟨hx, hb, hml, hown, hts⟩ (mX0_mayBegin l E bb gd ch n hn x (x.2.1 4 0) (x.1 0 3) hok.2.2.2.2.2.2) (cwV 2 hts gX10_pressBolus_X0_mayBegin rfl rfl rfl (by decide +kernel) ⟨Nat.le_of_ble_eq_true rfl, Nat.le_of_ble_eq_true rfl⟩) hW hK (fx_recv hK (cwf_C (o := 6) hW hn (by decide)) rfl) rfl hl.1 rfl (Nat.le_of_ble_eq_true rfl) dX10_pressBolus_28 ⟨Nat.le_of_ble_eq_true rfl, Nat.le_of_ble_eq_true rfl⟩ hS (fun _ h => h) (fun _ r1 H locs _ e1 hW hS => ?_)
    have e1 : fX0_mayBegin gd (x.2.1 4 0) (x.1 0 3) x = r1 := e1
    try rw [e1] at hf_6
    refine lv_if_ne (tgt := 44) hx hb dX10_pressBolus_31 (by decide) (fun c_31 => ?_) (fun c_31 => ?_)
    · have hf_31 := hf_6.trans (if_neg c_31)
      refine lv_aload_n hx hb dX10_pressBolus_44 rfl (lv_at hl 2 rfl) ?_
      refine fx_get (ci := 1) (v := .ref (bb + 21 + 14 * n + 6)) hx hb hts i1 hown hK (cwf_C (o := 0) hW hn (by decide)) rfl 3 (by decide) kl181 rfl dX10_pressBolus_45 ?_
      refine lv_aload_n hx hb dX10_pressBolus_48 rfl (lv_at hl 0 rfl) ?_
      refine lv_aload_n hx hb dX10_pressBolus_49 rfl (lv_at hl 1 rfl) ?_
      refine fx_get (ci := 10) (v := .int (x.1 0 3)) hx hb hts i10 hown hK (cwf_P (o := 0) hW (by decide)) rfl 3 (by decide) kl148 rfl dX10_pressBolus_50 ?_
      refine gx_v (rest := []) ⟨hx, hb, hml, hown, hts⟩ (mX0_begin l E bb gd ch n hn x (x.2.1 4 0) (x.1 0 3) hok.2.2.2.2.2.2 hok) (cwV 2 hts gX10_pressBolus_X0_begin rfl rfl rfl (by decide +kernel) ⟨Nat.le_of_ble_eq_true rfl, Nat.le_of_ble_eq_true rfl⟩) hW hK (fx_recv hK (cwf_C (o := 6) hW hn (by decide)) rfl) rfl hl.1 rfl (Nat.le_of_ble_eq_true rfl) dX10_pressBolus_53 ⟨Nat.le_of_ble_eq_true rfl, Nat.le_of_ble_eq_true rfl⟩ hS (fun _ h => h) (fun u2 H locs e2 hW hS => ?_)
      have e2 : fX0_begin gd (x.2.1 4 0) (x.1 0 3) x = u2 := e2
      try rw [e2] at hf_31
      have hk2 : okF u2 := e2 ▸ (okX0_begin hok)
      refine lv_aload_n hx hb dX10_pressBolus_56 rfl (lv_at hl 1 rfl) ?_
      refine lv_iconst (v := 5) hx hb dX10_pressBolus_57 (by decide) ?_
      refine lv_aload_n hx hb dX10_pressBolus_58 rfl (lv_at hl 2 rfl) ?_
      refine lv_aload_n hx hb dX10_pressBolus_59 rfl (lv_at hl 0 rfl) ?_
      refine fx_get (ci := 2) (v := .int (dRow gd (x.2.1 4 0).toNatClampNeg 9)) hx hb hts i2 hown hK (cwf_D hW hok.2.2.2.2.2.2) rfl 9 (by decide) kl391 rfl dX10_pressBolus_60 ?_
      refine gx_v (rest := []) ⟨hx, hb, hml, hown, hts⟩ (mX10_note l E bb gd ch n hn u2 5 (dRow gd (x.2.1 4 0).toNatClampNeg 9)) (cwV 3 hts gX10_pressBolus_X10_note rfl rfl rfl (by decide +kernel) ⟨Nat.le_of_ble_eq_true rfl, Nat.le_of_ble_eq_true rfl⟩) hW hK (fx_recv hK (cwf_P (o := 0) hW (by decide)) rfl) rfl hl.1 rfl (Nat.le_of_ble_eq_true rfl) dX10_pressBolus_63 ⟨Nat.le_of_ble_eq_true rfl, Nat.le_of_ble_eq_true rfl⟩ hS (fun _ h => h) (fun u3 H locs e3 hW hS => ?_)
      have e3 : fX10_note n 5 (dRow gd (x.2.1 4 0).toNatClampNeg 9) u2 = u3 := e3
      try rw [e3] at hf_31
      have hk3 : okF u3 := e3 ▸ (okX10_note hk2)
      refine lv_aload_n hx hb dX10_pressBolus_66 rfl (lv_at hl 2 rfl) ?_
      refine fx_get (ci := 1) (v := .int (u3.2.1 0 6)) hx hb hts i1 hown hK (cwf_C (o := 0) hW hn (by decide)) rfl 6 (by decide) kl141 rfl dX10_pressBolus_67 ?_
      exact gx_iret hx hb hr rfl hlocks hK hf_31 hW hS dX10_pressBolus_70
    · have hf_31 := hf_6.trans (if_pos c_31)
      refine lv_aload_n hx hb dX10_pressBolus_34 rfl (lv_at hl 1 rfl) ?_
      refine lv_bipush (v := 6) hx hb dX10_pressBolus_35 (by decide) ?_
      refine lv_aload_n hx hb dX10_pressBolus_37 rfl (lv_at hl 2 rfl) ?_
      refine lv_iconst (v := 0) hx hb dX10_pressBolus_38 (by decide) ?_
      refine gx_v (rest := []) ⟨hx, hb, hml, hown, hts⟩ (mX10_note l E bb gd ch n hn x 6 0) (cwV 3 hts gX10_pressBolus_X10_note rfl rfl rfl (by decide +kernel) ⟨Nat.le_of_ble_eq_true rfl, Nat.le_of_ble_eq_true rfl⟩) hW hK (fx_recv hK (cwf_P (o := 0) hW (by decide)) rfl) rfl hl.1 rfl (Nat.le_of_ble_eq_true rfl) dX10_pressBolus_39 ⟨Nat.le_of_ble_eq_true rfl, Nat.le_of_ble_eq_true rfl⟩ hS (fun _ h => h) (fun u4 H locs e4 hW hS => ?_)
      have e4 : fX10_note n 6 0 x = u4 := e4
      try rw [e4] at hf_31
      have hk4 : okF u4 := e4 ▸ (okX10_note hok)
      refine lv_iconst (v := -1) hx hb dX10_pressBolus_42 (by decide) ?_
      exact gx_iret hx hb hr rfl hlocks hK hf_31 hW hS dX10_pressBolus_43
  · have hf_6 := hf.trans (if_neg c_6)
    refine lv_iconst (v := -1) hx hb dX10_pressBolus_9 (by decide) ?_
    exact gx_iret hx hb hr rfl hlocks hK hf_6 hW hS dX10_pressBolus_10
theorem okX10_pressBolus {gd : Nat → Nat → Int32} {n : Nat} {x : FS} (hok : okF x) : okF (fX10_pressBolus gd n x).1 := by unfold fX10_pressBolus; exact (okF_ite1 (fun c_6 => (okF_ite1 (fun c_31 => (okX10_note hok)) (fun c_31 => (okX10_note (okX0_begin hok))))) (fun c_6 => hok))

def fX10_pressRelay (x : FS) : FS × Int32 := if (fX1_isAtRest x) = 0 then ((x, -1)) else (if (x.2.1 0 9) = 0 then (((sC x 0 9 (1)), x.2.1 0 6)) else (((sC x 0 9 (0)), x.2.1 0 6)))
set_option maxHeartbeats 4000000 in
set_option maxRecDepth 100000 in
theorem mX10_pressRelay (l : Launch) (E : eE) (bb : Nat) (gd : Nat → Nat → Int32) (ch : Nat → Nat → Nat → Int32) (n : Nat) (hn : n < 3) (x : FS) : Met l yX10_pressRelay wsX10_pressRelay ({ frames := 1, cells := 0, slots := 0, locals := 20 }) (gPre E (cwf E bb gd ch n x) [.ref (bb + 0), .ref (bb + 21 + 14 * n + 0)]) (gQi E (cwf E bb gd ch n) (fX10_pressRelay x) (cA bb)) 0 0 (cA bb) := by
  refine Met.ofW (cc := cX10_pressRelay) (maxL := 2) (ret := (some .int)) (by decide) rfl ?_
  intro p e s m args below meth c s₁ B hml hv
  obtain ⟨rfl, hW, hK⟩ := hv
  have hx := B.exec
  have hb := B.bytes
  have hr := B.returns
  have hts := atoms_spec (ws := wsX10_pressRelay) B.pre
  have hown : s.vm.findClass RX10 = some m.cls := findClass_of_methodNamed B.named
  have hlocks := B.notSynchronized
  have i1 : ∀ w ∈ wsX10, w ∈ wsX10_pressRelay := by decide +kernel
  have kl141 := hts (.fieldLink RX10 141 "DosePump$Channel" "phase" "I") (by decide +kernel)
  have kl210 := hts (.fieldLink RX10 210 "DosePump$Channel" "waits" "Z") (by decide +kernel)
  have hS : va_S (cA bb) s.heap s.heap [] := va_S.rf
  have hl := lv_entry ([.ref (bb + 0), .ref (bb + 21 + 14 * n + 0)]) (n := 2) (Nat.le_of_ble_eq_true rfl)
  rw [lg_entry_eq]
  generalize (lg_sl ([.ref (bb + 0), .ref (bb + 21 + 14 * n + 0)]) ++ List.replicate (2 - (lg_sl ([.ref (bb + 0), .ref (bb + 21 + 14 * n + 0)])).length) Slot.unset).toArray = ls at hl ⊢
  have hl : lv_has ls 2 [(0, .ref (bb + 0)), (1, .ref (bb + 21 + 14 * n + 0))] := hl
  have hf : fX10_pressRelay x = (if (fX1_isAtRest x) = 0 then ((x, -1)) else (if (x.2.1 0 9) = 0 then (((sC x 0 9 (1)), x.2.1 0 6)) else (((sC x 0 9 (0)), x.2.1 0 6)))) := rfl
  refine lv_aload_n hx hb dX10_pressRelay_0 rfl (lv_at hl 1 rfl) ?_
  refine gx_i (rest := []) ⟨hx, hb, hml, hown, hts⟩ (mX1_isAtRest l E bb gd ch n hn x) (cwV 0 hts gX10_pressRelay_X1_isAtRest rfl rfl rfl (by decide +kernel) ⟨Nat.le_of_ble_eq_true rfl, Nat.le_of_ble_eq_true rfl⟩) hW hK (fx_recv hK (cwf_C (o := 0) hW hn (by decide)) rfl) rfl hl.1 rfl (Nat.le_of_ble_eq_true rfl) dX10_pressRelay_1 ⟨Nat.le_of_ble_eq_true rfl, Nat.le_of_ble_eq_true rfl⟩ hS (fun _ h => h) (fun _ r1 H locs _ e1 hW hS => ?_)
  have e1 : fX1_isAtRest x = r1 := e1
  try rw [e1] at hf
  refine lv_if_ne (tgt := 9) hx hb dX10_pressRelay_4 (by decide) (fun c_4 => ?_) (fun c_4 => ?_)
  · have hf_4 := hf.trans (if_neg c_4)
    refine lv_aload_n hx hb dX10_pressRelay_9 rfl (lv_at hl 1 rfl) ?_
    refine lv_aload_n hx hb dX10_pressRelay_10 rfl (lv_at hl 1 rfl) ?_
    refine fx_get (ci := 1) (v := .int (x.2.1 0 9)) hx hb hts i1 hown hK (cwf_C (o := 0) hW hn (by decide)) rfl 9 (by decide) kl210 rfl dX10_pressRelay_11 ?_
    refine lv_if_ne (tgt := 21) hx hb dX10_pressRelay_14 (by decide) (fun c_14 => ?_) (fun c_14 => ?_)
    · have hf_14 := hf_4.trans (if_neg c_14)
      refine lv_iconst (v := 0) hx hb dX10_pressRelay_21 (by decide) ?_
      refine fx_put (ci := 1) (v := .int (0)) hx hb hts i1 tyX1_ok nmX1 hown hK (cwf_C (o := 0) hW hn (by decide)) (cA_C hn (by decide)) hS rfl 9 (by decide) kl210 rfl (by decide) (by decide) (Nat.le_of_ble_eq_true rfl) dX10_pressRelay_22 (fun H locs hat hne hS => ?_)
      have hW : cwf E bb gd ch n (sC x 0 9 (0)) H := cwf_sC (o := 0) (k := 9) (v := 0) hW hn (by decide) hat hne
      refine lv_aload_n hx hb dX10_pressRelay_25 rfl (lv_at hl 1 rfl) ?_
      refine fx_get (ci := 1) (v := .int (x.2.1 0 6)) hx hb hts i1 hown hK (cwf_C (o := 0) hW hn (by decide)) rfl 6 (by decide) kl141 rfl dX10_pressRelay_26 ?_
      exact gx_iret hx hb hr rfl hlocks hK hf_14 hW hS dX10_pressRelay_29
    · have hf_14 := hf_4.trans (if_pos c_14)
      refine lv_iconst (v := 1) hx hb dX10_pressRelay_17 (by decide) ?_
      refine lv_goto (tgt := 22) hx hb dX10_pressRelay_18 (by decide) ?_
      refine fx_put (ci := 1) (v := .int (1)) hx hb hts i1 tyX1_ok nmX1 hown hK (cwf_C (o := 0) hW hn (by decide)) (cA_C hn (by decide)) hS rfl 9 (by decide) kl210 rfl (by decide) (by decide) (Nat.le_of_ble_eq_true rfl) dX10_pressRelay_22 (fun H locs hat hne hS => ?_)
      have hW : cwf E bb gd ch n (sC x 0 9 (1)) H := cwf_sC (o := 0) (k := 9) (v := 1) hW hn (by decide) hat hne
      refine lv_aload_n hx hb dX10_pressRelay_25 rfl (lv_at hl 1 rfl) ?_
      refine fx_get (ci := 1) (v := .int (x.2.1 0 6)) hx hb hts i1 hown hK (cwf_C (o := 0) hW hn (by decide)) rfl 6 (by decide) kl141 rfl dX10_pressRelay_26 ?_
      exact gx_iret hx hb hr rfl hlocks hK hf_14 hW hS dX10_pressRelay_29
  · have hf_4 := hf.trans (if_pos c_4)
    refine lv_iconst (v := -1) hx hb dX10_pressRelay_7 (by decide) ?_
    exact gx_iret hx hb hr rfl hlocks hK hf_4 hW hS dX10_pressRelay_8
theorem okX10_pressRelay {x : FS} (hok : okF x) : okF (fX10_pressRelay x).1 := by unfold fX10_pressRelay; exact (okF_ite1 (fun c_4 => hok) (fun c_4 => (okF_ite1 (fun c_14 => (okF_sC rfl hok)) (fun c_14 => (okF_sC rfl hok)))))

def fX10_press_J155 (gd : Nat → Nat → Int32) (n : Nat) (p1 : Int32) (y : FS) (w0 : Int32) : FS × Int32 := ((sP y 0 6 (w0)), y.2.1 0 6)
def fX10_press (gd : Nat → Nat → Int32) (n : Nat) (p1 : Int32) (x : FS) : FS × Int32 := if p1 = 10 then (((fX10_typePoint gd x).1, ((fX10_typePoint gd x).2))) else if p1 = 11 then (((fX10_pressClear n x).1, ((fX10_pressClear n x).2))) else if p1 = 12 then (((fX10_pressEnter gd n x).1, ((fX10_pressEnter gd n x).2))) else if p1 = 13 then (((fX10_pressBegin x).1, ((fX10_pressBegin x).2))) else if p1 = 14 then (((fX10_pressRun n x).1, ((fX10_pressRun n x).2))) else if p1 = 15 then (((fX10_pressStop n x).1, ((fX10_pressStop n x).2))) else if p1 = 16 then (((fX10_pressAck gd n x).1, ((fX10_pressAck gd n x).2))) else if p1 = 17 then (((fX10_pressOver n x).1, ((fX10_pressOver n x).2))) else if p1 = 18 then (((fX10_pressBolus gd n x).1, ((fX10_pressBolus gd n x).2))) else if p1 = 19 then (((sP x 0 7 ((x.1 0 3) + 120)), x.2.1 0 6)) else if p1 = 20 then (if (3 : Int32) ≤ ((x.1 0 6) + 1) then (fX10_press_J155 gd n p1 x 0) else (fX10_press_J155 gd n p1 x ((x.1 0 6) + 1))) else if p1 = 21 then (((fX10_pressRelay x).1, ((fX10_pressRelay x).2))) else (((fX10_typeFigure gd p1 x).1, ((fX10_typeFigure gd p1 x).2)))
set_option maxHeartbeats 4000000 in
set_option maxRecDepth 100000 in
theorem mX10_press (l : Launch) (E : eE) (bb : Nat) (gd : Nat → Nat → Int32) (ch : Nat → Nat → Nat → Int32) (n : Nat) (hn : n < 3) (x : FS) (p1 : Int32) (hok : okF x) : Met l yX10_press wsX10_press ({ frames := 4, cells := 0, slots := 0, locals := 97 }) (gPre E (cwf E bb gd ch n x) [.ref (bb + 0), .ref (bb + 21 + 14 * n + 0), .int (p1)]) (gQi E (cwf E bb gd ch n) (fX10_press gd n p1 x) (cA bb)) 0 0 (cA bb) := by
  refine Met.ofW (cc := cX10_press) (maxL := 3) (ret := (some .int)) (by decide) rfl ?_
  intro p e s m args below meth c s₁ B hml hv
  obtain ⟨rfl, hW, hK⟩ := hv
  have hx := B.exec
  have hb := B.bytes
  have hr := B.returns
  have hts := atoms_spec (ws := wsX10_press) B.pre
  have hown : s.vm.findClass RX10 = some m.cls := findClass_of_methodNamed B.named
  have hlocks := B.notSynchronized
  have i1 : ∀ w ∈ wsX10, w ∈ wsX10_press := by decide +kernel
  have i10 : ∀ w ∈ wsX100, w ∈ wsX10_press := by decide +kernel
  have kl95 := hts (.fieldLink RX10 95 "DosePump" "chosen" "I") (by decide +kernel)
  have kl141 := hts (.fieldLink RX10 141 "DosePump$Channel" "phase" "I") (by decide +kernel)
  have kl148 := hts (.fieldLink RX10 148 "DosePump" "time" "I") (by decide +kernel)
  have kl307 := hts (.fieldLink RX10 307 "DosePump" "silentUntil" "I") (by decide +kernel)
  have hS : va_S (cA bb) s.heap s.heap [] := va_S.rf
  have hl := lv_entry ([.ref (bb + 0), .ref (bb + 21 + 14 * n + 0), .int (p1)]) (n := 3) (Nat.le_of_ble_eq_true rfl)
  rw [lg_entry_eq]
  generalize (lg_sl ([.ref (bb + 0), .ref (bb + 21 + 14 * n + 0), .int (p1)]) ++ List.replicate (3 - (lg_sl ([.ref (bb + 0), .ref (bb + 21 + 14 * n + 0), .int (p1)])).length) Slot.unset).toArray = ls at hl ⊢
  have hl : lv_has ls 3 [(0, .ref (bb + 0)), (1, .ref (bb + 21 + 14 * n + 0)), (2, .int (p1))] := hl
  have J155 : ∀ (H : Heap) (locs : List Loc) (ls : Array Slot) (y : FS) (w0 : Int32), cwf E bb gd ch n y H → va_S (cA bb) s.heap H locs → lv_has ls 3 [(1, .ref (bb + 21 + 14 * n + 0))] → okF y → fX10_press gd n p1 x = fX10_press_J155 gd n p1 y w0 → W p l e (headSpec wsX10_press { frames := 4, cells := 0, slots := 0, locals := 97 }).room s m ([.ref (bb + 0), .ref (bb + 21 + 14 * n + 0), .int (p1)] : List Value).toArray below meth c H locs 0 0 (MQ below (gQi E (cwf E bb gd ch n) (fX10_press gd n p1 x) (cA bb)) ([.ref (bb + 0), .ref (bb + 21 + 14 * n + 0), .int (p1)] : List Value).toArray s 0 0 (cA bb)) (F0 m 155 ls [.int (w0), .ref (bb + 0)]) := by
    intro H locs ls y w0 hW hS hl hok hf
    replace hf : fX10_press gd n p1 x = (((sP y 0 6 (w0)), y.2.1 0 6)) := hf
    refine fx_put (ci := 10) (v := .int (w0)) hx hb hts i10 tyX10_ok nmX10 hown hK (cwf_P (o := 0) hW (by decide)) (cA_P (by decide)) hS rfl 6 (by decide) kl95 rfl rfl rfl (Nat.le_of_ble_eq_true rfl) dX10_press_155 (fun H locs hat hne hS => ?_)
    have hW : cwf E bb gd ch n (sP y 0 6 (w0)) H := cwf_sP (o := 0) (k := 6) (v := w0) hW (by decide) hat hne
    refine lv_aload_n hx hb dX10_press_158 rfl (lv_at hl 0 rfl) ?_
    refine fx_get (ci := 1) (v := .int (y.2.1 0 6)) hx hb hts i1 hown hK (cwf_C (o := 0) hW hn (by decide)) rfl 6 (by decide) kl141 rfl dX10_press_159 ?_
    exact gx_iret hx hb hr rfl hlocks hK hf hW hS dX10_press_162
  have hf : fX10_press gd n p1 x = (if p1 = 10 then (((fX10_typePoint gd x).1, ((fX10_typePoint gd x).2))) else if p1 = 11 then (((fX10_pressClear n x).1, ((fX10_pressClear n x).2))) else if p1 = 12 then (((fX10_pressEnter gd n x).1, ((fX10_pressEnter gd n x).2))) else if p1 = 13 then (((fX10_pressBegin x).1, ((fX10_pressBegin x).2))) else if p1 = 14 then (((fX10_pressRun n x).1, ((fX10_pressRun n x).2))) else if p1 = 15 then (((fX10_pressStop n x).1, ((fX10_pressStop n x).2))) else if p1 = 16 then (((fX10_pressAck gd n x).1, ((fX10_pressAck gd n x).2))) else if p1 = 17 then (((fX10_pressOver n x).1, ((fX10_pressOver n x).2))) else if p1 = 18 then (((fX10_pressBolus gd n x).1, ((fX10_pressBolus gd n x).2))) else if p1 = 19 then (((sP x 0 7 ((x.1 0 3) + 120)), x.2.1 0 6)) else if p1 = 20 then (if (3 : Int32) ≤ ((x.1 0 6) + 1) then (fX10_press_J155 gd n p1 x 0) else (fX10_press_J155 gd n p1 x ((x.1 0 6) + 1))) else if p1 = 21 then (((fX10_pressRelay x).1, ((fX10_pressRelay x).2))) else (((fX10_typeFigure gd p1 x).1, ((fX10_typeFigure gd p1 x).2)))) := rfl
  refine lv_iload_n hx hb dX10_press_0 rfl (lv_at hl 2 rfl) ?_
  by_cases c_1_10 : p1 = 10
  · have hf_1_10 := hf.trans (if_pos c_1_10)
    refine gx_tab (tgt := 64) hx hb c_1_10 dX10_press_1 (by decide) (by decide) rfl (by decide) ?_
    refine lv_aload_n hx hb dX10_press_64 rfl (lv_at hl 0 rfl) ?_
    refine lv_aload_n hx hb dX10_press_65 rfl (lv_at hl 1 rfl) ?_
    refine gx_i (rest := []) ⟨hx, hb, hml, hown, hts⟩ (mX10_typePoint l E bb gd ch n hn x hok) (cwV 1 hts gX10_press_X10_typePoint rfl rfl rfl (by decide +kernel) ⟨Nat.le_of_ble_eq_true rfl, Nat.le_of_ble_eq_true rfl⟩) hW hK (fx_recv hK (cwf_P (o := 0) hW (by decide)) rfl) rfl hl.1 rfl (Nat.le_of_ble_eq_true rfl) dX10_press_66 ⟨Nat.le_of_ble_eq_true rfl, Nat.le_of_ble_eq_true rfl⟩ hS (fun _ h => h) (fun u1 r1 H locs e1 e1r hW hS => ?_)
    have e1 : (fX10_typePoint gd x).1 = u1 := e1
    have e1r : (fX10_typePoint gd x).2 = r1 := e1r
    try rw [e1] at hf_1_10
    try rw [e1r] at hf_1_10
    have hk1 : okF u1 := e1 ▸ (okX10_typePoint hok)
    exact gx_iret hx hb hr rfl hlocks hK hf_1_10 hW hS dX10_press_69
  have hn_1_10 := hf.trans (if_neg c_1_10)
  by_cases c_1_11 : p1 = 11
  · have hf_1_11 := hn_1_10.trans (if_pos c_1_11)
    refine gx_tab (tgt := 70) hx hb c_1_11 dX10_press_1 (by decide) (by decide) rfl (by decide) ?_
    refine lv_aload_n hx hb dX10_press_70 rfl (lv_at hl 0 rfl) ?_
    refine lv_aload_n hx hb dX10_press_71 rfl (lv_at hl 1 rfl) ?_
    refine gx_i (rest := []) ⟨hx, hb, hml, hown, hts⟩ (mX10_pressClear l E bb gd ch n hn x) (cwV 1 hts gX10_press_X10_pressClear rfl rfl rfl (by decide +kernel) ⟨Nat.le_of_ble_eq_true rfl, Nat.le_of_ble_eq_true rfl⟩) hW hK (fx_recv hK (cwf_P (o := 0) hW (by decide)) rfl) rfl hl.1 rfl (Nat.le_of_ble_eq_true rfl) dX10_press_72 ⟨Nat.le_of_ble_eq_true rfl, Nat.le_of_ble_eq_true rfl⟩ hS (fun _ h => h) (fun u2 r2 H locs e2 e2r hW hS => ?_)
    have e2 : (fX10_pressClear n x).1 = u2 := e2
    have e2r : (fX10_pressClear n x).2 = r2 := e2r
    try rw [e2] at hf_1_11
    try rw [e2r] at hf_1_11
    have hk2 : okF u2 := e2 ▸ (okX10_pressClear hn hok)
    exact gx_iret hx hb hr rfl hlocks hK hf_1_11 hW hS dX10_press_75
  have hn_1_11 := hn_1_10.trans (if_neg c_1_11)
  by_cases c_1_12 : p1 = 12
  · have hf_1_12 := hn_1_11.trans (if_pos c_1_12)
    refine gx_tab (tgt := 76) hx hb c_1_12 dX10_press_1 (by decide) (by decide) rfl (by decide) ?_
    refine lv_aload_n hx hb dX10_press_76 rfl (lv_at hl 0 rfl) ?_
    refine lv_aload_n hx hb dX10_press_77 rfl (lv_at hl 1 rfl) ?_
    refine gx_i (rest := []) ⟨hx, hb, hml, hown, hts⟩ (mX10_pressEnter l E bb gd ch n hn x hok) (cwV 1 hts gX10_press_X10_pressEnter rfl rfl rfl (by decide +kernel) ⟨Nat.le_of_ble_eq_true rfl, Nat.le_of_ble_eq_true rfl⟩) hW hK (fx_recv hK (cwf_P (o := 0) hW (by decide)) rfl) rfl hl.1 rfl (Nat.le_of_ble_eq_true rfl) dX10_press_78 ⟨Nat.le_of_ble_eq_true rfl, Nat.le_of_ble_eq_true rfl⟩ hS (fun _ h => h) (fun u3 r3 H locs e3 e3r hW hS => ?_)
    have e3 : (fX10_pressEnter gd n x).1 = u3 := e3
    have e3r : (fX10_pressEnter gd n x).2 = r3 := e3r
    try rw [e3] at hf_1_12
    try rw [e3r] at hf_1_12
    have hk3 : okF u3 := e3 ▸ (okX10_pressEnter hn hok)
    exact gx_iret hx hb hr rfl hlocks hK hf_1_12 hW hS dX10_press_81
  have hn_1_12 := hn_1_11.trans (if_neg c_1_12)
  by_cases c_1_13 : p1 = 13
  · have hf_1_13 := hn_1_12.trans (if_pos c_1_13)
    refine gx_tab (tgt := 82) hx hb c_1_13 dX10_press_1 (by decide) (by decide) rfl (by decide) ?_
    refine lv_aload_n hx hb dX10_press_82 rfl (lv_at hl 0 rfl) ?_
    refine lv_aload_n hx hb dX10_press_83 rfl (lv_at hl 1 rfl) ?_
    refine gx_i (rest := []) ⟨hx, hb, hml, hown, hts⟩ (mX10_pressBegin l E bb gd ch n hn x) (cwV 1 hts gX10_press_X10_pressBegin rfl rfl rfl (by decide +kernel) ⟨Nat.le_of_ble_eq_true rfl, Nat.le_of_ble_eq_true rfl⟩) hW hK (fx_recv hK (cwf_P (o := 0) hW (by decide)) rfl) rfl hl.1 rfl (Nat.le_of_ble_eq_true rfl) dX10_press_84 ⟨Nat.le_of_ble_eq_true rfl, Nat.le_of_ble_eq_true rfl⟩ hS (fun _ h => h) (fun u4 r4 H locs e4 e4r hW hS => ?_)
    have e4 : (fX10_pressBegin x).1 = u4 := e4
    have e4r : (fX10_pressBegin x).2 = r4 := e4r
    try rw [e4] at hf_1_13
    try rw [e4r] at hf_1_13
    have hk4 : okF u4 := e4 ▸ (okX10_pressBegin hok)
    exact gx_iret hx hb hr rfl hlocks hK hf_1_13 hW hS dX10_press_87
  have hn_1_13 := hn_1_12.trans (if_neg c_1_13)
  by_cases c_1_14 : p1 = 14
  · have hf_1_14 := hn_1_13.trans (if_pos c_1_14)
    refine gx_tab (tgt := 88) hx hb c_1_14 dX10_press_1 (by decide) (by decide) rfl (by decide) ?_
    refine lv_aload_n hx hb dX10_press_88 rfl (lv_at hl 0 rfl) ?_
    refine lv_aload_n hx hb dX10_press_89 rfl (lv_at hl 1 rfl) ?_
    refine gx_i (rest := []) ⟨hx, hb, hml, hown, hts⟩ (mX10_pressRun l E bb gd ch n hn x) (cwV 1 hts gX10_press_X10_pressRun rfl rfl rfl (by decide +kernel) ⟨Nat.le_of_ble_eq_true rfl, Nat.le_of_ble_eq_true rfl⟩) hW hK (fx_recv hK (cwf_P (o := 0) hW (by decide)) rfl) rfl hl.1 rfl (Nat.le_of_ble_eq_true rfl) dX10_press_90 ⟨Nat.le_of_ble_eq_true rfl, Nat.le_of_ble_eq_true rfl⟩ hS (fun _ h => h) (fun u5 r5 H locs e5 e5r hW hS => ?_)
    have e5 : (fX10_pressRun n x).1 = u5 := e5
    have e5r : (fX10_pressRun n x).2 = r5 := e5r
    try rw [e5] at hf_1_14
    try rw [e5r] at hf_1_14
    have hk5 : okF u5 := e5 ▸ (okX10_pressRun hok)
    exact gx_iret hx hb hr rfl hlocks hK hf_1_14 hW hS dX10_press_93
  have hn_1_14 := hn_1_13.trans (if_neg c_1_14)
  by_cases c_1_15 : p1 = 15
  · have hf_1_15 := hn_1_14.trans (if_pos c_1_15)
    refine gx_tab (tgt := 94) hx hb c_1_15 dX10_press_1 (by decide) (by decide) rfl (by decide) ?_
    refine lv_aload_n hx hb dX10_press_94 rfl (lv_at hl 0 rfl) ?_
    refine lv_aload_n hx hb dX10_press_95 rfl (lv_at hl 1 rfl) ?_
    refine gx_i (rest := []) ⟨hx, hb, hml, hown, hts⟩ (mX10_pressStop l E bb gd ch n hn x) (cwV 1 hts gX10_press_X10_pressStop rfl rfl rfl (by decide +kernel) ⟨Nat.le_of_ble_eq_true rfl, Nat.le_of_ble_eq_true rfl⟩) hW hK (fx_recv hK (cwf_P (o := 0) hW (by decide)) rfl) rfl hl.1 rfl (Nat.le_of_ble_eq_true rfl) dX10_press_96 ⟨Nat.le_of_ble_eq_true rfl, Nat.le_of_ble_eq_true rfl⟩ hS (fun _ h => h) (fun u6 r6 H locs e6 e6r hW hS => ?_)
    have e6 : (fX10_pressStop n x).1 = u6 := e6
    have e6r : (fX10_pressStop n x).2 = r6 := e6r
    try rw [e6] at hf_1_15
    try rw [e6r] at hf_1_15
    have hk6 : okF u6 := e6 ▸ (okX10_pressStop hn hok)
    exact gx_iret hx hb hr rfl hlocks hK hf_1_15 hW hS dX10_press_99
  have hn_1_15 := hn_1_14.trans (if_neg c_1_15)
  by_cases c_1_16 : p1 = 16
  · have hf_1_16 := hn_1_15.trans (if_pos c_1_16)
    refine gx_tab (tgt := 100) hx hb c_1_16 dX10_press_1 (by decide) (by decide) rfl (by decide) ?_
    refine lv_aload_n hx hb dX10_press_100 rfl (lv_at hl 0 rfl) ?_
    refine lv_aload_n hx hb dX10_press_101 rfl (lv_at hl 1 rfl) ?_
    refine gx_i (rest := []) ⟨hx, hb, hml, hown, hts⟩ (mX10_pressAck l E bb gd ch n hn x hok) (cwV 1 hts gX10_press_X10_pressAck rfl rfl rfl (by decide +kernel) ⟨Nat.le_of_ble_eq_true rfl, Nat.le_of_ble_eq_true rfl⟩) hW hK (fx_recv hK (cwf_P (o := 0) hW (by decide)) rfl) rfl hl.1 rfl (Nat.le_of_ble_eq_true rfl) dX10_press_102 ⟨Nat.le_of_ble_eq_true rfl, Nat.le_of_ble_eq_true rfl⟩ hS (fun _ h => h) (fun u7 r7 H locs e7 e7r hW hS => ?_)
    have e7 : (fX10_pressAck gd n x).1 = u7 := e7
    have e7r : (fX10_pressAck gd n x).2 = r7 := e7r
    try rw [e7] at hf_1_16
    try rw [e7r] at hf_1_16
    have hk7 : okF u7 := e7 ▸ (okX10_pressAck hok)
    exact gx_iret hx hb hr rfl hlocks hK hf_1_16 hW hS dX10_press_105
  have hn_1_16 := hn_1_15.trans (if_neg c_1_16)
  by_cases c_1_17 : p1 = 17
  · have hf_1_17 := hn_1_16.trans (if_pos c_1_17)
    refine gx_tab (tgt := 106) hx hb c_1_17 dX10_press_1 (by decide) (by decide) rfl (by decide) ?_
    refine lv_aload_n hx hb dX10_press_106 rfl (lv_at hl 0 rfl) ?_
    refine lv_aload_n hx hb dX10_press_107 rfl (lv_at hl 1 rfl) ?_
    refine gx_i (rest := []) ⟨hx, hb, hml, hown, hts⟩ (mX10_pressOver l E bb gd ch n hn x) (cwV 1 hts gX10_press_X10_pressOver rfl rfl rfl (by decide +kernel) ⟨Nat.le_of_ble_eq_true rfl, Nat.le_of_ble_eq_true rfl⟩) hW hK (fx_recv hK (cwf_P (o := 0) hW (by decide)) rfl) rfl hl.1 rfl (Nat.le_of_ble_eq_true rfl) dX10_press_108 ⟨Nat.le_of_ble_eq_true rfl, Nat.le_of_ble_eq_true rfl⟩ hS (fun _ h => h) (fun u8 r8 H locs e8 e8r hW hS => ?_)
    have e8 : (fX10_pressOver n x).1 = u8 := e8
    have e8r : (fX10_pressOver n x).2 = r8 := e8r
    try rw [e8] at hf_1_17
    try rw [e8r] at hf_1_17
    have hk8 : okF u8 := e8 ▸ (okX10_pressOver hok)
    exact gx_iret hx hb hr rfl hlocks hK hf_1_17 hW hS dX10_press_111
  have hn_1_17 := hn_1_16.trans (if_neg c_1_17)
  by_cases c_1_18 : p1 = 18
  · have hf_1_18 := hn_1_17.trans (if_pos c_1_18)
    refine gx_tab (tgt := 112) hx hb c_1_18 dX10_press_1 (by decide) (by decide) rfl (by decide) ?_
    refine lv_aload_n hx hb dX10_press_112 rfl (lv_at hl 0 rfl) ?_
    refine lv_aload_n hx hb dX10_press_113 rfl (lv_at hl 1 rfl) ?_
    refine gx_i (rest := []) ⟨hx, hb, hml, hown, hts⟩ (mX10_pressBolus l E bb gd ch n hn x hok) (cwV 1 hts gX10_press_X10_pressBolus rfl rfl rfl (by decide +kernel) ⟨Nat.le_of_ble_eq_true rfl, Nat.le_of_ble_eq_true rfl⟩) hW hK (fx_recv hK (cwf_P (o := 0) hW (by decide)) rfl) rfl hl.1 rfl (Nat.le_of_ble_eq_true rfl) dX10_press_114 ⟨Nat.le_of_ble_eq_true rfl, Nat.le_of_ble_eq_true rfl⟩ hS (fun _ h => h) (fun u9 r9 H locs e9 e9r hW hS => ?_)
    have e9 : (fX10_pressBolus gd n x).1 = u9 := e9
    have e9r : (fX10_pressBolus gd n x).2 = r9 := e9r
    try rw [e9] at hf_1_18
    try rw [e9r] at hf_1_18
    have hk9 : okF u9 := e9 ▸ (okX10_pressBolus hok)
    exact gx_iret hx hb hr rfl hlocks hK hf_1_18 hW hS dX10_press_117
  have hn_1_18 := hn_1_17.trans (if_neg c_1_18)
  by_cases c_1_19 : p1 = 19
  · have hf_1_19 := hn_1_18.trans (if_pos c_1_19)
    refine gx_tab (tgt := 118) hx hb c_1_19 dX10_press_1 (by decide) (by decide) rfl (by decide) ?_
    refine lv_aload_n hx hb dX10_press_118 rfl (lv_at hl 0 rfl) ?_
    refine lv_aload_n hx hb dX10_press_119 rfl (lv_at hl 0 rfl) ?_
    refine fx_get (ci := 10) (v := .int (x.1 0 3)) hx hb hts i10 hown hK (cwf_P (o := 0) hW (by decide)) rfl 3 (by decide) kl148 rfl dX10_press_120 ?_
    refine lv_bipush (v := 120) hx hb dX10_press_123 (by decide) ?_
    refine lv_iadd hx hb dX10_press_125 ?_
    refine fx_put (ci := 10) (v := .int ((x.1 0 3) + 120)) hx hb hts i10 tyX10_ok nmX10 hown hK (cwf_P (o := 0) hW (by decide)) (cA_P (by decide)) hS rfl 7 (by decide) kl307 rfl rfl rfl (Nat.le_of_ble_eq_true rfl) dX10_press_126 (fun H locs hat hne hS => ?_)
    have hW : cwf E bb gd ch n (sP x 0 7 ((x.1 0 3) + 120)) H := cwf_sP (o := 0) (k := 7) (v := (x.1 0 3) + 120) hW (by decide) hat hne
    refine lv_aload_n hx hb dX10_press_129 rfl (lv_at hl 1 rfl) ?_
    refine fx_get (ci := 1) (v := .int (x.2.1 0 6)) hx hb hts i1 hown hK (cwf_C (o := 0) hW hn (by decide)) rfl 6 (by decide) kl141 rfl dX10_press_130 ?_
    exact gx_iret hx hb hr rfl hlocks hK hf_1_19 hW hS dX10_press_133
  have hn_1_19 := hn_1_18.trans (if_neg c_1_19)
  by_cases c_1_20 : p1 = 20
  · have hf_1_20 := hn_1_19.trans (if_pos c_1_20)
    refine gx_tab (tgt := 134) hx hb c_1_20 dX10_press_1 (by decide) (by decide) rfl (by decide) ?_
    refine lv_aload_n hx hb dX10_press_134 rfl (lv_at hl 0 rfl) ?_
    refine lv_aload_n hx hb dX10_press_135 rfl (lv_at hl 0 rfl) ?_
    refine fx_get (ci := 10) (v := .int (x.1 0 6)) hx hb hts i10 hown hK (cwf_P (o := 0) hW (by decide)) rfl 6 (by decide) kl95 rfl dX10_press_136 ?_
    refine lv_iconst (v := 1) hx hb dX10_press_139 (by decide) ?_
    refine lv_iadd hx hb dX10_press_140 ?_
    refine lv_iconst (v := 3) hx hb dX10_press_141 (by decide) ?_
    refine lv_icmp_ge (tgt := 154) hx hb dX10_press_142 (by decide) (fun c_142 => ?_) (fun c_142 => ?_)
    · have hf_142 := hf_1_20.trans (if_pos c_142)
      refine lv_iconst (v := 0) hx hb dX10_press_154 (by decide) ?_
      exact J155 _ _ _ x 0 hW hS (lv_sub hl [1] rfl) hok hf_142
    · have hf_142 := hf_1_20.trans (if_neg c_142)
      refine lv_aload_n hx hb dX10_press_145 rfl (lv_at hl 0 rfl) ?_
      refine fx_get (ci := 10) (v := .int (x.1 0 6)) hx hb hts i10 hown hK (cwf_P (o := 0) hW (by decide)) rfl 6 (by decide) kl95 rfl dX10_press_146 ?_
      refine lv_iconst (v := 1) hx hb dX10_press_149 (by decide) ?_
      refine lv_iadd hx hb dX10_press_150 ?_
      refine lv_goto (tgt := 155) hx hb dX10_press_151 (by decide) ?_
      exact J155 _ _ _ x ((x.1 0 6) + 1) hW hS (lv_sub hl [1] rfl) hok hf_142
  have hn_1_20 := hn_1_19.trans (if_neg c_1_20)
  by_cases c_1_21 : p1 = 21
  · have hf_1_21 := hn_1_20.trans (if_pos c_1_21)
    refine gx_tab (tgt := 163) hx hb c_1_21 dX10_press_1 (by decide) (by decide) rfl (by decide) ?_
    refine lv_aload_n hx hb dX10_press_163 rfl (lv_at hl 0 rfl) ?_
    refine lv_aload_n hx hb dX10_press_164 rfl (lv_at hl 1 rfl) ?_
    refine gx_i (rest := []) ⟨hx, hb, hml, hown, hts⟩ (mX10_pressRelay l E bb gd ch n hn x) (cwV 1 hts gX10_press_X10_pressRelay rfl rfl rfl (by decide +kernel) ⟨Nat.le_of_ble_eq_true rfl, Nat.le_of_ble_eq_true rfl⟩) hW hK (fx_recv hK (cwf_P (o := 0) hW (by decide)) rfl) rfl hl.1 rfl (Nat.le_of_ble_eq_true rfl) dX10_press_165 ⟨Nat.le_of_ble_eq_true rfl, Nat.le_of_ble_eq_true rfl⟩ hS (fun _ h => h) (fun u10 r10 H locs e10 e10r hW hS => ?_)
    have e10 : (fX10_pressRelay x).1 = u10 := e10
    have e10r : (fX10_pressRelay x).2 = r10 := e10r
    try rw [e10] at hf_1_21
    try rw [e10r] at hf_1_21
    have hk10 : okF u10 := e10 ▸ (okX10_pressRelay hok)
    exact gx_iret hx hb hr rfl hlocks hK hf_1_21 hW hS dX10_press_168
  have hn_1_21 := hn_1_20.trans (if_neg c_1_21)
  refine lv_tableOut (tgt := 169) hx hb dX10_press_1 (by have e10 := sw_ne (k := 10) 10 rfl c_1_10; have e11 := sw_ne (k := 11) 11 rfl c_1_11; have e12 := sw_ne (k := 12) 12 rfl c_1_12; have e13 := sw_ne (k := 13) 13 rfl c_1_13; have e14 := sw_ne (k := 14) 14 rfl c_1_14; have e15 := sw_ne (k := 15) 15 rfl c_1_15; have e16 := sw_ne (k := 16) 16 rfl c_1_16; have e17 := sw_ne (k := 17) 17 rfl c_1_17; have e18 := sw_ne (k := 18) 18 rfl c_1_18; have e19 := sw_ne (k := 19) 19 rfl c_1_19; have e20 := sw_ne (k := 20) 20 rfl c_1_20; have e21 := sw_ne (k := 21) 21 rfl c_1_21; omega) (by decide) ?_
  refine lv_aload_n hx hb dX10_press_169 rfl (lv_at hl 0 rfl) ?_
  refine lv_aload_n hx hb dX10_press_170 rfl (lv_at hl 1 rfl) ?_
  refine lv_iload_n hx hb dX10_press_171 rfl (lv_at hl 2 rfl) ?_
  refine gx_i (rest := []) ⟨hx, hb, hml, hown, hts⟩ (mX10_typeFigure l E bb gd ch n hn x p1 hok) (cwV 2 hts gX10_press_X10_typeFigure rfl rfl rfl (by decide +kernel) ⟨Nat.le_of_ble_eq_true rfl, Nat.le_of_ble_eq_true rfl⟩) hW hK (fx_recv hK (cwf_P (o := 0) hW (by decide)) rfl) rfl hl.1 rfl (Nat.le_of_ble_eq_true rfl) dX10_press_172 ⟨Nat.le_of_ble_eq_true rfl, Nat.le_of_ble_eq_true rfl⟩ hS (fun _ h => h) (fun u11 r11 H locs e11 e11r hW hS => ?_)
  have e11 : (fX10_typeFigure gd p1 x).1 = u11 := e11
  have e11r : (fX10_typeFigure gd p1 x).2 = r11 := e11r
  try rw [e11] at hn_1_21
  try rw [e11r] at hn_1_21
  have hk11 : okF u11 := e11 ▸ (okX10_typeFigure hok)
  exact gx_iret hx hb hr rfl hlocks hK hn_1_21 hW hS dX10_press_175
theorem okX10_press_J155 {gd : Nat → Nat → Int32} {n : Nat} {p1 : Int32} {y : FS} {w0 : Int32} (hn : n < 3) (hok : okF y) : okF (fX10_press_J155 gd n p1 y w0).1 := by unfold fX10_press_J155; exact (okF_sP hok)
theorem okX10_press {gd : Nat → Nat → Int32} {n : Nat} {p1 : Int32} {x : FS} (hn : n < 3) (hok : okF x) : okF (fX10_press gd n p1 x).1 := by unfold fX10_press; exact (okF_ite1 (fun c_1_10 => (okX10_typePoint hok)) (fun c_1_10 => (okF_ite1 (fun c_1_11 => (okX10_pressClear hn hok)) (fun c_1_11 => (okF_ite1 (fun c_1_12 => (okX10_pressEnter hn hok)) (fun c_1_12 => (okF_ite1 (fun c_1_13 => (okX10_pressBegin hok)) (fun c_1_13 => (okF_ite1 (fun c_1_14 => (okX10_pressRun hok)) (fun c_1_14 => (okF_ite1 (fun c_1_15 => (okX10_pressStop hn hok)) (fun c_1_15 => (okF_ite1 (fun c_1_16 => (okX10_pressAck hok)) (fun c_1_16 => (okF_ite1 (fun c_1_17 => (okX10_pressOver hok)) (fun c_1_17 => (okF_ite1 (fun c_1_18 => (okX10_pressBolus hok)) (fun c_1_18 => (okF_ite1 (fun c_1_19 => (okF_sP hok)) (fun c_1_19 => (okF_ite1 (fun c_1_20 => (okF_ite1 (fun c_142 => (okX10_press_J155 hn hok)) (fun c_142 => (okX10_press_J155 hn hok)))) (fun c_1_20 => (okF_ite1 (fun c_1_21 => (okX10_pressRelay hok)) (fun c_1_21 => (okX10_typeFigure hok)))))))))))))))))))))))))
