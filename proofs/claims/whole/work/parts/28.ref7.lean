/-! the reference: ENTER -/
theorem sR_comm {x : RS} {o k o' k' : Nat} {v v' : Int32} (h : o ≠ o') : sR (sR x o k v) o' k' v' = sR (sR x o' k' v') o k v := by
  refine Prod.ext (funext fun a => funext fun b => ?_) rfl
  show va_up (va_up x.1 o (va_up (x.1 o) k v)) o' (va_up (va_up x.1 o (va_up (x.1 o) k v) o') k' v') a b = va_up (va_up x.1 o' (va_up (x.1 o') k' v')) o (va_up (va_up x.1 o' (va_up (x.1 o') k' v') o) k v) a b
  rw [va_up_ne _ _ (Ne.symm h), va_up_ne _ _ h]
  by_cases h1 : a = o
  · subst h1
    rw [va_up_ne _ _ h, va_up_self, va_up_self]
  · by_cases h2 : a = o'
    · subst h2
      rw [va_up_self, va_up_ne _ _ h1, va_up_self]
    · rw [va_up_ne _ _ h2, va_up_ne _ _ h1, va_up_ne _ _ h1, va_up_ne _ _ h2]
theorem okR_ready {T B : Nat} {c d : Int32} {x : RS} (hc : vp_in c 3) (hd : vp_in d 16) (hok : okR T B x) : okR T B (sR (fX11_go c 6 x) 15 c.toNatClampNeg d) := by
  unfold fX11_go fX11_clear
  rw [sR_comm (o := 43) (o' := 15) (by decide), sR_comm (o := 42) (o' := 15) (by decide), sR_comm (o := 41) (o' := 15) (by decide), sR_comm (o := 13) (o' := 15) (by decide)]
  exact okR_sR rfl (okR_sR rfl (okR_sR rfl (okR_s13 (vi_lt hc) (fun _ => by rw [sR_self]; exact hd) (okR_s15 hd hok))))
theorem okR_s38 {T B i : Nat} {x : RS} {v : Int32} (hv : vp_in v 16) (hok : okR T B x) : okR T B (sR x 38 i v) := by
  have q : ∀ o' k', o' ≠ 38 → (sR x 38 i v).1 o' k' = x.1 o' k' := fun o' k' h' => sR_rd (fun e => h' e.1)
  unfold okR
  rw [q 0 45 (by decide), q 0 50 (by decide), q 28 0 (by decide), q 28 1 (by decide), q 28 2 (by decide), q 0 48 (by decide)]
  refine ⟨hok.1, hok.2.1, fun c hc => ?_, fun c hc => by rw [q 28 c (by decide)]; exact hok.2.2.2.1 c hc, hok.2.2.2.2.1, fun c hc => by rw [q 13 c (by decide), q 14 c (by decide), q 28 c (by decide), q 15 c (by decide)]; exact hok.2.2.2.2.2 c hc⟩
  by_cases e : c = i
  · subst e; rw [sR_self]; exact hv
  · rw [sR_rd (fun z => e z.2)]; exact hok.2.2.1 c hc
theorem okS_go {p1 p2 : Int32} {x : RS} (hs : okS x) : okS (fX11_go p1 p2 x) := hs
theorem isdrug_in {p1 : Int32} {x : RS} (h : ¬ fX11_isDrug p1 x = 0) : vp_in p1 16 := by
  unfold fX11_isDrug at h
  split at h
  · exact absurd rfl h
  · rename_i c
    exact isin_in (c := 15) rfl c

def fX11_enter_J300 (p1 : Int32) (y : RS) (w0 : Int32) : RS × Int32 := ((fX11_note 0 p1 (y.1 16 p1.toNatClampNeg) (sR (sR (sR (sR y 17 p1.toNatClampNeg (w0)) 18 p1.toNatClampNeg (0)) 19 p1.toNatClampNeg (0)) 20 p1.toNatClampNeg (0))), 0)
def fX11_enter_J188 (p1 : Int32) (y : RS) (v2 : Int32) : RS × Int32 := ((fX11_clear p1 (fX11_note 1 p1 v2 y)), -2)
def fX11_enter (p1 : Int32) (x : RS) : RS × Int32 := if (x.1 42 p1.toNatClampNeg) = 0 then ((x, -1)) else (if (x.1 43 p1.toNatClampNeg) = (x.1 42 p1.toNatClampNeg) then ((x, -1)) else (if (x.1 13 p1.toNatClampNeg) = 1 then (if (fX11_isDrug (fX11_number p1 x) x) = 0 then ((x, -1)) else (if (x.1 2 (fX11_number p1 x).toNatClampNeg) = 1 then (((fX11_go p1 2 (sR x 38 p1.toNatClampNeg ((fX11_number p1 x)))), 0)) else (((fX11_go p1 3 (sR x 38 p1.toNatClampNeg ((fX11_number p1 x)))), 0)))) else if (x.1 13 p1.toNatClampNeg) = 2 then (if (fX11_isIn (fX11_number p1 x).toInt64 5 3000 x) = 0 then ((x, -1)) else (((fX11_go p1 3 (sR x 39 p1.toNatClampNeg ((fX11_number p1 x)))), 0))) else if (x.1 13 p1.toNatClampNeg) = 3 then (if (fX11_isIn (fX11_number p1 x).toInt64 ((x.1 4 ((x.1 38 p1.toNatClampNeg).toNatClampNeg)).toInt64) ((x.1 7 ((x.1 38 p1.toNatClampNeg).toNatClampNeg)).toInt64) x) = 0 then (fX11_enter_J188 p1 x (fX11_number p1 x)) else (if (fX11_isIn (fX11_rateOf (x.1 38 p1.toNatClampNeg) (fX11_number p1 x) (x.1 39 p1.toNatClampNeg) x) 1 9999 x) = 0 then (fX11_enter_J188 p1 x (fX11_number p1 x)) else (if (fX11_isIn (fX11_number p1 x).toInt64 ((x.1 5 ((x.1 38 p1.toNatClampNeg).toNatClampNeg)).toInt64) ((x.1 6 ((x.1 38 p1.toNatClampNeg).toNatClampNeg)).toInt64) (sR x 40 p1.toNatClampNeg ((fX11_number p1 x)))) = 0 then (((fX11_go p1 5 (sR x 40 p1.toNatClampNeg ((fX11_number p1 x)))), 0)) else (((fX11_go p1 4 (sR x 40 p1.toNatClampNeg ((fX11_number p1 x)))), 0))))) else (if (fX11_number p1 x) = 0 then (fX11_enter_J300 p1 (sR (sR (fX11_go p1 6 x) 15 p1.toNatClampNeg (x.1 38 p1.toNatClampNeg)) 16 p1.toNatClampNeg ((fX11_rateOf (x.1 38 p1.toNatClampNeg) ((fX11_go p1 6 x).1 40 p1.toNatClampNeg) ((fX11_go p1 6 x).1 39 p1.toNatClampNeg) (sR (fX11_go p1 6 x) 15 p1.toNatClampNeg (x.1 38 p1.toNatClampNeg))).toInt32)) (-1)) else (fX11_enter_J300 p1 (sR (sR (fX11_go p1 6 x) 15 p1.toNatClampNeg (x.1 38 p1.toNatClampNeg)) 16 p1.toNatClampNeg ((fX11_rateOf (x.1 38 p1.toNatClampNeg) ((fX11_go p1 6 x).1 40 p1.toNatClampNeg) ((fX11_go p1 6 x).1 39 p1.toNatClampNeg) (sR (fX11_go p1 6 x) 15 p1.toNatClampNeg (x.1 38 p1.toNatClampNeg))).toInt32)) ((10 : Int32) * (fX11_number p1 x))))))
set_option maxHeartbeats 4000000 in
set_option maxRecDepth 100000 in
theorem mX11_enter (l : Launch) (E : eE) (rr : Nat) (x : RS) (p1 : Int32) (hc : vp_in p1 3) (hs : okS x) (tg : Nat) (bg : Nat) (hok : okR tg (bg + 1) x) : Met l yX11_enter wsX11_enter ({ frames := 2, cells := 0, slots := 0, locals := 47 }) (gPre E (rw_ E rr x) [.ref (rr + 0), .int (p1)]) (gQi E (rw_ E rr) (fX11_enter p1 x) (rA rr)) 0 0 (rA rr) := by
  refine Met.ofW (cc := cX11_enter) (maxL := 4) (ret := (some .int)) (by decide) rfl ?_
  intro p e s m args below meth c s₁ B hml hv
  obtain ⟨rfl, hW, hK⟩ := hv
  have hx := B.exec
  have hb := B.bytes
  have hr := B.returns
  have hts := atoms_spec (ws := wsX11_enter) B.pre
  have hown : s.vm.findClass RX11 = some m.cls := findClass_of_methodNamed B.named
  have hlocks := B.notSynchronized
  have i11 : ∀ w ∈ wsX110, w ∈ wsX11_enter := by decide +kernel
  have kl13 := hts (.fieldLink RX11 13 "DosePumpModel" "kind" "[I") (by decide +kernel)
  have kl20 := hts (.fieldLink RX11 20 "DosePumpModel" "hardLow" "[I") (by decide +kernel)
  have kl23 := hts (.fieldLink RX11 23 "DosePumpModel" "softLow" "[I") (by decide +kernel)
  have kl26 := hts (.fieldLink RX11 26 "DosePumpModel" "softHigh" "[I") (by decide +kernel)
  have kl29 := hts (.fieldLink RX11 29 "DosePumpModel" "hardHigh" "[I") (by decide +kernel)
  have kl47 := hts (.fieldLink RX11 47 "DosePumpModel" "phase" "[I") (by decide +kernel)
  have kl53 := hts (.fieldLink RX11 53 "DosePumpModel" "program" "[I") (by decide +kernel)
  have kl56 := hts (.fieldLink RX11 56 "DosePumpModel" "rate" "[I") (by decide +kernel)
  have kl59 := hts (.fieldLink RX11 59 "DosePumpModel" "left" "[I") (by decide +kernel)
  have kl62 := hts (.fieldLink RX11 62 "DosePumpModel" "made" "[I") (by decide +kernel)
  have kl65 := hts (.fieldLink RX11 65 "DosePumpModel" "debt" "[I") (by decide +kernel)
  have kl68 := hts (.fieldLink RX11 68 "DosePumpModel" "bolusLeft" "[I") (by decide +kernel)
  have kl122 := hts (.fieldLink RX11 122 "DosePumpModel" "entryDrug" "[I") (by decide +kernel)
  have kl125 := hts (.fieldLink RX11 125 "DosePumpModel" "entryWeight" "[I") (by decide +kernel)
  have kl128 := hts (.fieldLink RX11 128 "DosePumpModel" "entryAmount" "[I") (by decide +kernel)
  have kl134 := hts (.fieldLink RX11 134 "DosePumpModel" "digits" "[I") (by decide +kernel)
  have kl137 := hts (.fieldLink RX11 137 "DosePumpModel" "points" "[I") (by decide +kernel)
  have hS : va_S (rA rr) s.heap s.heap [] := va_S.rf
  have hl := lv_entry ([.ref (rr + 0), .int (p1)]) (n := 4) (Nat.le_of_ble_eq_true rfl)
  rw [lg_entry_eq]
  generalize (lg_sl ([.ref (rr + 0), .int (p1)]) ++ List.replicate (4 - (lg_sl ([.ref (rr + 0), .int (p1)])).length) Slot.unset).toArray = ls at hl ⊢
  have hl : lv_has ls 4 [(0, .ref (rr + 0)), (1, .int (p1))] := hl
  have J300 : ∀ (H : Heap) (locs : List Loc) (ls : Array Slot) (y : RS) (w0 : Int32), rw_ E rr y H → va_S (rA rr) s.heap H locs → lv_has ls 4 [(0, .ref (rr + 0)), (1, .int (p1))] → okR tg (bg + 1) y → fX11_enter p1 x = fX11_enter_J300 p1 y w0 → W p l e (headSpec wsX11_enter { frames := 2, cells := 0, slots := 0, locals := 47 }).room s m ([.ref (rr + 0), .int (p1)] : List Value).toArray below meth c H locs 0 0 (MQ below (gQi E (rw_ E rr) (fX11_enter p1 x) (rA rr)) ([.ref (rr + 0), .int (p1)] : List Value).toArray s 0 0 (rA rr)) (F0 m 300 ls [.int (w0), .int (p1), .ref (rr + 17)]) := by
    intro H locs ls y w0 hW hS hl hok hf
    replace hf : fX11_enter p1 x = (((fX11_note 0 p1 (y.1 16 p1.toNatClampNeg) (sR (sR (sR (sR y 17 p1.toNatClampNeg (w0)) 18 p1.toNatClampNeg (0)) 19 p1.toNatClampNeg (0)) 20 p1.toNatClampNeg (0))), 0)) := hf
    refine fx_ist hx hb hK 0 (rwc_17 hW) (rA_o (o := 17) (by decide)) hS rfl hc dX11_enter_300 (fun H locs hat hne hS => ?_)
    have hW : rw_ E rr (sR y 17 p1.toNatClampNeg (w0)) H := rws_17 (k := p1.toNatClampNeg) (v := w0) hW hat hne
    refine lv_aload_n hx hb dX11_enter_301 rfl (lv_at hl 0 rfl) ?_
    refine fx_get (ci := 11) (v := .ref (rr + 18)) hx hb hts i11 hown hK (rwc_0 hW) rfl 18 (by decide) kl62 rfl dX11_enter_302 ?_
    refine lv_iload_n hx hb dX11_enter_305 rfl (lv_at hl 1 rfl) ?_
    refine lv_iconst (v := 0) hx hb dX11_enter_306 (by decide) ?_
    refine fx_ist hx hb hK 0 (rwc_18 hW) (rA_o (o := 18) (by decide)) hS rfl hc dX11_enter_307 (fun H locs hat hne hS => ?_)
    have hW : rw_ E rr (sR (sR y 17 p1.toNatClampNeg (w0)) 18 p1.toNatClampNeg (0)) H := rws_18 (k := p1.toNatClampNeg) (v := 0) hW hat hne
    refine lv_aload_n hx hb dX11_enter_308 rfl (lv_at hl 0 rfl) ?_
    refine fx_get (ci := 11) (v := .ref (rr + 19)) hx hb hts i11 hown hK (rwc_0 hW) rfl 19 (by decide) kl65 rfl dX11_enter_309 ?_
    refine lv_iload_n hx hb dX11_enter_312 rfl (lv_at hl 1 rfl) ?_
    refine lv_iconst (v := 0) hx hb dX11_enter_313 (by decide) ?_
    refine fx_ist hx hb hK 0 (rwc_19 hW) (rA_o (o := 19) (by decide)) hS rfl hc dX11_enter_314 (fun H locs hat hne hS => ?_)
    have hW : rw_ E rr (sR (sR (sR y 17 p1.toNatClampNeg (w0)) 18 p1.toNatClampNeg (0)) 19 p1.toNatClampNeg (0)) H := rws_19 (k := p1.toNatClampNeg) (v := 0) hW hat hne
    refine lv_aload_n hx hb dX11_enter_315 rfl (lv_at hl 0 rfl) ?_
    refine fx_get (ci := 11) (v := .ref (rr + 20)) hx hb hts i11 hown hK (rwc_0 hW) rfl 20 (by decide) kl68 rfl dX11_enter_316 ?_
    refine lv_iload_n hx hb dX11_enter_319 rfl (lv_at hl 1 rfl) ?_
    refine lv_iconst (v := 0) hx hb dX11_enter_320 (by decide) ?_
    refine fx_ist hx hb hK 0 (rwc_20 hW) (rA_o (o := 20) (by decide)) hS rfl hc dX11_enter_321 (fun H locs hat hne hS => ?_)
    have hW : rw_ E rr (sR (sR (sR (sR y 17 p1.toNatClampNeg (w0)) 18 p1.toNatClampNeg (0)) 19 p1.toNatClampNeg (0)) 20 p1.toNatClampNeg (0)) H := rws_20 (k := p1.toNatClampNeg) (v := 0) hW hat hne
    refine lv_aload_n hx hb dX11_enter_322 rfl (lv_at hl 0 rfl) ?_
    refine lv_iconst (v := 0) hx hb dX11_enter_323 (by decide) ?_
    refine lv_iload_n hx hb dX11_enter_324 rfl (lv_at hl 1 rfl) ?_
    refine lv_aload_n hx hb dX11_enter_325 rfl (lv_at hl 0 rfl) ?_
    refine fx_get (ci := 11) (v := .ref (rr + 16)) hx hb hts i11 hown hK (rwc_0 hW) rfl 16 (by decide) kl56 rfl dX11_enter_326 ?_
    refine lv_iload_n hx hb dX11_enter_329 rfl (lv_at hl 1 rfl) ?_
    refine fx_ild hx hb hK 0 (rwc_16 hW) rfl hc dX11_enter_330 ?_
    refine gx_v (rest := []) ⟨hx, hb, hml, hown, hts⟩ (mX11_note l E rr (sR (sR (sR (sR y 17 p1.toNatClampNeg (w0)) 18 p1.toNatClampNeg (0)) 19 p1.toNatClampNeg (0)) 20 p1.toNatClampNeg (0)) 0 p1 (y.1 16 p1.toNatClampNeg) _ _ hok) (cwV 3 hts gX11_enter_X11_note rfl rfl rfl (by decide +kernel) ⟨Nat.le_of_ble_eq_true rfl, Nat.le_of_ble_eq_true rfl⟩) hW hK (fx_recv hK (rwc_0 hW) rfl) rfl hl.1 rfl (Nat.le_of_ble_eq_true rfl) dX11_enter_331 ⟨Nat.le_of_ble_eq_true rfl, Nat.le_of_ble_eq_true rfl⟩ hS (fun _ h => h) (fun u17 H locs e17 hW hS => ?_)
    have e17 : fX11_note 0 p1 (y.1 16 p1.toNatClampNeg) (sR (sR (sR (sR y 17 p1.toNatClampNeg (w0)) 18 p1.toNatClampNeg (0)) 19 p1.toNatClampNeg (0)) 20 p1.toNatClampNeg (0)) = u17 := e17
    try rw [e17] at hf
    have hk17 : okR tg bg u17 := e17 ▸ (okX11_note hok)
    refine lv_iconst (v := 0) hx hb dX11_enter_334 (by decide) ?_
    exact gx_iret hx hb hr rfl hlocks hK hf hW hS dX11_enter_335
  have J188 : ∀ (H : Heap) (locs : List Loc) (ls : Array Slot) (y : RS) (v2 : Int32), rw_ E rr y H → va_S (rA rr) s.heap H locs → lv_has ls 4 [(0, .ref (rr + 0)), (1, .int (p1)), (2, .int (v2))] → okR tg (bg + 1) y → fX11_enter p1 x = fX11_enter_J188 p1 y v2 → W p l e (headSpec wsX11_enter { frames := 2, cells := 0, slots := 0, locals := 47 }).room s m ([.ref (rr + 0), .int (p1)] : List Value).toArray below meth c H locs 0 0 (MQ below (gQi E (rw_ E rr) (fX11_enter p1 x) (rA rr)) ([.ref (rr + 0), .int (p1)] : List Value).toArray s 0 0 (rA rr)) (F0 m 188 ls []) := by
    intro H locs ls y v2 hW hS hl hok hf
    replace hf : fX11_enter p1 x = (((fX11_clear p1 (fX11_note 1 p1 v2 y)), -2)) := hf
    refine lv_aload_n hx hb dX11_enter_188 rfl (lv_at hl 0 rfl) ?_
    refine lv_iconst (v := 1) hx hb dX11_enter_189 (by decide) ?_
    refine lv_iload_n hx hb dX11_enter_190 rfl (lv_at hl 1 rfl) ?_
    refine lv_iload_n hx hb dX11_enter_191 rfl (lv_at hl 2 rfl) ?_
    refine gx_v (rest := []) ⟨hx, hb, hml, hown, hts⟩ (mX11_note l E rr y 1 p1 v2 _ _ hok) (cwV 3 hts gX11_enter_X11_note rfl rfl rfl (by decide +kernel) ⟨Nat.le_of_ble_eq_true rfl, Nat.le_of_ble_eq_true rfl⟩) hW hK (fx_recv hK (rwc_0 hW) rfl) rfl hl.1 rfl (Nat.le_of_ble_eq_true rfl) dX11_enter_192 ⟨Nat.le_of_ble_eq_true rfl, Nat.le_of_ble_eq_true rfl⟩ hS (fun _ h => h) (fun u15 H locs e15 hW hS => ?_)
    have e15 : fX11_note 1 p1 v2 y = u15 := e15
    try rw [e15] at hf
    have hk15 : okR tg bg u15 := e15 ▸ (okX11_note hok)
    refine lv_aload_n hx hb dX11_enter_195 rfl (lv_at hl 0 rfl) ?_
    refine lv_iload_n hx hb dX11_enter_196 rfl (lv_at hl 1 rfl) ?_
    refine gx_v (rest := []) ⟨hx, hb, hml, hown, hts⟩ (mX11_clear l E rr u15 p1 hc) (cwV 1 hts gX11_enter_X11_clear rfl rfl rfl (by decide +kernel) ⟨Nat.le_of_ble_eq_true rfl, Nat.le_of_ble_eq_true rfl⟩) hW hK (fx_recv hK (rwc_0 hW) rfl) rfl hl.1 rfl (Nat.le_of_ble_eq_true rfl) dX11_enter_197 ⟨Nat.le_of_ble_eq_true rfl, Nat.le_of_ble_eq_true rfl⟩ hS (fun _ h => h) (fun u16 H locs e16 hW hS => ?_)
    have e16 : fX11_clear p1 u15 = u16 := e16
    try rw [e16] at hf
    have hk16 : okR tg bg u16 := e16 ▸ (okX11_clear hk15)
    refine lv_bipush (v := -2) hx hb dX11_enter_200 (by decide) ?_
    exact gx_iret hx hb hr rfl hlocks hK hf hW hS dX11_enter_202
  have hf : fX11_enter p1 x = (if (x.1 42 p1.toNatClampNeg) = 0 then ((x, -1)) else (if (x.1 43 p1.toNatClampNeg) = (x.1 42 p1.toNatClampNeg) then ((x, -1)) else (if (x.1 13 p1.toNatClampNeg) = 1 then (if (fX11_isDrug (fX11_number p1 x) x) = 0 then ((x, -1)) else (if (x.1 2 (fX11_number p1 x).toNatClampNeg) = 1 then (((fX11_go p1 2 (sR x 38 p1.toNatClampNeg ((fX11_number p1 x)))), 0)) else (((fX11_go p1 3 (sR x 38 p1.toNatClampNeg ((fX11_number p1 x)))), 0)))) else if (x.1 13 p1.toNatClampNeg) = 2 then (if (fX11_isIn (fX11_number p1 x).toInt64 5 3000 x) = 0 then ((x, -1)) else (((fX11_go p1 3 (sR x 39 p1.toNatClampNeg ((fX11_number p1 x)))), 0))) else if (x.1 13 p1.toNatClampNeg) = 3 then (if (fX11_isIn (fX11_number p1 x).toInt64 ((x.1 4 ((x.1 38 p1.toNatClampNeg).toNatClampNeg)).toInt64) ((x.1 7 ((x.1 38 p1.toNatClampNeg).toNatClampNeg)).toInt64) x) = 0 then (fX11_enter_J188 p1 x (fX11_number p1 x)) else (if (fX11_isIn (fX11_rateOf (x.1 38 p1.toNatClampNeg) (fX11_number p1 x) (x.1 39 p1.toNatClampNeg) x) 1 9999 x) = 0 then (fX11_enter_J188 p1 x (fX11_number p1 x)) else (if (fX11_isIn (fX11_number p1 x).toInt64 ((x.1 5 ((x.1 38 p1.toNatClampNeg).toNatClampNeg)).toInt64) ((x.1 6 ((x.1 38 p1.toNatClampNeg).toNatClampNeg)).toInt64) (sR x 40 p1.toNatClampNeg ((fX11_number p1 x)))) = 0 then (((fX11_go p1 5 (sR x 40 p1.toNatClampNeg ((fX11_number p1 x)))), 0)) else (((fX11_go p1 4 (sR x 40 p1.toNatClampNeg ((fX11_number p1 x)))), 0))))) else (if (fX11_number p1 x) = 0 then (fX11_enter_J300 p1 (sR (sR (fX11_go p1 6 x) 15 p1.toNatClampNeg (x.1 38 p1.toNatClampNeg)) 16 p1.toNatClampNeg ((fX11_rateOf (x.1 38 p1.toNatClampNeg) ((fX11_go p1 6 x).1 40 p1.toNatClampNeg) ((fX11_go p1 6 x).1 39 p1.toNatClampNeg) (sR (fX11_go p1 6 x) 15 p1.toNatClampNeg (x.1 38 p1.toNatClampNeg))).toInt32)) (-1)) else (fX11_enter_J300 p1 (sR (sR (fX11_go p1 6 x) 15 p1.toNatClampNeg (x.1 38 p1.toNatClampNeg)) 16 p1.toNatClampNeg ((fX11_rateOf (x.1 38 p1.toNatClampNeg) ((fX11_go p1 6 x).1 40 p1.toNatClampNeg) ((fX11_go p1 6 x).1 39 p1.toNatClampNeg) (sR (fX11_go p1 6 x) 15 p1.toNatClampNeg (x.1 38 p1.toNatClampNeg))).toInt32)) ((10 : Int32) * (fX11_number p1 x))))))) := rfl
  refine lv_aload_n hx hb dX11_enter_0 rfl (lv_at hl 0 rfl) ?_
  refine fx_get (ci := 11) (v := .ref (rr + 42)) hx hb hts i11 hown hK (rwc_0 hW) rfl 42 (by decide) kl134 rfl dX11_enter_1 ?_
  refine lv_iload_n hx hb dX11_enter_4 rfl (lv_at hl 1 rfl) ?_
  refine fx_ild hx hb hK 0 (rwc_42 hW) rfl hc dX11_enter_5 ?_
  refine lv_if_eq (tgt := 24) hx hb dX11_enter_6 (by decide) (fun c_6 => ?_) (fun c_6 => ?_)
  · have hf_6 := hf.trans (if_pos c_6)
    refine lv_iconst (v := -1) hx hb dX11_enter_24 (by decide) ?_
    exact gx_iret hx hb hr rfl hlocks hK hf_6 hW hS dX11_enter_25
  · have hf_6 := hf.trans (if_neg c_6)
    refine lv_aload_n hx hb dX11_enter_9 rfl (lv_at hl 0 rfl) ?_
    refine fx_get (ci := 11) (v := .ref (rr + 43)) hx hb hts i11 hown hK (rwc_0 hW) rfl 43 (by decide) kl137 rfl dX11_enter_10 ?_
    refine lv_iload_n hx hb dX11_enter_13 rfl (lv_at hl 1 rfl) ?_
    refine fx_ild hx hb hK 0 (rwc_43 hW) rfl hc dX11_enter_14 ?_
    refine lv_aload_n hx hb dX11_enter_15 rfl (lv_at hl 0 rfl) ?_
    refine fx_get (ci := 11) (v := .ref (rr + 42)) hx hb hts i11 hown hK (rwc_0 hW) rfl 42 (by decide) kl134 rfl dX11_enter_16 ?_
    refine lv_iload_n hx hb dX11_enter_19 rfl (lv_at hl 1 rfl) ?_
    refine fx_ild hx hb hK 0 (rwc_42 hW) rfl hc dX11_enter_20 ?_
    refine lv_icmp_ne (tgt := 26) hx hb dX11_enter_21 (by decide) (fun c_21 => ?_) (fun c_21 => ?_)
    · have hf_21 := hf_6.trans (if_neg c_21)
      refine lv_aload_n hx hb dX11_enter_26 rfl (lv_at hl 0 rfl) ?_
      refine lv_iload_n hx hb dX11_enter_27 rfl (lv_at hl 1 rfl) ?_
      refine gx_i (rest := []) ⟨hx, hb, hml, hown, hts⟩ (mX11_number l E rr x p1 hc _ _ hok) (cwV 1 hts gX11_enter_X11_number rfl rfl rfl (by decide +kernel) ⟨Nat.le_of_ble_eq_true rfl, Nat.le_of_ble_eq_true rfl⟩) hW hK (fx_recv hK (rwc_0 hW) rfl) rfl hl.1 rfl (Nat.le_of_ble_eq_true rfl) dX11_enter_28 ⟨Nat.le_of_ble_eq_true rfl, Nat.le_of_ble_eq_true rfl⟩ hS (fun _ h => h) (fun _ r1 H locs _ e1 hW hS => ?_)
      have e1 : fX11_number p1 x = r1 := e1
      try rw [e1] at hf_21
      refine lv_istore_n (lv' := [(2, .int (r1)), (0, .ref (rr + 0)), (1, .int (p1))]) hx hb dX11_enter_31 rfl hl (by decide) rfl (fun ls hl => ?_)
      refine lv_aload_n hx hb dX11_enter_32 rfl (lv_at hl 1 rfl) ?_
      refine fx_get (ci := 11) (v := .ref (rr + 38)) hx hb hts i11 hown hK (rwc_0 hW) rfl 38 (by decide) kl122 rfl dX11_enter_33 ?_
      refine lv_iload_n hx hb dX11_enter_36 rfl (lv_at hl 2 rfl) ?_
      refine fx_ild hx hb hK 0 (rwc_38 hW) rfl hc dX11_enter_37 ?_
      refine lv_istore_n (lv' := [(3, .int (x.1 38 p1.toNatClampNeg)), (2, .int (r1)), (0, .ref (rr + 0)), (1, .int (p1))]) hx hb dX11_enter_38 rfl hl (by decide) rfl (fun ls hl => ?_)
      refine lv_aload_n hx hb dX11_enter_39 rfl (lv_at hl 2 rfl) ?_
      refine fx_get (ci := 11) (v := .ref (rr + 13)) hx hb hts i11 hown hK (rwc_0 hW) rfl 13 (by decide) kl47 rfl dX11_enter_40 ?_
      refine lv_iload_n hx hb dX11_enter_43 rfl (lv_at hl 3 rfl) ?_
      refine fx_ild hx hb hK 0 (rwc_13 hW) rfl hc dX11_enter_44 ?_
      by_cases c_45_1 : (x.1 13 p1.toNatClampNeg) = 1
      · have hf_45_1 := hf_21.trans (if_pos c_45_1)
        refine gx_tab (tgt := 72) hx hb c_45_1 dX11_enter_45 (by decide) (by decide) rfl (by decide) ?_
        refine lv_aload_n hx hb dX11_enter_72 rfl (lv_at hl 2 rfl) ?_
        refine lv_iload_n hx hb dX11_enter_73 rfl (lv_at hl 1 rfl) ?_
        refine gx_i (rest := []) ⟨hx, hb, hml, hown, hts⟩ (mX11_isDrug l E rr x r1) (cwV 1 hts gX11_enter_X11_isDrug rfl rfl rfl (by decide +kernel) ⟨Nat.le_of_ble_eq_true rfl, Nat.le_of_ble_eq_true rfl⟩) hW hK (fx_recv hK (rwc_0 hW) rfl) rfl hl.1 rfl (Nat.le_of_ble_eq_true rfl) dX11_enter_74 ⟨Nat.le_of_ble_eq_true rfl, Nat.le_of_ble_eq_true rfl⟩ hS (fun _ h => h) (fun _ r2 H locs _ e2 hW hS => ?_)
        have e2 : fX11_isDrug r1 x = r2 := e2
        try rw [e2] at hf_45_1
        refine lv_if_ne (tgt := 82) hx hb dX11_enter_77 (by decide) (fun c_77 => ?_) (fun c_77 => ?_)
        · have hf_77 := hf_45_1.trans (if_neg c_77)
          refine lv_aload_n hx hb dX11_enter_82 rfl (lv_at hl 2 rfl) ?_
          refine fx_get (ci := 11) (v := .ref (rr + 38)) hx hb hts i11 hown hK (rwc_0 hW) rfl 38 (by decide) kl122 rfl dX11_enter_83 ?_
          refine lv_iload_n hx hb dX11_enter_86 rfl (lv_at hl 3 rfl) ?_
          refine lv_iload_n hx hb dX11_enter_87 rfl (lv_at hl 1 rfl) ?_
          refine fx_ist hx hb hK 0 (rwc_38 hW) (rA_o (o := 38) (by decide)) hS rfl hc dX11_enter_88 (fun H locs hat hne hS => ?_)
          have hW : rw_ E rr (sR x 38 p1.toNatClampNeg (r1)) H := rws_38 (k := p1.toNatClampNeg) (v := r1) hW hat hne
          refine lv_aload_n hx hb dX11_enter_89 rfl (lv_at hl 2 rfl) ?_
          refine lv_iload_n hx hb dX11_enter_90 rfl (lv_at hl 3 rfl) ?_
          refine lv_aload_n hx hb dX11_enter_91 rfl (lv_at hl 2 rfl) ?_
          refine fx_get (ci := 11) (v := .ref (rr + 2)) hx hb hts i11 hown hK (rwc_0 hW) rfl 2 (by decide) kl13 rfl dX11_enter_92 ?_
          refine lv_iload_n hx hb dX11_enter_95 rfl (lv_at hl 1 rfl) ?_
          refine fx_ild hx hb hK 0 (rwc_2 hW) rfl (isdrug_in (p1 := r1) (x := x) (by rw [e2]; exact c_77)) dX11_enter_96 ?_
          refine lv_iconst (v := 1) hx hb dX11_enter_97 (by decide) ?_
          refine lv_icmp_ne (tgt := 105) hx hb dX11_enter_98 (by decide) (fun c_98 => ?_) (fun c_98 => ?_)
          · have hf_98 := hf_77.trans (if_neg c_98)
            refine lv_iconst (v := 3) hx hb dX11_enter_105 (by decide) ?_
            refine gx_v (rest := []) ⟨hx, hb, hml, hown, hts⟩ (mX11_go l E rr (sR x 38 p1.toNatClampNeg (r1)) p1 3 hc) (cwV 2 hts gX11_enter_X11_go rfl rfl rfl (by decide +kernel) ⟨Nat.le_of_ble_eq_true rfl, Nat.le_of_ble_eq_true rfl⟩) hW hK (fx_recv hK (rwc_0 hW) rfl) rfl hl.1 rfl (Nat.le_of_ble_eq_true rfl) dX11_enter_106 ⟨Nat.le_of_ble_eq_true rfl, Nat.le_of_ble_eq_true rfl⟩ hS (fun _ h => h) (fun u3 H locs e3 hW hS => ?_)
            have e3 : fX11_go p1 3 (sR x 38 p1.toNatClampNeg (r1)) = u3 := e3
            try rw [e3] at hf_98
            have hk3 : okR tg (bg + 1) u3 := e3 ▸ (okX11_go hc (fun h => absurd h (by decide)) (okR_s38 (isdrug_in (p1 := r1) (x := x) (by rw [e2]; exact c_77)) hok))
            refine lv_goto (tgt := 334) hx hb dX11_enter_109 (by decide) ?_
            refine lv_iconst (v := 0) hx hb dX11_enter_334 (by decide) ?_
            exact gx_iret hx hb hr rfl hlocks hK hf_98 hW hS dX11_enter_335
          · have hf_98 := hf_77.trans (if_pos c_98)
            refine lv_iconst (v := 2) hx hb dX11_enter_101 (by decide) ?_
            refine lv_goto (tgt := 106) hx hb dX11_enter_102 (by decide) ?_
            refine gx_v (rest := []) ⟨hx, hb, hml, hown, hts⟩ (mX11_go l E rr (sR x 38 p1.toNatClampNeg (r1)) p1 2 hc) (cwV 2 hts gX11_enter_X11_go rfl rfl rfl (by decide +kernel) ⟨Nat.le_of_ble_eq_true rfl, Nat.le_of_ble_eq_true rfl⟩) hW hK (fx_recv hK (rwc_0 hW) rfl) rfl hl.1 rfl (Nat.le_of_ble_eq_true rfl) dX11_enter_106 ⟨Nat.le_of_ble_eq_true rfl, Nat.le_of_ble_eq_true rfl⟩ hS (fun _ h => h) (fun u4 H locs e4 hW hS => ?_)
            have e4 : fX11_go p1 2 (sR x 38 p1.toNatClampNeg (r1)) = u4 := e4
            try rw [e4] at hf_98
            have hk4 : okR tg (bg + 1) u4 := e4 ▸ (okX11_go hc (fun h => absurd h (by decide)) (okR_s38 (isdrug_in (p1 := r1) (x := x) (by rw [e2]; exact c_77)) hok))
            refine lv_goto (tgt := 334) hx hb dX11_enter_109 (by decide) ?_
            refine lv_iconst (v := 0) hx hb dX11_enter_334 (by decide) ?_
            exact gx_iret hx hb hr rfl hlocks hK hf_98 hW hS dX11_enter_335
        · have hf_77 := hf_45_1.trans (if_pos c_77)
          refine lv_iconst (v := -1) hx hb dX11_enter_80 (by decide) ?_
          exact gx_iret hx hb hr rfl hlocks hK hf_77 hW hS dX11_enter_81
      have hn_45_1 := hf_21.trans (if_neg c_45_1)
      by_cases c_45_2 : (x.1 13 p1.toNatClampNeg) = 2
      · have hf_45_2 := hn_45_1.trans (if_pos c_45_2)
        refine gx_tab (tgt := 112) hx hb c_45_2 dX11_enter_45 (by decide) (by decide) rfl (by decide) ?_
        refine lv_iload_n hx hb dX11_enter_112 rfl (lv_at hl 1 rfl) ?_
        refine lv_i2l (v := r1.toInt64) hx hb dX11_enter_113 rfl ?_
        refine lv_ldc2 hx hb hown (hts (.constantLong RX11 204 (5)) (by decide +kernel)) dX11_enter_114 ?_
        refine lv_ldc2 hx hb hown (hts (.constantLong RX11 229 (3000)) (by decide +kernel)) dX11_enter_117 ?_
        refine gx_si (rest := []) ⟨hx, hb, hml, hown, hts⟩ (mX11_isIn l E rr x r1.toInt64 5 3000) (va_cwS 3 hts gX11_enter_X11_isIn rfl rfl rfl (by decide +kernel) ⟨Nat.le_of_ble_eq_true rfl, Nat.le_of_ble_eq_true rfl⟩) hW hK rfl hl.1 rfl (Nat.le_of_ble_eq_true rfl) dX11_enter_120 ⟨Nat.le_of_ble_eq_true rfl, Nat.le_of_ble_eq_true rfl⟩ hS (fun _ h => h) (fun _ r5 H locs _ e5 hW hS => ?_)
        have e5 : fX11_isIn r1.toInt64 5 3000 x = r5 := e5
        try rw [e5] at hf_45_2
        refine lv_if_ne (tgt := 128) hx hb dX11_enter_123 (by decide) (fun c_123 => ?_) (fun c_123 => ?_)
        · have hf_123 := hf_45_2.trans (if_neg c_123)
          refine lv_aload_n hx hb dX11_enter_128 rfl (lv_at hl 2 rfl) ?_
          refine fx_get (ci := 11) (v := .ref (rr + 39)) hx hb hts i11 hown hK (rwc_0 hW) rfl 39 (by decide) kl125 rfl dX11_enter_129 ?_
          refine lv_iload_n hx hb dX11_enter_132 rfl (lv_at hl 3 rfl) ?_
          refine lv_iload_n hx hb dX11_enter_133 rfl (lv_at hl 1 rfl) ?_
          refine fx_ist hx hb hK 0 (rwc_39 hW) (rA_o (o := 39) (by decide)) hS rfl hc dX11_enter_134 (fun H locs hat hne hS => ?_)
          have hW : rw_ E rr (sR x 39 p1.toNatClampNeg (r1)) H := rws_39 (k := p1.toNatClampNeg) (v := r1) hW hat hne
          refine lv_aload_n hx hb dX11_enter_135 rfl (lv_at hl 2 rfl) ?_
          refine lv_iload_n hx hb dX11_enter_136 rfl (lv_at hl 3 rfl) ?_
          refine lv_iconst (v := 3) hx hb dX11_enter_137 (by decide) ?_
          refine gx_v (rest := []) ⟨hx, hb, hml, hown, hts⟩ (mX11_go l E rr (sR x 39 p1.toNatClampNeg (r1)) p1 3 hc) (cwV 2 hts gX11_enter_X11_go rfl rfl rfl (by decide +kernel) ⟨Nat.le_of_ble_eq_true rfl, Nat.le_of_ble_eq_true rfl⟩) hW hK (fx_recv hK (rwc_0 hW) rfl) rfl hl.1 rfl (Nat.le_of_ble_eq_true rfl) dX11_enter_138 ⟨Nat.le_of_ble_eq_true rfl, Nat.le_of_ble_eq_true rfl⟩ hS (fun _ h => h) (fun u6 H locs e6 hW hS => ?_)
          have e6 : fX11_go p1 3 (sR x 39 p1.toNatClampNeg (r1)) = u6 := e6
          try rw [e6] at hf_123
          have hk6 : okR tg (bg + 1) u6 := e6 ▸ (okX11_go hc (fun h => absurd h (by decide)) hok)
          refine lv_goto (tgt := 334) hx hb dX11_enter_141 (by decide) ?_
          refine lv_iconst (v := 0) hx hb dX11_enter_334 (by decide) ?_
          exact gx_iret hx hb hr rfl hlocks hK hf_123 hW hS dX11_enter_335
        · have hf_123 := hf_45_2.trans (if_pos c_123)
          refine lv_iconst (v := -1) hx hb dX11_enter_126 (by decide) ?_
          exact gx_iret hx hb hr rfl hlocks hK hf_123 hW hS dX11_enter_127
      have hn_45_2 := hn_45_1.trans (if_neg c_45_2)
      by_cases c_45_3 : (x.1 13 p1.toNatClampNeg) = 3
      · have hf_45_3 := hn_45_2.trans (if_pos c_45_3)
        refine gx_tab (tgt := 144) hx hb c_45_3 dX11_enter_45 (by decide) (by decide) rfl (by decide) ?_
        refine lv_iload_n hx hb dX11_enter_144 rfl (lv_at hl 1 rfl) ?_
        refine lv_i2l (v := r1.toInt64) hx hb dX11_enter_145 rfl ?_
        refine lv_aload_n hx hb dX11_enter_146 rfl (lv_at hl 2 rfl) ?_
        refine fx_get (ci := 11) (v := .ref (rr + 4)) hx hb hts i11 hown hK (rwc_0 hW) rfl 4 (by decide) kl20 rfl dX11_enter_147 ?_
        refine lv_iload_n hx hb dX11_enter_150 rfl (lv_at hl 0 rfl) ?_
        refine fx_ild hx hb hK 0 (rwc_4 hW) rfl (hok.2.2.1 _ (vi_lt hc)) dX11_enter_151 ?_
        refine lv_i2l (v := (x.1 4 ((x.1 38 p1.toNatClampNeg).toNatClampNeg)).toInt64) hx hb dX11_enter_152 rfl ?_
        refine lv_aload_n hx hb dX11_enter_153 rfl (lv_at hl 2 rfl) ?_
        refine fx_get (ci := 11) (v := .ref (rr + 7)) hx hb hts i11 hown hK (rwc_0 hW) rfl 7 (by decide) kl29 rfl dX11_enter_154 ?_
        refine lv_iload_n hx hb dX11_enter_157 rfl (lv_at hl 0 rfl) ?_
        refine fx_ild hx hb hK 0 (rwc_7 hW) rfl (hok.2.2.1 _ (vi_lt hc)) dX11_enter_158 ?_
        refine lv_i2l (v := (x.1 7 ((x.1 38 p1.toNatClampNeg).toNatClampNeg)).toInt64) hx hb dX11_enter_159 rfl ?_
        refine gx_si (rest := []) ⟨hx, hb, hml, hown, hts⟩ (mX11_isIn l E rr x r1.toInt64 ((x.1 4 ((x.1 38 p1.toNatClampNeg).toNatClampNeg)).toInt64) ((x.1 7 ((x.1 38 p1.toNatClampNeg).toNatClampNeg)).toInt64)) (va_cwS 3 hts gX11_enter_X11_isIn rfl rfl rfl (by decide +kernel) ⟨Nat.le_of_ble_eq_true rfl, Nat.le_of_ble_eq_true rfl⟩) hW hK rfl hl.1 rfl (Nat.le_of_ble_eq_true rfl) dX11_enter_160 ⟨Nat.le_of_ble_eq_true rfl, Nat.le_of_ble_eq_true rfl⟩ hS (fun _ h => h) (fun _ r7 H locs _ e7 hW hS => ?_)
        have e7 : fX11_isIn r1.toInt64 ((x.1 4 ((x.1 38 p1.toNatClampNeg).toNatClampNeg)).toInt64) ((x.1 7 ((x.1 38 p1.toNatClampNeg).toNatClampNeg)).toInt64) x = r7 := e7
        try rw [e7] at hf_45_3
        refine lv_if_eq (tgt := 188) hx hb dX11_enter_163 (by decide) (fun c_163 => ?_) (fun c_163 => ?_)
        · have hf_163 := hf_45_3.trans (if_pos c_163)
          exact J188 _ _ _ x r1 hW hS (lv_sub hl [2, 3, 1] rfl) hok hf_163
        · have hf_163 := hf_45_3.trans (if_neg c_163)
          refine lv_aload_n hx hb dX11_enter_166 rfl (lv_at hl 2 rfl) ?_
          refine lv_iload_n hx hb dX11_enter_167 rfl (lv_at hl 0 rfl) ?_
          refine lv_iload_n hx hb dX11_enter_168 rfl (lv_at hl 1 rfl) ?_
          refine lv_aload_n hx hb dX11_enter_169 rfl (lv_at hl 2 rfl) ?_
          refine fx_get (ci := 11) (v := .ref (rr + 39)) hx hb hts i11 hown hK (rwc_0 hW) rfl 39 (by decide) kl125 rfl dX11_enter_170 ?_
          refine lv_iload_n hx hb dX11_enter_173 rfl (lv_at hl 3 rfl) ?_
          refine fx_ild hx hb hK 0 (rwc_39 hW) rfl hc dX11_enter_174 ?_
          refine gx_l (rest := []) ⟨hx, hb, hml, hown, hts⟩ (mX11_rateOf l E rr x (x.1 38 p1.toNatClampNeg) r1 (x.1 39 p1.toNatClampNeg) (hok.2.2.1 _ (vi_lt hc)) hs) (cwV 3 hts gX11_enter_X11_rateOf rfl rfl rfl (by decide +kernel) ⟨Nat.le_of_ble_eq_true rfl, Nat.le_of_ble_eq_true rfl⟩) hW hK (fx_recv hK (rwc_0 hW) rfl) rfl hl.1 rfl (Nat.le_of_ble_eq_true rfl) dX11_enter_175 ⟨Nat.le_of_ble_eq_true rfl, Nat.le_of_ble_eq_true rfl⟩ hS (fun _ h => h) (fun _ r8 H locs _ e8 hW hS => ?_)
          have e8 : fX11_rateOf (x.1 38 p1.toNatClampNeg) r1 (x.1 39 p1.toNatClampNeg) x = r8 := e8
          try rw [e8] at hf_163
          refine lv_lconst (v := 1) hx hb dX11_enter_178 (by decide) ?_
          refine lv_ldc2 hx hb hown (hts (.constantLong RX11 235 (9999)) (by decide +kernel)) dX11_enter_179 ?_
          refine gx_si (rest := []) ⟨hx, hb, hml, hown, hts⟩ (mX11_isIn l E rr x r8 1 9999) (va_cwS 3 hts gX11_enter_X11_isIn rfl rfl rfl (by decide +kernel) ⟨Nat.le_of_ble_eq_true rfl, Nat.le_of_ble_eq_true rfl⟩) hW hK rfl hl.1 rfl (Nat.le_of_ble_eq_true rfl) dX11_enter_182 ⟨Nat.le_of_ble_eq_true rfl, Nat.le_of_ble_eq_true rfl⟩ hS (fun _ h => h) (fun _ r9 H locs _ e9 hW hS => ?_)
          have e9 : fX11_isIn r8 1 9999 x = r9 := e9
          try rw [e9] at hf_163
          refine lv_if_ne (tgt := 203) hx hb dX11_enter_185 (by decide) (fun c_185 => ?_) (fun c_185 => ?_)
          · have hf_185 := hf_163.trans (if_neg c_185)
            refine lv_aload_n hx hb dX11_enter_203 rfl (lv_at hl 2 rfl) ?_
            refine fx_get (ci := 11) (v := .ref (rr + 40)) hx hb hts i11 hown hK (rwc_0 hW) rfl 40 (by decide) kl128 rfl dX11_enter_204 ?_
            refine lv_iload_n hx hb dX11_enter_207 rfl (lv_at hl 3 rfl) ?_
            refine lv_iload_n hx hb dX11_enter_208 rfl (lv_at hl 1 rfl) ?_
            refine fx_ist hx hb hK 0 (rwc_40 hW) (rA_o (o := 40) (by decide)) hS rfl hc dX11_enter_209 (fun H locs hat hne hS => ?_)
            have hW : rw_ E rr (sR x 40 p1.toNatClampNeg (r1)) H := rws_40 (k := p1.toNatClampNeg) (v := r1) hW hat hne
            refine lv_aload_n hx hb dX11_enter_210 rfl (lv_at hl 2 rfl) ?_
            refine lv_iload_n hx hb dX11_enter_211 rfl (lv_at hl 3 rfl) ?_
            refine lv_iload_n hx hb dX11_enter_212 rfl (lv_at hl 1 rfl) ?_
            refine lv_i2l (v := r1.toInt64) hx hb dX11_enter_213 rfl ?_
            refine lv_aload_n hx hb dX11_enter_214 rfl (lv_at hl 2 rfl) ?_
            refine fx_get (ci := 11) (v := .ref (rr + 5)) hx hb hts i11 hown hK (rwc_0 hW) rfl 5 (by decide) kl23 rfl dX11_enter_215 ?_
            refine lv_iload_n hx hb dX11_enter_218 rfl (lv_at hl 0 rfl) ?_
            refine fx_ild hx hb hK 0 (rwc_5 hW) rfl (hok.2.2.1 _ (vi_lt hc)) dX11_enter_219 ?_
            refine lv_i2l (v := (x.1 5 ((x.1 38 p1.toNatClampNeg).toNatClampNeg)).toInt64) hx hb dX11_enter_220 rfl ?_
            refine lv_aload_n hx hb dX11_enter_221 rfl (lv_at hl 2 rfl) ?_
            refine fx_get (ci := 11) (v := .ref (rr + 6)) hx hb hts i11 hown hK (rwc_0 hW) rfl 6 (by decide) kl26 rfl dX11_enter_222 ?_
            refine lv_iload_n hx hb dX11_enter_225 rfl (lv_at hl 0 rfl) ?_
            refine fx_ild hx hb hK 0 (rwc_6 hW) rfl (hok.2.2.1 _ (vi_lt hc)) dX11_enter_226 ?_
            refine lv_i2l (v := (x.1 6 ((x.1 38 p1.toNatClampNeg).toNatClampNeg)).toInt64) hx hb dX11_enter_227 rfl ?_
            refine gx_si (rest := [.int (p1), .ref (rr + 0)]) ⟨hx, hb, hml, hown, hts⟩ (mX11_isIn l E rr (sR x 40 p1.toNatClampNeg (r1)) r1.toInt64 ((x.1 5 ((x.1 38 p1.toNatClampNeg).toNatClampNeg)).toInt64) ((x.1 6 ((x.1 38 p1.toNatClampNeg).toNatClampNeg)).toInt64)) (va_cwS 3 hts gX11_enter_X11_isIn rfl rfl rfl (by decide +kernel) ⟨Nat.le_of_ble_eq_true rfl, Nat.le_of_ble_eq_true rfl⟩) hW hK rfl hl.1 rfl (Nat.le_of_ble_eq_true rfl) dX11_enter_228 ⟨Nat.le_of_ble_eq_true rfl, Nat.le_of_ble_eq_true rfl⟩ hS (fun _ h => h) (fun _ r10 H locs _ e10 hW hS => ?_)
            have e10 : fX11_isIn r1.toInt64 ((x.1 5 ((x.1 38 p1.toNatClampNeg).toNatClampNeg)).toInt64) ((x.1 6 ((x.1 38 p1.toNatClampNeg).toNatClampNeg)).toInt64) (sR x 40 p1.toNatClampNeg (r1)) = r10 := e10
            try rw [e10] at hf_185
            refine lv_if_eq (tgt := 238) hx hb dX11_enter_231 (by decide) (fun c_231 => ?_) (fun c_231 => ?_)
            · have hf_231 := hf_185.trans (if_pos c_231)
              refine lv_iconst (v := 5) hx hb dX11_enter_238 (by decide) ?_
              refine gx_v (rest := []) ⟨hx, hb, hml, hown, hts⟩ (mX11_go l E rr (sR x 40 p1.toNatClampNeg (r1)) p1 5 hc) (cwV 2 hts gX11_enter_X11_go rfl rfl rfl (by decide +kernel) ⟨Nat.le_of_ble_eq_true rfl, Nat.le_of_ble_eq_true rfl⟩) hW hK (fx_recv hK (rwc_0 hW) rfl) rfl hl.1 rfl (Nat.le_of_ble_eq_true rfl) dX11_enter_239 ⟨Nat.le_of_ble_eq_true rfl, Nat.le_of_ble_eq_true rfl⟩ hS (fun _ h => h) (fun u11 H locs e11 hW hS => ?_)
              have e11 : fX11_go p1 5 (sR x 40 p1.toNatClampNeg (r1)) = u11 := e11
              try rw [e11] at hf_231
              have hk11 : okR tg (bg + 1) u11 := e11 ▸ (okX11_go hc (fun h => absurd h (by decide)) hok)
              refine lv_goto (tgt := 334) hx hb dX11_enter_242 (by decide) ?_
              refine lv_iconst (v := 0) hx hb dX11_enter_334 (by decide) ?_
              exact gx_iret hx hb hr rfl hlocks hK hf_231 hW hS dX11_enter_335
            · have hf_231 := hf_185.trans (if_neg c_231)
              refine lv_iconst (v := 4) hx hb dX11_enter_234 (by decide) ?_
              refine lv_goto (tgt := 239) hx hb dX11_enter_235 (by decide) ?_
              refine gx_v (rest := []) ⟨hx, hb, hml, hown, hts⟩ (mX11_go l E rr (sR x 40 p1.toNatClampNeg (r1)) p1 4 hc) (cwV 2 hts gX11_enter_X11_go rfl rfl rfl (by decide +kernel) ⟨Nat.le_of_ble_eq_true rfl, Nat.le_of_ble_eq_true rfl⟩) hW hK (fx_recv hK (rwc_0 hW) rfl) rfl hl.1 rfl (Nat.le_of_ble_eq_true rfl) dX11_enter_239 ⟨Nat.le_of_ble_eq_true rfl, Nat.le_of_ble_eq_true rfl⟩ hS (fun _ h => h) (fun u12 H locs e12 hW hS => ?_)
              have e12 : fX11_go p1 4 (sR x 40 p1.toNatClampNeg (r1)) = u12 := e12
              try rw [e12] at hf_231
              have hk12 : okR tg (bg + 1) u12 := e12 ▸ (okX11_go hc (fun h => absurd h (by decide)) hok)
              refine lv_goto (tgt := 334) hx hb dX11_enter_242 (by decide) ?_
              refine lv_iconst (v := 0) hx hb dX11_enter_334 (by decide) ?_
              exact gx_iret hx hb hr rfl hlocks hK hf_231 hW hS dX11_enter_335
          · have hf_185 := hf_163.trans (if_pos c_185)
            exact J188 _ _ _ x r1 hW hS (lv_sub hl [2, 3, 1] rfl) hok hf_185
      have hn_45_3 := hn_45_2.trans (if_neg c_45_3)
      refine lv_tableOut (tgt := 245) hx hb dX11_enter_45 (by have e1 := sw_ne (k := 1) 1 rfl c_45_1; have e2 := sw_ne (k := 2) 2 rfl c_45_2; have e3 := sw_ne (k := 3) 3 rfl c_45_3; omega) (by decide) ?_
      refine lv_aload_n hx hb dX11_enter_245 rfl (lv_at hl 2 rfl) ?_
      refine lv_iload_n hx hb dX11_enter_246 rfl (lv_at hl 3 rfl) ?_
      refine lv_bipush (v := 6) hx hb dX11_enter_247 (by decide) ?_
      refine gx_v (rest := []) ⟨hx, hb, hml, hown, hts⟩ (mX11_go l E rr x p1 6 hc) (cwV 2 hts gX11_enter_X11_go rfl rfl rfl (by decide +kernel) ⟨Nat.le_of_ble_eq_true rfl, Nat.le_of_ble_eq_true rfl⟩) hW hK (fx_recv hK (rwc_0 hW) rfl) rfl hl.1 rfl (Nat.le_of_ble_eq_true rfl) dX11_enter_249 ⟨Nat.le_of_ble_eq_true rfl, Nat.le_of_ble_eq_true rfl⟩ hS (fun _ h => h) (fun u13 H locs e13 hW hS => ?_)
      have e13 : fX11_go p1 6 x = u13 := e13
      try rw [e13] at hn_45_3
      refine lv_aload_n hx hb dX11_enter_252 rfl (lv_at hl 2 rfl) ?_
      refine fx_get (ci := 11) (v := .ref (rr + 15)) hx hb hts i11 hown hK (rwc_0 hW) rfl 15 (by decide) kl53 rfl dX11_enter_253 ?_
      refine lv_iload_n hx hb dX11_enter_256 rfl (lv_at hl 3 rfl) ?_
      refine lv_iload_n hx hb dX11_enter_257 rfl (lv_at hl 0 rfl) ?_
      refine fx_ist hx hb hK 0 (rwc_15 hW) (rA_o (o := 15) (by decide)) hS rfl hc dX11_enter_258 (fun H locs hat hne hS => ?_)
      have hW : rw_ E rr (sR u13 15 p1.toNatClampNeg (x.1 38 p1.toNatClampNeg)) H := rws_15 (k := p1.toNatClampNeg) (v := x.1 38 p1.toNatClampNeg) hW hat hne
      refine lv_aload_n hx hb dX11_enter_259 rfl (lv_at hl 2 rfl) ?_
      refine fx_get (ci := 11) (v := .ref (rr + 16)) hx hb hts i11 hown hK (rwc_0 hW) rfl 16 (by decide) kl56 rfl dX11_enter_260 ?_
      refine lv_iload_n hx hb dX11_enter_263 rfl (lv_at hl 3 rfl) ?_
      refine lv_aload_n hx hb dX11_enter_264 rfl (lv_at hl 2 rfl) ?_
      refine lv_iload_n hx hb dX11_enter_265 rfl (lv_at hl 0 rfl) ?_
      refine lv_aload_n hx hb dX11_enter_266 rfl (lv_at hl 2 rfl) ?_
      refine fx_get (ci := 11) (v := .ref (rr + 40)) hx hb hts i11 hown hK (rwc_0 hW) rfl 40 (by decide) kl128 rfl dX11_enter_267 ?_
      refine lv_iload_n hx hb dX11_enter_270 rfl (lv_at hl 3 rfl) ?_
      refine fx_ild hx hb hK 0 (rwc_40 hW) rfl hc dX11_enter_271 ?_
      refine lv_aload_n hx hb dX11_enter_272 rfl (lv_at hl 2 rfl) ?_
      refine fx_get (ci := 11) (v := .ref (rr + 39)) hx hb hts i11 hown hK (rwc_0 hW) rfl 39 (by decide) kl125 rfl dX11_enter_273 ?_
      refine lv_iload_n hx hb dX11_enter_276 rfl (lv_at hl 3 rfl) ?_
      refine fx_ild hx hb hK 0 (rwc_39 hW) rfl hc dX11_enter_277 ?_
      refine gx_l (rest := [.int (p1), .ref (rr + 16)]) ⟨hx, hb, hml, hown, hts⟩ (mX11_rateOf l E rr (sR u13 15 p1.toNatClampNeg (x.1 38 p1.toNatClampNeg)) (x.1 38 p1.toNatClampNeg) (u13.1 40 p1.toNatClampNeg) (u13.1 39 p1.toNatClampNeg) (hok.2.2.1 _ (vi_lt hc)) (show okS u13 from e13 ▸ (okS_go (p1 := p1) (p2 := 6) (x := x) hs))) (cwV 3 hts gX11_enter_X11_rateOf rfl rfl rfl (by decide +kernel) ⟨Nat.le_of_ble_eq_true rfl, Nat.le_of_ble_eq_true rfl⟩) hW hK (fx_recv hK (rwc_0 hW) rfl) rfl hl.1 rfl (Nat.le_of_ble_eq_true rfl) dX11_enter_278 ⟨Nat.le_of_ble_eq_true rfl, Nat.le_of_ble_eq_true rfl⟩ hS (fun _ h => h) (fun _ r14 H locs _ e14 hW hS => ?_)
      have e14 : fX11_rateOf (x.1 38 p1.toNatClampNeg) (u13.1 40 p1.toNatClampNeg) (u13.1 39 p1.toNatClampNeg) (sR u13 15 p1.toNatClampNeg (x.1 38 p1.toNatClampNeg)) = r14 := e14
      try rw [e14] at hn_45_3
      refine lv_l2i (v := r14.toInt32) hx hb dX11_enter_281 rfl ?_
      refine fx_ist hx hb hK 0 (rwc_16 hW) (rA_o (o := 16) (by decide)) hS rfl hc dX11_enter_282 (fun H locs hat hne hS => ?_)
      have hW : rw_ E rr (sR (sR u13 15 p1.toNatClampNeg (x.1 38 p1.toNatClampNeg)) 16 p1.toNatClampNeg (r14.toInt32)) H := rws_16 (k := p1.toNatClampNeg) (v := r14.toInt32) hW hat hne
      refine lv_aload_n hx hb dX11_enter_283 rfl (lv_at hl 2 rfl) ?_
      refine fx_get (ci := 11) (v := .ref (rr + 17)) hx hb hts i11 hown hK (rwc_0 hW) rfl 17 (by decide) kl59 rfl dX11_enter_284 ?_
      refine lv_iload_n hx hb dX11_enter_287 rfl (lv_at hl 3 rfl) ?_
      refine lv_iload_n hx hb dX11_enter_288 rfl (lv_at hl 1 rfl) ?_
      refine lv_if_ne (tgt := 296) hx hb dX11_enter_289 (by decide) (fun c_289 => ?_) (fun c_289 => ?_)
      · have hf_289 := hn_45_3.trans (if_neg c_289)
        refine lv_bipush (v := 10) hx hb dX11_enter_296 (by decide) ?_
        refine lv_iload_n hx hb dX11_enter_298 rfl (lv_at hl 1 rfl) ?_
        refine lv_imul hx hb dX11_enter_299 ?_
        exact J300 _ _ _ (sR (sR u13 15 p1.toNatClampNeg (x.1 38 p1.toNatClampNeg)) 16 p1.toNatClampNeg (r14.toInt32)) ((10 : Int32) * r1) hW hS (lv_sub hl [2, 3] rfl) (okR_sR rfl (by rw [← e13]; exact okR_ready hc (hok.2.2.1 _ (vi_lt hc)) hok)) hf_289
      · have hf_289 := hn_45_3.trans (if_pos c_289)
        refine lv_iconst (v := -1) hx hb dX11_enter_292 (by decide) ?_
        refine lv_goto (tgt := 300) hx hb dX11_enter_293 (by decide) ?_
        exact J300 _ _ _ (sR (sR u13 15 p1.toNatClampNeg (x.1 38 p1.toNatClampNeg)) 16 p1.toNatClampNeg (r14.toInt32)) (-1) hW hS (lv_sub hl [2, 3] rfl) (okR_sR rfl (by rw [← e13]; exact okR_ready hc (hok.2.2.1 _ (vi_lt hc)) hok)) hf_289
    · have hf_21 := hf_6.trans (if_pos c_21)
      refine lv_iconst (v := -1) hx hb dX11_enter_24 (by decide) ?_
      exact gx_iret hx hb hr rfl hlocks hK hf_21 hW hS dX11_enter_25
theorem okX11_enter_J300 {tg bg : Nat} {p1 : Int32} {y : RS} {w0 : Int32} (hc : vp_in p1 3) (hok : okR tg (bg + 1) y) : okR tg bg (fX11_enter_J300 p1 y w0).1 := by unfold fX11_enter_J300; exact (okX11_note (okR_sR rfl (okR_sR rfl (okR_sR rfl (okR_sR rfl hok)))))
theorem okX11_enter_J188 {tg bg : Nat} {p1 : Int32} {y : RS} {v2 : Int32} (hc : vp_in p1 3) (hok : okR tg (bg + 1) y) : okR tg bg (fX11_enter_J188 p1 y v2).1 := by unfold fX11_enter_J188; exact (okX11_clear (okX11_note hok))
theorem okX11_enter {tg bg : Nat} {p1 : Int32} {x : RS} (hc : vp_in p1 3) (hok : okR tg (bg + 1) x) : okR tg bg (fX11_enter p1 x).1 := by unfold fX11_enter; exact (okR_ite1 (fun c_6 => (okR_le (k := 1) hok)) (fun c_6 => (okR_ite1 (fun c_21 => (okR_le (k := 1) hok)) (fun c_21 => (okR_ite1 (fun c_45_1 => (okR_ite1 (fun c_77 => (okR_le (k := 1) hok)) (fun c_77 => (okR_ite1 (fun c_98 => (okR_le (k := 1) (okX11_go hc (fun h => absurd h (by decide)) (okR_s38 (isdrug_in c_77) hok)))) (fun c_98 => (okR_le (k := 1) (okX11_go hc (fun h => absurd h (by decide)) (okR_s38 (isdrug_in c_77) hok)))))))) (fun c_45_1 => (okR_ite1 (fun c_45_2 => (okR_ite1 (fun c_123 => (okR_le (k := 1) hok)) (fun c_123 => (okR_le (k := 1) (okX11_go hc (fun h => absurd h (by decide)) (okR_sR rfl hok)))))) (fun c_45_2 => (okR_ite1 (fun c_45_3 => (okR_ite1 (fun c_163 => (okX11_enter_J188 hc hok)) (fun c_163 => (okR_ite1 (fun c_185 => (okX11_enter_J188 hc hok)) (fun c_185 => (okR_ite1 (fun c_231 => (okR_le (k := 1) (okX11_go hc (fun h => absurd h (by decide)) (okR_sR rfl hok)))) (fun c_231 => (okR_le (k := 1) (okX11_go hc (fun h => absurd h (by decide)) (okR_sR rfl hok)))))))))) (fun c_45_3 => (okR_ite1 (fun c_289 => (okX11_enter_J300 hc (okR_sR rfl (okR_ready hc (hok.2.2.1 _ (vi_lt hc)) hok)))) (fun c_289 => (okX11_enter_J300 hc (okR_sR rfl (okR_ready hc (hok.2.2.1 _ (vi_lt hc)) hok)))))))))))))))
