/-! the reference: leaves -/
def fX11_least (p1 : Int32) (p2 : Int32) (x : RS) : Int32 := if p2 ≤ p1 then (p2) else (p1)
set_option maxHeartbeats 4000000 in
set_option maxRecDepth 100000 in
theorem mX11_least (l : Launch) (E : eE) (rr : Nat) (x : RS) (p1 : Int32) (p2 : Int32) : Met l yX11_least wsX11_least ({ frames := 0, cells := 0, slots := 0, locals := 0 }) (gPre E (rw_ E rr x) [.int (p1), .int (p2)]) (gQi E (fun _ : Unit => rw_ E rr x) ((), fX11_least p1 p2 x) (rA rr)) 0 0 (rA rr) := by
  refine Met.ofW (cc := cX11_least) (maxL := 2) (ret := (some .int)) (by decide) rfl ?_
  intro p e s m args below meth c s₁ B hml hv
  obtain ⟨rfl, hW, hK⟩ := hv
  have hx := B.exec
  have hb := B.bytes
  have hr := B.returns
  have hts := atoms_spec (ws := wsX11_least) B.pre
  have hown : s.vm.findClass RX11 = some m.cls := findClass_of_methodNamed B.named
  have hlocks := B.notSynchronized
  have hS : va_S (rA rr) s.heap s.heap [] := va_S.rf
  have hl := lv_entry ([.int (p1), .int (p2)]) (n := 2) (Nat.le_of_ble_eq_true rfl)
  rw [lg_entry_eq]
  generalize (lg_sl ([.int (p1), .int (p2)]) ++ List.replicate (2 - (lg_sl ([.int (p1), .int (p2)])).length) Slot.unset).toArray = ls at hl ⊢
  have hl : lv_has ls 2 [(0, .int (p1)), (1, .int (p2))] := hl
  have hf : fX11_least p1 p2 x = (if p2 ≤ p1 then (p2) else (p1)) := rfl
  refine lv_iload_n hx hb dX11_least_0 rfl (lv_at hl 0 rfl) ?_
  refine lv_iload_n hx hb dX11_least_1 rfl (lv_at hl 1 rfl) ?_
  refine lv_icmp_ge (tgt := 9) hx hb dX11_least_2 (by decide) (fun c_2 => ?_) (fun c_2 => ?_)
  · have hf_2 := hf.trans (if_pos c_2)
    refine lv_iload_n hx hb dX11_least_9 rfl (lv_at hl 1 rfl) ?_
    exact gx_iret hx hb hr rfl hlocks hK (congrArg (Prod.mk ()) hf_2) (u := ()) (v := p2) hW hS dX11_least_10
  · have hf_2 := hf.trans (if_neg c_2)
    refine lv_iload_n hx hb dX11_least_5 rfl (lv_at hl 0 rfl) ?_
    refine lv_goto (tgt := 10) hx hb dX11_least_6 (by decide) ?_
    exact gx_iret hx hb hr rfl hlocks hK (congrArg (Prod.mk ()) hf_2) (u := ()) (v := p1) hW hS dX11_least_10

def fX11_most (p1 : Int32) (p2 : Int32) (x : RS) : Int32 := if p1 ≤ p2 then (p2) else (p1)
set_option maxHeartbeats 4000000 in
set_option maxRecDepth 100000 in
theorem mX11_most (l : Launch) (E : eE) (rr : Nat) (x : RS) (p1 : Int32) (p2 : Int32) : Met l yX11_most wsX11_most ({ frames := 0, cells := 0, slots := 0, locals := 0 }) (gPre E (rw_ E rr x) [.int (p1), .int (p2)]) (gQi E (fun _ : Unit => rw_ E rr x) ((), fX11_most p1 p2 x) (rA rr)) 0 0 (rA rr) := by
  refine Met.ofW (cc := cX11_most) (maxL := 2) (ret := (some .int)) (by decide) rfl ?_
  intro p e s m args below meth c s₁ B hml hv
  obtain ⟨rfl, hW, hK⟩ := hv
  have hx := B.exec
  have hb := B.bytes
  have hr := B.returns
  have hts := atoms_spec (ws := wsX11_most) B.pre
  have hown : s.vm.findClass RX11 = some m.cls := findClass_of_methodNamed B.named
  have hlocks := B.notSynchronized
  have hS : va_S (rA rr) s.heap s.heap [] := va_S.rf
  have hl := lv_entry ([.int (p1), .int (p2)]) (n := 2) (Nat.le_of_ble_eq_true rfl)
  rw [lg_entry_eq]
  generalize (lg_sl ([.int (p1), .int (p2)]) ++ List.replicate (2 - (lg_sl ([.int (p1), .int (p2)])).length) Slot.unset).toArray = ls at hl ⊢
  have hl : lv_has ls 2 [(0, .int (p1)), (1, .int (p2))] := hl
  have hf : fX11_most p1 p2 x = (if p1 ≤ p2 then (p2) else (p1)) := rfl
  refine lv_iload_n hx hb dX11_most_0 rfl (lv_at hl 0 rfl) ?_
  refine lv_iload_n hx hb dX11_most_1 rfl (lv_at hl 1 rfl) ?_
  refine lv_icmp_le (tgt := 9) hx hb dX11_most_2 (by decide) (fun c_2 => ?_) (fun c_2 => ?_)
  · have hf_2 := hf.trans (if_pos c_2)
    refine lv_iload_n hx hb dX11_most_9 rfl (lv_at hl 1 rfl) ?_
    exact gx_iret hx hb hr rfl hlocks hK (congrArg (Prod.mk ()) hf_2) (u := ()) (v := p2) hW hS dX11_most_10
  · have hf_2 := hf.trans (if_neg c_2)
    refine lv_iload_n hx hb dX11_most_5 rfl (lv_at hl 0 rfl) ?_
    refine lv_goto (tgt := 10) hx hb dX11_most_6 (by decide) ?_
    exact gx_iret hx hb hr rfl hlocks hK (congrArg (Prod.mk ()) hf_2) (u := ()) (v := p1) hW hS dX11_most_10

def fX11_thrown (x : RS) : Int32 := x.1 0 0
set_option maxHeartbeats 4000000 in
set_option maxRecDepth 100000 in
theorem mX11_thrown (l : Launch) (E : eE) (rr : Nat) (x : RS) : Met l yX11_thrown wsX11_thrown ({ frames := 0, cells := 0, slots := 0, locals := 0 }) (gPre E (rw_ E rr x) [.ref (rr + 0)]) (gQi E (fun _ : Unit => rw_ E rr x) ((), fX11_thrown x) (rA rr)) 0 0 (rA rr) := by
  refine Met.ofW (cc := cX11_thrown) (maxL := 1) (ret := (some .int)) (by decide) rfl ?_
  intro p e s m args below meth c s₁ B hml hv
  obtain ⟨rfl, hW, hK⟩ := hv
  have hx := B.exec
  have hb := B.bytes
  have hr := B.returns
  have hts := atoms_spec (ws := wsX11_thrown) B.pre
  have hown : s.vm.findClass RX11 = some m.cls := findClass_of_methodNamed B.named
  have hlocks := B.notSynchronized
  have i11 : ∀ w ∈ wsX110, w ∈ wsX11_thrown := by decide +kernel
  have kl159 := hts (.fieldLink RX11 159 "DosePumpModel" "thrown" "I") (by decide +kernel)
  have hS : va_S (rA rr) s.heap s.heap [] := va_S.rf
  have hl := lv_entry ([.ref (rr + 0)]) (n := 1) (Nat.le_of_ble_eq_true rfl)
  rw [lg_entry_eq]
  generalize (lg_sl ([.ref (rr + 0)]) ++ List.replicate (1 - (lg_sl ([.ref (rr + 0)])).length) Slot.unset).toArray = ls at hl ⊢
  have hl : lv_has ls 1 [(0, .ref (rr + 0))] := hl
  have hf : fX11_thrown x = (x.1 0 0) := rfl
  refine lv_aload_n hx hb dX11_thrown_0 rfl (lv_at hl 0 rfl) ?_
  refine fx_get (ci := 11) (v := .int (x.1 0 0)) hx hb hts i11 hown hK (rwc_0 hW) rfl 0 (by decide) kl159 rfl dX11_thrown_1 ?_
  exact gx_iret hx hb hr rfl hlocks hK (congrArg (Prod.mk ()) hf) (u := ()) (v := x.1 0 0) hW hS dX11_thrown_4

def fX11_isIn (q1 : Int64) (q2 : Int64) (q3 : Int64) (x : RS) : Int32 := if (lg_cmp q1 q2) < 0 then (0) else (if (0 : Int32) < (lg_cmp q1 q3) then (0) else (1))
set_option maxHeartbeats 4000000 in
set_option maxRecDepth 100000 in
theorem mX11_isIn (l : Launch) (E : eE) (rr : Nat) (x : RS) (q1 : Int64) (q2 : Int64) (q3 : Int64) : Met l yX11_isIn wsX11_isIn ({ frames := 0, cells := 0, slots := 0, locals := 0 }) (gPre E (rw_ E rr x) [.long (q1), .long (q2), .long (q3)]) (gQi E (fun _ : Unit => rw_ E rr x) ((), fX11_isIn q1 q2 q3 x) (rA rr)) 0 0 (rA rr) := by
  refine Met.ofW (cc := cX11_isIn) (maxL := 6) (ret := (some .boolean)) (by decide) rfl ?_
  intro p e s m args below meth c s₁ B hml hv
  obtain ⟨rfl, hW, hK⟩ := hv
  have hx := B.exec
  have hb := B.bytes
  have hr := B.returns
  have hts := atoms_spec (ws := wsX11_isIn) B.pre
  have hown : s.vm.findClass RX11 = some m.cls := findClass_of_methodNamed B.named
  have hlocks := B.notSynchronized
  have hS : va_S (rA rr) s.heap s.heap [] := va_S.rf
  have hl := lv_entry ([.long (q1), .long (q2), .long (q3)]) (n := 6) (Nat.le_of_ble_eq_true rfl)
  rw [lg_entry_eq]
  generalize (lg_sl ([.long (q1), .long (q2), .long (q3)]) ++ List.replicate (6 - (lg_sl ([.long (q1), .long (q2), .long (q3)])).length) Slot.unset).toArray = ls at hl ⊢
  have hl : lv_has ls 6 [(0, .long (q1)), (2, .long (q2)), (4, .long (q3))] := hl
  have hf : fX11_isIn q1 q2 q3 x = (if (lg_cmp q1 q2) < 0 then (0) else (if (0 : Int32) < (lg_cmp q1 q3) then (0) else (1))) := rfl
  refine lv_lload_n hx hb dX11_isIn_0 rfl (lv_at hl 0 rfl) ?_
  refine lv_lload_n hx hb dX11_isIn_1 rfl (lv_at hl 1 rfl) ?_
  refine W.lcmp hx hb dX11_isIn_2 ?_
  refine lv_if_lt (tgt := 17) hx hb dX11_isIn_3 (by decide) (fun c_3 => ?_) (fun c_3 => ?_)
  · have hf_3 := hf.trans (if_pos c_3)
    refine lv_iconst (v := 0) hx hb dX11_isIn_17 (by decide) ?_
    exact gx_iret hx hb hr (by decide) hlocks hK (congrArg (Prod.mk ()) hf_3) (u := ()) (v := 0) hW hS dX11_isIn_18
  · have hf_3 := hf.trans (if_neg c_3)
    refine lv_lload_n hx hb dX11_isIn_6 rfl (lv_at hl 0 rfl) ?_
    refine lv_lload hx hb dX11_isIn_7 (lv_at hl 2 rfl) ?_
    refine W.lcmp hx hb dX11_isIn_9 ?_
    refine lv_if_gt (tgt := 17) hx hb dX11_isIn_10 (by decide) (fun c_10 => ?_) (fun c_10 => ?_)
    · have hf_10 := hf_3.trans (if_pos c_10)
      refine lv_iconst (v := 0) hx hb dX11_isIn_17 (by decide) ?_
      exact gx_iret hx hb hr (by decide) hlocks hK (congrArg (Prod.mk ()) hf_10) (u := ()) (v := 0) hW hS dX11_isIn_18
    · have hf_10 := hf_3.trans (if_neg c_10)
      refine lv_iconst (v := 1) hx hb dX11_isIn_13 (by decide) ?_
      refine lv_goto (tgt := 18) hx hb dX11_isIn_14 (by decide) ?_
      exact gx_iret hx hb hr (by decide) hlocks hK (congrArg (Prod.mk ()) hf_10) (u := ()) (v := 1) hW hS dX11_isIn_18

def fX11_link (p1 : Int32) (x : RS) : RS := (sM x ((((x.2 * 31) + p1.toInt64) <<< ((7 : Int32).toInt64 &&& 63)) ||| ((((x.2 * 31) + p1.toInt64).toUInt64 >>> ((57 : Int32).toInt64.toUInt64 &&& Int64.toUInt64 63)).toInt64)))
set_option maxHeartbeats 4000000 in
set_option maxRecDepth 100000 in
theorem mX11_link (l : Launch) (E : eE) (rr : Nat) (x : RS) (p1 : Int32) : Met l yX11_link wsX11_link ({ frames := 0, cells := 0, slots := 0, locals := 0 }) (gPre E (rw_ E rr x) [.ref (rr + 0), .int (p1)]) (gQv E (rw_ E rr) (fX11_link p1 x) (rA rr)) 0 0 (rA rr) := by
  refine Met.ofW (cc := cX11_link) (maxL := 4) (ret := none) (by decide) rfl ?_
  intro p e s m args below meth c s₁ B hml hv
  obtain ⟨rfl, hW, hK⟩ := hv
  have hx := B.exec
  have hb := B.bytes
  have hr := B.returns
  have hts := atoms_spec (ws := wsX11_link) B.pre
  have hown : s.vm.findClass RX11 = some m.cls := findClass_of_methodNamed B.named
  have hlocks := B.notSynchronized
  have i11 : ∀ w ∈ wsX110, w ∈ wsX11_link := by decide +kernel
  have kl155 := hts (.fieldLink RX11 155 "DosePumpModel" "chain" "J") (by decide +kernel)
  have hS : va_S (rA rr) s.heap s.heap [] := va_S.rf
  have hl := lv_entry ([.ref (rr + 0), .int (p1)]) (n := 4) (Nat.le_of_ble_eq_true rfl)
  rw [lg_entry_eq]
  generalize (lg_sl ([.ref (rr + 0), .int (p1)]) ++ List.replicate (4 - (lg_sl ([.ref (rr + 0), .int (p1)])).length) Slot.unset).toArray = ls at hl ⊢
  have hl : lv_has ls 4 [(0, .ref (rr + 0)), (1, .int (p1))] := hl
  have hf : fX11_link p1 x = ((sM x ((((x.2 * 31) + p1.toInt64) <<< ((7 : Int32).toInt64 &&& 63)) ||| ((((x.2 * 31) + p1.toInt64).toUInt64 >>> ((57 : Int32).toInt64.toUInt64 &&& Int64.toUInt64 63)).toInt64)))) := rfl
  refine lv_aload_n hx hb dX11_link_0 rfl (lv_at hl 0 rfl) ?_
  refine fx_get (ci := 11) (v := .long (x.2)) hx hb hts i11 hown hK (rwc_0 hW) rfl 52 (by decide) kl155 rfl dX11_link_1 ?_
  refine lv_ldc2 hx hb hown (hts (.constantLong RX11 162 (31)) (by decide +kernel)) dX11_link_4 ?_
  refine lv_lmul hx hb dX11_link_7 ?_
  refine lv_iload_n hx hb dX11_link_8 rfl (lv_at hl 1 rfl) ?_
  refine lv_i2l (v := p1.toInt64) hx hb dX11_link_9 rfl ?_
  refine lv_ladd hx hb dX11_link_10 ?_
  refine lv_lstore_n (lv' := [(2, .long ((x.2 * 31) + p1.toInt64)), (0, .ref (rr + 0)), (1, .int (p1))]) hx hb dX11_link_11 rfl hl (by decide) rfl (fun ls hl => ?_)
  refine lv_aload_n hx hb dX11_link_12 rfl (lv_at hl 1 rfl) ?_
  refine lv_lload_n hx hb dX11_link_13 rfl (lv_at hl 0 rfl) ?_
  refine lv_bipush (v := 7) hx hb dX11_link_14 (by decide) ?_
  refine lv_lshl (v := ((x.2 * 31) + p1.toInt64) <<< ((7 : Int32).toInt64 &&& 63)) hx hb dX11_link_16 rfl ?_
  refine lv_lload_n hx hb dX11_link_17 rfl (lv_at hl 0 rfl) ?_
  refine lv_bipush (v := 57) hx hb dX11_link_18 (by decide) ?_
  refine lv_lushr (v := (((x.2 * 31) + p1.toInt64).toUInt64 >>> ((57 : Int32).toInt64.toUInt64 &&& Int64.toUInt64 63)).toInt64) hx hb dX11_link_20 rfl ?_
  refine lv_lor hx hb dX11_link_21 ?_
  refine fx_put (ci := 11) (v := .long ((((x.2 * 31) + p1.toInt64) <<< ((7 : Int32).toInt64 &&& 63)) ||| ((((x.2 * 31) + p1.toInt64).toUInt64 >>> ((57 : Int32).toInt64.toUInt64 &&& Int64.toUInt64 63)).toInt64))) hx hb hts i11 tyX11_ok nmX11 hown hK (rwc_0 hW) (rA_o (o := 0) (by decide)) hS rfl 52 (by decide) kl155 rfl rfl rfl (Nat.le_of_ble_eq_true rfl) dX11_link_22 (fun H locs hat hne hS => ?_)
  have hW : rw_ E rr (sM x ((((x.2 * 31) + p1.toInt64) <<< ((7 : Int32).toInt64 &&& 63)) ||| ((((x.2 * 31) + p1.toInt64).toUInt64 >>> ((57 : Int32).toInt64.toUInt64 &&& Int64.toUInt64 63)).toInt64))) H := rwf_52 hW hat hne
  exact gx_vret hx hb hr hlocks hK hf hW hS dX11_link_25

def fX11_isEntry (p1 : Int32) (x : RS) : Int32 := if (x.1 13 p1.toNatClampNeg) < 1 then (0) else (if (5 : Int32) < (x.1 13 p1.toNatClampNeg) then (0) else (1))
set_option maxHeartbeats 4000000 in
set_option maxRecDepth 100000 in
theorem mX11_isEntry (l : Launch) (E : eE) (rr : Nat) (x : RS) (p1 : Int32) (hc : vp_in p1 3) : Met l yX11_isEntry wsX11_isEntry ({ frames := 0, cells := 0, slots := 0, locals := 0 }) (gPre E (rw_ E rr x) [.ref (rr + 0), .int (p1)]) (gQi E (fun _ : Unit => rw_ E rr x) ((), fX11_isEntry p1 x) (rA rr)) 0 0 (rA rr) := by
  refine Met.ofW (cc := cX11_isEntry) (maxL := 2) (ret := (some .boolean)) (by decide) rfl ?_
  intro p e s m args below meth c s₁ B hml hv
  obtain ⟨rfl, hW, hK⟩ := hv
  have hx := B.exec
  have hb := B.bytes
  have hr := B.returns
  have hts := atoms_spec (ws := wsX11_isEntry) B.pre
  have hown : s.vm.findClass RX11 = some m.cls := findClass_of_methodNamed B.named
  have hlocks := B.notSynchronized
  have i11 : ∀ w ∈ wsX110, w ∈ wsX11_isEntry := by decide +kernel
  have kl47 := hts (.fieldLink RX11 47 "DosePumpModel" "phase" "[I") (by decide +kernel)
  have hS : va_S (rA rr) s.heap s.heap [] := va_S.rf
  have hl := lv_entry ([.ref (rr + 0), .int (p1)]) (n := 2) (Nat.le_of_ble_eq_true rfl)
  rw [lg_entry_eq]
  generalize (lg_sl ([.ref (rr + 0), .int (p1)]) ++ List.replicate (2 - (lg_sl ([.ref (rr + 0), .int (p1)])).length) Slot.unset).toArray = ls at hl ⊢
  have hl : lv_has ls 2 [(0, .ref (rr + 0)), (1, .int (p1))] := hl
  have hf : fX11_isEntry p1 x = (if (x.1 13 p1.toNatClampNeg) < 1 then (0) else (if (5 : Int32) < (x.1 13 p1.toNatClampNeg) then (0) else (1))) := rfl
  refine lv_aload_n hx hb dX11_isEntry_0 rfl (lv_at hl 0 rfl) ?_
  refine fx_get (ci := 11) (v := .ref (rr + 13)) hx hb hts i11 hown hK (rwc_0 hW) rfl 13 (by decide) kl47 rfl dX11_isEntry_1 ?_
  refine lv_iload_n hx hb dX11_isEntry_4 rfl (lv_at hl 1 rfl) ?_
  refine fx_ild hx hb hK 0 (rwc_13 hW) rfl hc dX11_isEntry_5 ?_
  refine lv_iconst (v := 1) hx hb dX11_isEntry_6 (by decide) ?_
  refine lv_icmp_lt (tgt := 24) hx hb dX11_isEntry_7 (by decide) (fun c_7 => ?_) (fun c_7 => ?_)
  · have hf_7 := hf.trans (if_pos c_7)
    refine lv_iconst (v := 0) hx hb dX11_isEntry_24 (by decide) ?_
    exact gx_iret hx hb hr (by decide) hlocks hK (congrArg (Prod.mk ()) hf_7) (u := ()) (v := 0) hW hS dX11_isEntry_25
  · have hf_7 := hf.trans (if_neg c_7)
    refine lv_aload_n hx hb dX11_isEntry_10 rfl (lv_at hl 0 rfl) ?_
    refine fx_get (ci := 11) (v := .ref (rr + 13)) hx hb hts i11 hown hK (rwc_0 hW) rfl 13 (by decide) kl47 rfl dX11_isEntry_11 ?_
    refine lv_iload_n hx hb dX11_isEntry_14 rfl (lv_at hl 1 rfl) ?_
    refine fx_ild hx hb hK 0 (rwc_13 hW) rfl hc dX11_isEntry_15 ?_
    refine lv_iconst (v := 5) hx hb dX11_isEntry_16 (by decide) ?_
    refine lv_icmp_gt (tgt := 24) hx hb dX11_isEntry_17 (by decide) (fun c_17 => ?_) (fun c_17 => ?_)
    · have hf_17 := hf_7.trans (if_pos c_17)
      refine lv_iconst (v := 0) hx hb dX11_isEntry_24 (by decide) ?_
      exact gx_iret hx hb hr (by decide) hlocks hK (congrArg (Prod.mk ()) hf_17) (u := ()) (v := 0) hW hS dX11_isEntry_25
    · have hf_17 := hf_7.trans (if_neg c_17)
      refine lv_iconst (v := 1) hx hb dX11_isEntry_20 (by decide) ?_
      refine lv_goto (tgt := 25) hx hb dX11_isEntry_21 (by decide) ?_
      exact gx_iret hx hb hr (by decide) hlocks hK (congrArg (Prod.mk ()) hf_17) (u := ()) (v := 1) hW hS dX11_isEntry_25

def fX11_clear (p1 : Int32) (x : RS) : RS := (sR (sR (sR x 41 p1.toNatClampNeg (0)) 42 p1.toNatClampNeg (0)) 43 p1.toNatClampNeg (-1))
set_option maxHeartbeats 4000000 in
set_option maxRecDepth 100000 in
theorem mX11_clear (l : Launch) (E : eE) (rr : Nat) (x : RS) (p1 : Int32) (hc : vp_in p1 3) : Met l yX11_clear wsX11_clear ({ frames := 0, cells := 0, slots := 0, locals := 0 }) (gPre E (rw_ E rr x) [.ref (rr + 0), .int (p1)]) (gQv E (rw_ E rr) (fX11_clear p1 x) (rA rr)) 0 0 (rA rr) := by
  refine Met.ofW (cc := cX11_clear) (maxL := 2) (ret := none) (by decide) rfl ?_
  intro p e s m args below meth c s₁ B hml hv
  obtain ⟨rfl, hW, hK⟩ := hv
  have hx := B.exec
  have hb := B.bytes
  have hr := B.returns
  have hts := atoms_spec (ws := wsX11_clear) B.pre
  have hown : s.vm.findClass RX11 = some m.cls := findClass_of_methodNamed B.named
  have hlocks := B.notSynchronized
  have i11 : ∀ w ∈ wsX110, w ∈ wsX11_clear := by decide +kernel
  have kl131 := hts (.fieldLink RX11 131 "DosePumpModel" "figures" "[I") (by decide +kernel)
  have kl134 := hts (.fieldLink RX11 134 "DosePumpModel" "digits" "[I") (by decide +kernel)
  have kl137 := hts (.fieldLink RX11 137 "DosePumpModel" "points" "[I") (by decide +kernel)
  have hS : va_S (rA rr) s.heap s.heap [] := va_S.rf
  have hl := lv_entry ([.ref (rr + 0), .int (p1)]) (n := 2) (Nat.le_of_ble_eq_true rfl)
  rw [lg_entry_eq]
  generalize (lg_sl ([.ref (rr + 0), .int (p1)]) ++ List.replicate (2 - (lg_sl ([.ref (rr + 0), .int (p1)])).length) Slot.unset).toArray = ls at hl ⊢
  have hl : lv_has ls 2 [(0, .ref (rr + 0)), (1, .int (p1))] := hl
  have hf : fX11_clear p1 x = ((sR (sR (sR x 41 p1.toNatClampNeg (0)) 42 p1.toNatClampNeg (0)) 43 p1.toNatClampNeg (-1))) := rfl
  refine lv_aload_n hx hb dX11_clear_0 rfl (lv_at hl 0 rfl) ?_
  refine fx_get (ci := 11) (v := .ref (rr + 41)) hx hb hts i11 hown hK (rwc_0 hW) rfl 41 (by decide) kl131 rfl dX11_clear_1 ?_
  refine lv_iload_n hx hb dX11_clear_4 rfl (lv_at hl 1 rfl) ?_
  refine lv_iconst (v := 0) hx hb dX11_clear_5 (by decide) ?_
  refine fx_ist hx hb hK 0 (rwc_41 hW) (rA_o (o := 41) (by decide)) hS rfl hc dX11_clear_6 (fun H locs hat hne hS => ?_)
  have hW : rw_ E rr (sR x 41 p1.toNatClampNeg (0)) H := rws_41 (k := p1.toNatClampNeg) (v := 0) hW hat hne
  refine lv_aload_n hx hb dX11_clear_7 rfl (lv_at hl 0 rfl) ?_
  refine fx_get (ci := 11) (v := .ref (rr + 42)) hx hb hts i11 hown hK (rwc_0 hW) rfl 42 (by decide) kl134 rfl dX11_clear_8 ?_
  refine lv_iload_n hx hb dX11_clear_11 rfl (lv_at hl 1 rfl) ?_
  refine lv_iconst (v := 0) hx hb dX11_clear_12 (by decide) ?_
  refine fx_ist hx hb hK 0 (rwc_42 hW) (rA_o (o := 42) (by decide)) hS rfl hc dX11_clear_13 (fun H locs hat hne hS => ?_)
  have hW : rw_ E rr (sR (sR x 41 p1.toNatClampNeg (0)) 42 p1.toNatClampNeg (0)) H := rws_42 (k := p1.toNatClampNeg) (v := 0) hW hat hne
  refine lv_aload_n hx hb dX11_clear_14 rfl (lv_at hl 0 rfl) ?_
  refine fx_get (ci := 11) (v := .ref (rr + 43)) hx hb hts i11 hown hK (rwc_0 hW) rfl 43 (by decide) kl137 rfl dX11_clear_15 ?_
  refine lv_iload_n hx hb dX11_clear_18 rfl (lv_at hl 1 rfl) ?_
  refine lv_iconst (v := -1) hx hb dX11_clear_19 (by decide) ?_
  refine fx_ist hx hb hK 0 (rwc_43 hW) (rA_o (o := 43) (by decide)) hS rfl hc dX11_clear_20 (fun H locs hat hne hS => ?_)
  have hW : rw_ E rr (sR (sR (sR x 41 p1.toNatClampNeg (0)) 42 p1.toNatClampNeg (0)) 43 p1.toNatClampNeg (-1)) H := rws_43 (k := p1.toNatClampNeg) (v := -1) hW hat hne
  exact gx_vret hx hb hr hlocks hK hf hW hS dX11_clear_21

def fX11_go (p1 : Int32) (p2 : Int32) (x : RS) : RS := (fX11_clear p1 (sR x 13 p1.toNatClampNeg (p2)))
set_option maxHeartbeats 4000000 in
set_option maxRecDepth 100000 in
theorem mX11_go (l : Launch) (E : eE) (rr : Nat) (x : RS) (p1 : Int32) (p2 : Int32) (hc : vp_in p1 3) : Met l yX11_go wsX11_go ({ frames := 1, cells := 0, slots := 0, locals := 21 }) (gPre E (rw_ E rr x) [.ref (rr + 0), .int (p1), .int (p2)]) (gQv E (rw_ E rr) (fX11_go p1 p2 x) (rA rr)) 0 0 (rA rr) := by
  refine Met.ofW (cc := cX11_go) (maxL := 3) (ret := none) (by decide) rfl ?_
  intro p e s m args below meth c s₁ B hml hv
  obtain ⟨rfl, hW, hK⟩ := hv
  have hx := B.exec
  have hb := B.bytes
  have hr := B.returns
  have hts := atoms_spec (ws := wsX11_go) B.pre
  have hown : s.vm.findClass RX11 = some m.cls := findClass_of_methodNamed B.named
  have hlocks := B.notSynchronized
  have i11 : ∀ w ∈ wsX110, w ∈ wsX11_go := by decide +kernel
  have kl47 := hts (.fieldLink RX11 47 "DosePumpModel" "phase" "[I") (by decide +kernel)
  have hS : va_S (rA rr) s.heap s.heap [] := va_S.rf
  have hl := lv_entry ([.ref (rr + 0), .int (p1), .int (p2)]) (n := 3) (Nat.le_of_ble_eq_true rfl)
  rw [lg_entry_eq]
  generalize (lg_sl ([.ref (rr + 0), .int (p1), .int (p2)]) ++ List.replicate (3 - (lg_sl ([.ref (rr + 0), .int (p1), .int (p2)])).length) Slot.unset).toArray = ls at hl ⊢
  have hl : lv_has ls 3 [(0, .ref (rr + 0)), (1, .int (p1)), (2, .int (p2))] := hl
  have hf : fX11_go p1 p2 x = ((fX11_clear p1 (sR x 13 p1.toNatClampNeg (p2)))) := rfl
  refine lv_aload_n hx hb dX11_go_0 rfl (lv_at hl 0 rfl) ?_
  refine fx_get (ci := 11) (v := .ref (rr + 13)) hx hb hts i11 hown hK (rwc_0 hW) rfl 13 (by decide) kl47 rfl dX11_go_1 ?_
  refine lv_iload_n hx hb dX11_go_4 rfl (lv_at hl 1 rfl) ?_
  refine lv_iload_n hx hb dX11_go_5 rfl (lv_at hl 2 rfl) ?_
  refine fx_ist hx hb hK 0 (rwc_13 hW) (rA_o (o := 13) (by decide)) hS rfl hc dX11_go_6 (fun H locs hat hne hS => ?_)
  have hW : rw_ E rr (sR x 13 p1.toNatClampNeg (p2)) H := rws_13 (k := p1.toNatClampNeg) (v := p2) hW hat hne
  refine lv_aload_n hx hb dX11_go_7 rfl (lv_at hl 0 rfl) ?_
  refine lv_iload_n hx hb dX11_go_8 rfl (lv_at hl 1 rfl) ?_
  refine gx_v (rest := []) ⟨hx, hb, hml, hown, hts⟩ (mX11_clear l E rr (sR x 13 p1.toNatClampNeg (p2)) p1 hc) (cwV 1 hts gX11_go_X11_clear rfl rfl rfl (by decide +kernel) ⟨Nat.le_of_ble_eq_true rfl, Nat.le_of_ble_eq_true rfl⟩) hW hK (fx_recv hK (rwc_0 hW) rfl) rfl hl.1 rfl (Nat.le_of_ble_eq_true rfl) dX11_go_9 ⟨Nat.le_of_ble_eq_true rfl, Nat.le_of_ble_eq_true rfl⟩ hS (fun _ h => h) (fun u1 H locs e1 hW hS => ?_)
  have e1 : fX11_clear p1 (sR x 13 p1.toNatClampNeg (p2)) = u1 := e1
  try rw [e1] at hf
  exact gx_vret hx hb hr hlocks hK hf hW hS dX11_go_12

def fX11_mayRun_J22 (p1 : Int32) (x : RS) : Int32 := if ((x.1 28 p1.toNatClampNeg) &&& 31) = 0 then (if (x.1 24 p1.toNatClampNeg) = 0 then (1) else (0)) else (0)
def fX11_mayRun (p1 : Int32) (x : RS) : Int32 := if (x.1 13 p1.toNatClampNeg) = 6 then (fX11_mayRun_J22 p1 x) else (if (x.1 13 p1.toNatClampNeg) = 8 then (fX11_mayRun_J22 p1 x) else (0))
set_option maxHeartbeats 4000000 in
set_option maxRecDepth 100000 in
theorem mX11_mayRun (l : Launch) (E : eE) (rr : Nat) (x : RS) (p1 : Int32) (hc : vp_in p1 3) : Met l yX11_mayRun wsX11_mayRun ({ frames := 0, cells := 0, slots := 0, locals := 0 }) (gPre E (rw_ E rr x) [.ref (rr + 0), .int (p1)]) (gQi E (fun _ : Unit => rw_ E rr x) ((), fX11_mayRun p1 x) (rA rr)) 0 0 (rA rr) := by
  refine Met.ofW (cc := cX11_mayRun) (maxL := 2) (ret := (some .boolean)) (by decide) rfl ?_
  intro p e s m args below meth c s₁ B hml hv
  obtain ⟨rfl, hW, hK⟩ := hv
  have hx := B.exec
  have hb := B.bytes
  have hr := B.returns
  have hts := atoms_spec (ws := wsX11_mayRun) B.pre
  have hown : s.vm.findClass RX11 = some m.cls := findClass_of_methodNamed B.named
  have hlocks := B.notSynchronized
  have i11 : ∀ w ∈ wsX110, w ∈ wsX11_mayRun := by decide +kernel
  have kl47 := hts (.fieldLink RX11 47 "DosePumpModel" "phase" "[I") (by decide +kernel)
  have kl80 := hts (.fieldLink RX11 80 "DosePumpModel" "open" "[Z") (by decide +kernel)
  have kl92 := hts (.fieldLink RX11 92 "DosePumpModel" "alarms" "[I") (by decide +kernel)
  have hS : va_S (rA rr) s.heap s.heap [] := va_S.rf
  have hl := lv_entry ([.ref (rr + 0), .int (p1)]) (n := 2) (Nat.le_of_ble_eq_true rfl)
  rw [lg_entry_eq]
  generalize (lg_sl ([.ref (rr + 0), .int (p1)]) ++ List.replicate (2 - (lg_sl ([.ref (rr + 0), .int (p1)])).length) Slot.unset).toArray = ls at hl ⊢
  have hl : lv_has ls 2 [(0, .ref (rr + 0)), (1, .int (p1))] := hl
  have J22 : ∀ (H : Heap) (locs : List Loc) (ls : Array Slot), rw_ E rr x H → va_S (rA rr) s.heap H locs → lv_has ls 2 [(0, .ref (rr + 0)), (1, .int (p1))] → fX11_mayRun p1 x = fX11_mayRun_J22 p1 x → W p l e (headSpec wsX11_mayRun { frames := 0, cells := 0, slots := 0, locals := 0 }).room s m ([.ref (rr + 0), .int (p1)] : List Value).toArray below meth c H locs 0 0 (MQ below (gQi E (fun _ : Unit => rw_ E rr x) ((), fX11_mayRun p1 x) (rA rr)) ([.ref (rr + 0), .int (p1)] : List Value).toArray s 0 0 (rA rr)) (F0 m 22 ls []) := by
    intro H locs ls hW hS hl hf
    replace hf : fX11_mayRun p1 x = (if ((x.1 28 p1.toNatClampNeg) &&& 31) = 0 then (if (x.1 24 p1.toNatClampNeg) = 0 then (1) else (0)) else (0)) := hf
    refine lv_aload_n hx hb dX11_mayRun_22 rfl (lv_at hl 0 rfl) ?_
    refine fx_get (ci := 11) (v := .ref (rr + 28)) hx hb hts i11 hown hK (rwc_0 hW) rfl 28 (by decide) kl92 rfl dX11_mayRun_23 ?_
    refine lv_iload_n hx hb dX11_mayRun_26 rfl (lv_at hl 1 rfl) ?_
    refine fx_ild hx hb hK 0 (rwc_28 hW) rfl hc dX11_mayRun_27 ?_
    refine lv_bipush (v := 31) hx hb dX11_mayRun_28 (by decide) ?_
    refine lv_iand hx hb dX11_mayRun_30 ?_
    refine lv_if_ne (tgt := 47) hx hb dX11_mayRun_31 (by decide) (fun c_31 => ?_) (fun c_31 => ?_)
    · have hf_31 := hf.trans (if_neg c_31)
      refine lv_iconst (v := 0) hx hb dX11_mayRun_47 (by decide) ?_
      exact gx_iret hx hb hr (by decide) hlocks hK (congrArg (Prod.mk ()) hf_31) (u := ()) (v := 0) hW hS dX11_mayRun_48
    · have hf_31 := hf.trans (if_pos c_31)
      refine lv_aload_n hx hb dX11_mayRun_34 rfl (lv_at hl 0 rfl) ?_
      refine fx_get (ci := 11) (v := .ref (rr + 24)) hx hb hts i11 hown hK (rwc_0 hW) rfl 24 (by decide) kl80 rfl dX11_mayRun_35 ?_
      refine lv_iload_n hx hb dX11_mayRun_38 rfl (lv_at hl 1 rfl) ?_
      refine fx_zld hx hb hK 1 (rwc_24 hW) rfl hc dX11_mayRun_39 ?_
      refine lv_if_ne (tgt := 47) hx hb dX11_mayRun_40 (by decide) (fun c_40 => ?_) (fun c_40 => ?_)
      · have hf_40 := hf_31.trans (if_neg c_40)
        refine lv_iconst (v := 0) hx hb dX11_mayRun_47 (by decide) ?_
        exact gx_iret hx hb hr (by decide) hlocks hK (congrArg (Prod.mk ()) hf_40) (u := ()) (v := 0) hW hS dX11_mayRun_48
      · have hf_40 := hf_31.trans (if_pos c_40)
        refine lv_iconst (v := 1) hx hb dX11_mayRun_43 (by decide) ?_
        refine lv_goto (tgt := 48) hx hb dX11_mayRun_44 (by decide) ?_
        exact gx_iret hx hb hr (by decide) hlocks hK (congrArg (Prod.mk ()) hf_40) (u := ()) (v := 1) hW hS dX11_mayRun_48
  have hf : fX11_mayRun p1 x = (if (x.1 13 p1.toNatClampNeg) = 6 then (fX11_mayRun_J22 p1 x) else (if (x.1 13 p1.toNatClampNeg) = 8 then (fX11_mayRun_J22 p1 x) else (0))) := rfl
  refine lv_aload_n hx hb dX11_mayRun_0 rfl (lv_at hl 0 rfl) ?_
  refine fx_get (ci := 11) (v := .ref (rr + 13)) hx hb hts i11 hown hK (rwc_0 hW) rfl 13 (by decide) kl47 rfl dX11_mayRun_1 ?_
  refine lv_iload_n hx hb dX11_mayRun_4 rfl (lv_at hl 1 rfl) ?_
  refine fx_ild hx hb hK 0 (rwc_13 hW) rfl hc dX11_mayRun_5 ?_
  refine lv_bipush (v := 6) hx hb dX11_mayRun_6 (by decide) ?_
  refine lv_icmp_eq (tgt := 22) hx hb dX11_mayRun_8 (by decide) (fun c_8 => ?_) (fun c_8 => ?_)
  · have hf_8 := hf.trans (if_pos c_8)
    exact J22 _ _ _ hW hS (lv_sub hl [0, 1] rfl) hf_8
  · have hf_8 := hf.trans (if_neg c_8)
    refine lv_aload_n hx hb dX11_mayRun_11 rfl (lv_at hl 0 rfl) ?_
    refine fx_get (ci := 11) (v := .ref (rr + 13)) hx hb hts i11 hown hK (rwc_0 hW) rfl 13 (by decide) kl47 rfl dX11_mayRun_12 ?_
    refine lv_iload_n hx hb dX11_mayRun_15 rfl (lv_at hl 1 rfl) ?_
    refine fx_ild hx hb hK 0 (rwc_13 hW) rfl hc dX11_mayRun_16 ?_
    refine lv_bipush (v := 8) hx hb dX11_mayRun_17 (by decide) ?_
    refine lv_icmp_ne (tgt := 47) hx hb dX11_mayRun_19 (by decide) (fun c_19 => ?_) (fun c_19 => ?_)
    · have hf_19 := hf_8.trans (if_neg c_19)
      refine lv_iconst (v := 0) hx hb dX11_mayRun_47 (by decide) ?_
      exact gx_iret hx hb hr (by decide) hlocks hK (congrArg (Prod.mk ()) hf_19) (u := ()) (v := 0) hW hS dX11_mayRun_48
    · have hf_19 := hf_8.trans (if_pos c_19)
      exact J22 _ _ _ hW hS (lv_sub hl [0, 1] rfl) hf_19

def fX11_whole (q1 : Int64) (x : RS) : Int32 := if (lg_cmp q1 2147483647) ≤ 0 then (q1.toInt32) else (2147483647)
set_option maxHeartbeats 4000000 in
set_option maxRecDepth 100000 in
theorem mX11_whole (l : Launch) (E : eE) (rr : Nat) (x : RS) (q1 : Int64) : Met l yX11_whole wsX11_whole ({ frames := 0, cells := 0, slots := 0, locals := 0 }) (gPre E (rw_ E rr x) [.long (q1)]) (gQi E (fun _ : Unit => rw_ E rr x) ((), fX11_whole q1 x) (rA rr)) 0 0 (rA rr) := by
  refine Met.ofW (cc := cX11_whole) (maxL := 2) (ret := (some .int)) (by decide) rfl ?_
  intro p e s m args below meth c s₁ B hml hv
  obtain ⟨rfl, hW, hK⟩ := hv
  have hx := B.exec
  have hb := B.bytes
  have hr := B.returns
  have hts := atoms_spec (ws := wsX11_whole) B.pre
  have hown : s.vm.findClass RX11 = some m.cls := findClass_of_methodNamed B.named
  have hlocks := B.notSynchronized
  have hS : va_S (rA rr) s.heap s.heap [] := va_S.rf
  have hl := lv_entry ([.long (q1)]) (n := 2) (Nat.le_of_ble_eq_true rfl)
  rw [lg_entry_eq]
  generalize (lg_sl ([.long (q1)]) ++ List.replicate (2 - (lg_sl ([.long (q1)])).length) Slot.unset).toArray = ls at hl ⊢
  have hl : lv_has ls 2 [(0, .long (q1))] := hl
  have hf : fX11_whole q1 x = (if (lg_cmp q1 2147483647) ≤ 0 then (q1.toInt32) else (2147483647)) := rfl
  refine lv_lload_n hx hb dX11_whole_0 rfl (lv_at hl 0 rfl) ?_
  refine lv_ldc2 hx hb hown (hts (.constantLong RX11 320 (2147483647)) (by decide +kernel)) dX11_whole_1 ?_
  refine W.lcmp hx hb dX11_whole_4 ?_
  refine lv_if_le (tgt := 14) hx hb dX11_whole_5 (by decide) (fun c_5 => ?_) (fun c_5 => ?_)
  · have hf_5 := hf.trans (if_pos c_5)
    refine lv_lload_n hx hb dX11_whole_14 rfl (lv_at hl 0 rfl) ?_
    refine lv_l2i (v := q1.toInt32) hx hb dX11_whole_15 rfl ?_
    exact gx_iret hx hb hr rfl hlocks hK (congrArg (Prod.mk ()) hf_5) (u := ()) (v := q1.toInt32) hW hS dX11_whole_16
  · have hf_5 := hf.trans (if_neg c_5)
    refine lv_ldcw hx hb hown (hts (.constant RX11 322 (2147483647)) (by decide +kernel)) dX11_whole_8 ?_
    refine lv_goto (tgt := 16) hx hb dX11_whole_11 (by decide) ?_
    exact gx_iret hx hb hr rfl hlocks hK (congrArg (Prod.mk ()) hf_5) (u := ()) (v := 2147483647) hW hS dX11_whole_16
