/-! the pump as a whole: relay, sound -/
def fX10_passRelay (n : Nat) (n2 : Nat) (x : PS) : PS := if (x.2.2.1 n 0 9) = 0 then (x) else (if (x.2.2.1 n2 0 10) = 0 then (x) else (if (fX1_canRun (foc (tC x n 0 9 (0)) n)) = 0 then ((tC x n 0 9 (0))) else ((put (tC x n 0 9 (0)) n (fX10_startRunning n (foc (tC x n 0 9 (0)) n))))))
set_option maxHeartbeats 4000000 in
set_option maxRecDepth 100000 in
theorem mX10_passRelay (l : Launch) (E : eE) (bb : Nat) (x : PS) (n : Nat) (n2 : Nat) (hn : n < 3) (hm : n2 < 3) : Met l yX10_passRelay wsX10_passRelay ({ frames := 3, cells := 0, slots := 0, locals := 72 }) (gPre E (pw E bb x) [.ref (bb + 0), .ref (bb + 21 + 14 * n + 0), .ref (bb + 21 + 14 * n2 + 0)]) (gQv E (pw E bb) (fX10_passRelay n n2 x) (cA bb)) 0 0 (cA bb) := by
  refine Met.ofW (cc := cX10_passRelay) (maxL := 3) (ret := none) (by decide) rfl ?_
  intro p e s m args below meth c s₁ B hml hv
  obtain ⟨rfl, hW, hK⟩ := hv
  have hx := B.exec
  have hb := B.bytes
  have hr := B.returns
  have hts := atoms_spec (ws := wsX10_passRelay) B.pre
  have hown : s.vm.findClass RX10 = some m.cls := findClass_of_methodNamed B.named
  have hlocks := B.notSynchronized
  have i1 : ∀ w ∈ wsX10, w ∈ wsX10_passRelay := by decide +kernel
  have kl210 := hts (.fieldLink RX10 210 "DosePump$Channel" "waits" "Z") (by decide +kernel)
  have kl443 := hts (.fieldLink RX10 443 "DosePump$Channel" "doneNow" "Z") (by decide +kernel)
  have hS : va_S (cA bb) s.heap s.heap [] := va_S.rf
  have hl := lv_entry ([.ref (bb + 0), .ref (bb + 21 + 14 * n + 0), .ref (bb + 21 + 14 * n2 + 0)]) (n := 3) (Nat.le_of_ble_eq_true rfl)
  rw [lg_entry_eq]
  generalize (lg_sl ([.ref (bb + 0), .ref (bb + 21 + 14 * n + 0), .ref (bb + 21 + 14 * n2 + 0)]) ++ List.replicate (3 - (lg_sl ([.ref (bb + 0), .ref (bb + 21 + 14 * n + 0), .ref (bb + 21 + 14 * n2 + 0)])).length) Slot.unset).toArray = ls at hl ⊢
  have hl : lv_has ls 3 [(0, .ref (bb + 0)), (1, .ref (bb + 21 + 14 * n + 0)), (2, .ref (bb + 21 + 14 * n2 + 0))] := hl
  have hf : fX10_passRelay n n2 x = (if (x.2.2.1 n 0 9) = 0 then (x) else (if (x.2.2.1 n2 0 10) = 0 then (x) else (if (fX1_canRun (foc (tC x n 0 9 (0)) n)) = 0 then ((tC x n 0 9 (0))) else ((put (tC x n 0 9 (0)) n (fX10_startRunning n (foc (tC x n 0 9 (0)) n))))))) := rfl
  refine lv_aload_n hx hb dX10_passRelay_0 rfl (lv_at hl 1 rfl) ?_
  refine fx_get (ci := 1) (v := .int (x.2.2.1 n 0 9)) hx hb hts i1 hown hK (pw_C (n := n) (o := 0) hW hn (by decide)) rfl 9 (by decide) kl210 rfl dX10_passRelay_1 ?_
  refine lv_if_eq (tgt := 14) hx hb dX10_passRelay_4 (by decide) (fun c_4 => ?_) (fun c_4 => ?_)
  · have hf_4 := hf.trans (if_pos c_4)
    exact gx_vret hx hb hr hlocks hK hf_4 hW hS dX10_passRelay_14
  · have hf_4 := hf.trans (if_neg c_4)
    refine lv_aload_n hx hb dX10_passRelay_7 rfl (lv_at hl 2 rfl) ?_
    refine fx_get (ci := 1) (v := .int (x.2.2.1 n2 0 10)) hx hb hts i1 hown hK (pw_C (n := n2) (o := 0) hW hm (by decide)) rfl 10 (by decide) kl443 rfl dX10_passRelay_8 ?_
    refine lv_if_ne (tgt := 15) hx hb dX10_passRelay_11 (by decide) (fun c_11 => ?_) (fun c_11 => ?_)
    · have hf_11 := hf_4.trans (if_neg c_11)
      refine lv_aload_n hx hb dX10_passRelay_15 rfl (lv_at hl 1 rfl) ?_
      refine lv_iconst (v := 0) hx hb dX10_passRelay_16 (by decide) ?_
      refine fx_put (ci := 1) (v := .int (0)) hx hb hts i1 tyX1_ok nmX1 hown hK (pw_C (n := n) (o := 0) hW hn (by decide)) (cA_C hn (by decide)) hS rfl 9 (by decide) kl210 rfl (by decide) (by decide) (Nat.le_of_ble_eq_true rfl) dX10_passRelay_17 (fun H locs hat hne hS => ?_)
      have hW : pw E bb (tC x n 0 9 (0)) H := pw_sC (n := n) (o := 0) (k := 9) (v := 0) hW hn (by decide) hat hne
      refine lv_aload_n hx hb dX10_passRelay_20 rfl (lv_at hl 1 rfl) ?_
      refine gx_i (rest := []) ⟨hx, hb, hml, hown, hts⟩ (mX1_canRun l E bb (tC x n 0 9 (0)).2.1 (tC x n 0 9 (0)).2.2.1 n hn (foc (tC x n 0 9 (0)) n) ) (cwV 0 hts gX10_passRelay_X1_canRun rfl rfl rfl (by decide +kernel) ⟨Nat.le_of_ble_eq_true rfl, Nat.le_of_ble_eq_true rfl⟩) (pw_foc hW) hK (fx_recv hK (pw_C (n := n) (o := 0) hW hn (by decide)) rfl) rfl hl.1 rfl (Nat.le_of_ble_eq_true rfl) dX10_passRelay_21 ⟨Nat.le_of_ble_eq_true rfl, Nat.le_of_ble_eq_true rfl⟩ hS (fun _ h => h) (fun _ r1 H locs _ e1 hW9 hS => ?_)
      have hW : pw E bb (tC x n 0 9 (0)) H := pw_unfoc hW9
      have e1 : fX1_canRun (foc (tC x n 0 9 (0)) n) = r1 := e1
      try rw [e1] at hf_11
      refine lv_if_eq (tgt := 32) hx hb dX10_passRelay_24 (by decide) (fun c_24 => ?_) (fun c_24 => ?_)
      · have hf_24 := hf_11.trans (if_pos c_24)
        exact gx_vret hx hb hr hlocks hK hf_24 hW hS dX10_passRelay_32
      · have hf_24 := hf_11.trans (if_neg c_24)
        refine lv_aload_n hx hb dX10_passRelay_27 rfl (lv_at hl 0 rfl) ?_
        refine lv_aload_n hx hb dX10_passRelay_28 rfl (lv_at hl 1 rfl) ?_
        refine gx_v (rest := []) ⟨hx, hb, hml, hown, hts⟩ (mX10_startRunning l E bb (tC x n 0 9 (0)).2.1 (tC x n 0 9 (0)).2.2.1 n hn (foc (tC x n 0 9 (0)) n) ) (cwV 1 hts gX10_passRelay_X10_startRunning rfl rfl rfl (by decide +kernel) ⟨Nat.le_of_ble_eq_true rfl, Nat.le_of_ble_eq_true rfl⟩) (pw_foc hW) hK (fx_recv hK (pw_P (o := 0) hW (by decide)) rfl) rfl hl.1 rfl (Nat.le_of_ble_eq_true rfl) dX10_passRelay_29 ⟨Nat.le_of_ble_eq_true rfl, Nat.le_of_ble_eq_true rfl⟩ hS (fun _ h => h) (fun u2 H locs e2 hW9 hS => ?_)
        have hW : pw E bb (put (tC x n 0 9 (0)) n u2) H := hW9
        have e2 : fX10_startRunning n (foc (tC x n 0 9 (0)) n) = u2 := e2
        try rw [e2] at hf_24
        exact gx_vret hx hb hr hlocks hK hf_24 hW hS dX10_passRelay_32
    · have hf_11 := hf_4.trans (if_pos c_11)
      exact gx_vret hx hb hr hlocks hK hf_11 hW hS dX10_passRelay_14

def fX10_isSounding (x : PS) : Int32 := if ((((0 : Int32) ||| (x.2.2.1 0 0 7)) ||| (x.2.2.1 1 0 7)) ||| (x.2.2.1 2 0 7)) = 0 then (0) else (if (x.1 0 3) < (x.1 0 7) then (0) else (1))
set_option maxHeartbeats 4000000 in
set_option maxRecDepth 100000 in
theorem mX10_isSounding (l : Launch) (E : eE) (bb : Nat) (x : PS) : Met l yX10_isSounding wsX10_isSounding ({ frames := 0, cells := 0, slots := 0, locals := 0 }) (gPre E (pw E bb x) [.ref (bb + 0)]) (gQi E (fun _ : Unit => pw E bb x) ((), fX10_isSounding x) (cA bb)) 0 0 (cA bb) := by
  refine Met.ofW (cc := cX10_isSounding) (maxL := 3) (ret := (some .boolean)) (by decide) rfl ?_
  intro p e s m args below meth c s₁ B hml hv
  obtain ⟨rfl, hW, hK⟩ := hv
  have hx := B.exec
  have hb := B.bytes
  have hr := B.returns
  have hts := atoms_spec (ws := wsX10_isSounding) B.pre
  have hown : s.vm.findClass RX10 = some m.cls := findClass_of_methodNamed B.named
  have hlocks := B.notSynchronized
  have i1 : ∀ w ∈ wsX10, w ∈ wsX10_isSounding := by decide +kernel
  have i10 : ∀ w ∈ wsX100, w ∈ wsX10_isSounding := by decide +kernel
  have kl17 := hts (.fieldLink RX10 17 "DosePump" "channels" "[LDosePump$Channel;") (by decide +kernel)
  have kl148 := hts (.fieldLink RX10 148 "DosePump" "time" "I") (by decide +kernel)
  have kl160 := hts (.fieldLink RX10 160 "DosePump$Channel" "alarms" "I") (by decide +kernel)
  have kl307 := hts (.fieldLink RX10 307 "DosePump" "silentUntil" "I") (by decide +kernel)
  have hS : va_S (cA bb) s.heap s.heap [] := va_S.rf
  have hl := lv_entry ([.ref (bb + 0)]) (n := 3) (Nat.le_of_ble_eq_true rfl)
  rw [lg_entry_eq]
  generalize (lg_sl ([.ref (bb + 0)]) ++ List.replicate (3 - (lg_sl ([.ref (bb + 0)])).length) Slot.unset).toArray = ls at hl ⊢
  have hl : lv_has ls 3 [(0, .ref (bb + 0))] := hl
  have hf : fX10_isSounding x = (if ((((0 : Int32) ||| (x.2.2.1 0 0 7)) ||| (x.2.2.1 1 0 7)) ||| (x.2.2.1 2 0 7)) = 0 then (0) else (if (x.1 0 3) < (x.1 0 7) then (0) else (1))) := rfl
  refine lv_iconst (v := 0) hx hb dX10_isSounding_0 (by decide) ?_
  refine lv_istore_n (lv' := [(1, .int (0)), (0, .ref (bb + 0))]) hx hb dX10_isSounding_1 rfl hl (by decide) rfl (fun ls hl => ?_)
  refine lv_iconst (v := 0) hx hb dX10_isSounding_2 (by decide) ?_
  refine lv_istore_n (lv' := [(2, .int (0)), (1, .int (0)), (0, .ref (bb + 0))]) hx hb dX10_isSounding_3 rfl hl (by decide) rfl (fun ls hl => ?_)
  refine lv_iload_n hx hb dX10_isSounding_4 rfl (lv_at hl 0 rfl) ?_
  refine lv_iconst (v := 3) hx hb dX10_isSounding_5 (by decide) ?_
  refine lv_icmp_ge (tgt := 27) hx hb dX10_isSounding_6 (by decide) (fun c9 => absurd c9 (by decide)) (fun c9 => ?_)
  refine lv_iload_n hx hb dX10_isSounding_9 rfl (lv_at hl 1 rfl) ?_
  refine lv_aload_n hx hb dX10_isSounding_10 rfl (lv_at hl 2 rfl) ?_
  refine fx_get (ci := 10) (v := .ref (bb + 2)) hx hb hts i10 hown hK (pw_P (o := 0) hW (by decide)) rfl 1 (by decide) kl17 rfl dX10_isSounding_11 ?_
  refine lv_iload_n hx hb dX10_isSounding_14 rfl (lv_at hl 0 rfl) ?_
  refine fx_ald (v := .ref (bb + 21 + 14 * 0 + 0)) hx hb hK 2 (pw_P (o := 2) hW (by decide)) rfl (by unfold vp_in; decide) rfl dX10_isSounding_15 ?_
  refine fx_get (ci := 1) (v := .int (x.2.2.1 0 0 7)) hx hb hts i1 hown hK (pw_C (n := 0) (o := 0) hW (by decide) (by decide)) rfl 7 (by decide) kl160 rfl dX10_isSounding_16 ?_
  refine lv_ior hx hb dX10_isSounding_19 ?_
  refine lv_istore_n (lv' := [(1, .int ((0 : Int32) ||| (x.2.2.1 0 0 7))), (2, .int (0)), (0, .ref (bb + 0))]) hx hb dX10_isSounding_20 rfl hl (by decide) rfl (fun ls hl => ?_)
  refine lv_iinc (v := 1) (lv' := [(2, .int (1)), (1, .int ((0 : Int32) ||| (x.2.2.1 0 0 7))), (0, .ref (bb + 0))]) hx hb dX10_isSounding_21 hl (k := 1) rfl (by first | rfl | decide) (by decide) rfl (fun ls hl => ?_)
  refine lv_goto (tgt := 4) hx hb dX10_isSounding_24 (by decide) ?_
  refine lv_iload_n hx hb dX10_isSounding_4 rfl (lv_at hl 0 rfl) ?_
  refine lv_iconst (v := 3) hx hb dX10_isSounding_5 (by decide) ?_
  refine lv_icmp_ge (tgt := 27) hx hb dX10_isSounding_6 (by decide) (fun c9 => absurd c9 (by decide)) (fun c9 => ?_)
  refine lv_iload_n hx hb dX10_isSounding_9 rfl (lv_at hl 1 rfl) ?_
  refine lv_aload_n hx hb dX10_isSounding_10 rfl (lv_at hl 2 rfl) ?_
  refine fx_get (ci := 10) (v := .ref (bb + 2)) hx hb hts i10 hown hK (pw_P (o := 0) hW (by decide)) rfl 1 (by decide) kl17 rfl dX10_isSounding_11 ?_
  refine lv_iload_n hx hb dX10_isSounding_14 rfl (lv_at hl 0 rfl) ?_
  refine fx_ald (v := .ref (bb + 21 + 14 * 1 + 0)) hx hb hK 2 (pw_P (o := 2) hW (by decide)) rfl (by unfold vp_in; decide) rfl dX10_isSounding_15 ?_
  refine fx_get (ci := 1) (v := .int (x.2.2.1 1 0 7)) hx hb hts i1 hown hK (pw_C (n := 1) (o := 0) hW (by decide) (by decide)) rfl 7 (by decide) kl160 rfl dX10_isSounding_16 ?_
  refine lv_ior hx hb dX10_isSounding_19 ?_
  refine lv_istore_n (lv' := [(1, .int (((0 : Int32) ||| (x.2.2.1 0 0 7)) ||| (x.2.2.1 1 0 7))), (2, .int (1)), (0, .ref (bb + 0))]) hx hb dX10_isSounding_20 rfl hl (by decide) rfl (fun ls hl => ?_)
  refine lv_iinc (v := 2) (lv' := [(2, .int (2)), (1, .int (((0 : Int32) ||| (x.2.2.1 0 0 7)) ||| (x.2.2.1 1 0 7))), (0, .ref (bb + 0))]) hx hb dX10_isSounding_21 hl (k := 1) rfl (by first | rfl | decide) (by decide) rfl (fun ls hl => ?_)
  refine lv_goto (tgt := 4) hx hb dX10_isSounding_24 (by decide) ?_
  refine lv_iload_n hx hb dX10_isSounding_4 rfl (lv_at hl 0 rfl) ?_
  refine lv_iconst (v := 3) hx hb dX10_isSounding_5 (by decide) ?_
  refine lv_icmp_ge (tgt := 27) hx hb dX10_isSounding_6 (by decide) (fun c9 => absurd c9 (by decide)) (fun c9 => ?_)
  refine lv_iload_n hx hb dX10_isSounding_9 rfl (lv_at hl 1 rfl) ?_
  refine lv_aload_n hx hb dX10_isSounding_10 rfl (lv_at hl 2 rfl) ?_
  refine fx_get (ci := 10) (v := .ref (bb + 2)) hx hb hts i10 hown hK (pw_P (o := 0) hW (by decide)) rfl 1 (by decide) kl17 rfl dX10_isSounding_11 ?_
  refine lv_iload_n hx hb dX10_isSounding_14 rfl (lv_at hl 0 rfl) ?_
  refine fx_ald (v := .ref (bb + 21 + 14 * 2 + 0)) hx hb hK 2 (pw_P (o := 2) hW (by decide)) rfl (by unfold vp_in; decide) rfl dX10_isSounding_15 ?_
  refine fx_get (ci := 1) (v := .int (x.2.2.1 2 0 7)) hx hb hts i1 hown hK (pw_C (n := 2) (o := 0) hW (by decide) (by decide)) rfl 7 (by decide) kl160 rfl dX10_isSounding_16 ?_
  refine lv_ior hx hb dX10_isSounding_19 ?_
  refine lv_istore_n (lv' := [(1, .int ((((0 : Int32) ||| (x.2.2.1 0 0 7)) ||| (x.2.2.1 1 0 7)) ||| (x.2.2.1 2 0 7))), (2, .int (2)), (0, .ref (bb + 0))]) hx hb dX10_isSounding_20 rfl hl (by decide) rfl (fun ls hl => ?_)
  refine lv_iinc (v := 3) (lv' := [(2, .int (3)), (1, .int ((((0 : Int32) ||| (x.2.2.1 0 0 7)) ||| (x.2.2.1 1 0 7)) ||| (x.2.2.1 2 0 7))), (0, .ref (bb + 0))]) hx hb dX10_isSounding_21 hl (k := 1) rfl (by first | rfl | decide) (by decide) rfl (fun ls hl => ?_)
  refine lv_goto (tgt := 4) hx hb dX10_isSounding_24 (by decide) ?_
  refine lv_iload_n hx hb dX10_isSounding_4 rfl (lv_at hl 0 rfl) ?_
  refine lv_iconst (v := 3) hx hb dX10_isSounding_5 (by decide) ?_
  refine lv_icmp_ge (tgt := 27) hx hb dX10_isSounding_6 (by decide) (fun c9 => ?_) (fun c9 => absurd c9 (by decide))
  refine lv_iload_n hx hb dX10_isSounding_27 rfl (lv_at hl 1 rfl) ?_
  refine lv_if_eq (tgt := 46) hx hb dX10_isSounding_28 (by decide) (fun c_28 => ?_) (fun c_28 => ?_)
  · have hf_28 := hf.trans (if_pos c_28)
    refine lv_iconst (v := 0) hx hb dX10_isSounding_46 (by decide) ?_
    exact gx_iret hx hb hr (by decide) hlocks hK (congrArg (Prod.mk ()) hf_28) (u := ()) (v := 0) hW hS dX10_isSounding_47
  · have hf_28 := hf.trans (if_neg c_28)
    refine lv_aload_n hx hb dX10_isSounding_31 rfl (lv_at hl 2 rfl) ?_
    refine fx_get (ci := 10) (v := .int (x.1 0 3)) hx hb hts i10 hown hK (pw_P (o := 0) hW (by decide)) rfl 3 (by decide) kl148 rfl dX10_isSounding_32 ?_
    refine lv_aload_n hx hb dX10_isSounding_35 rfl (lv_at hl 2 rfl) ?_
    refine fx_get (ci := 10) (v := .int (x.1 0 7)) hx hb hts i10 hown hK (pw_P (o := 0) hW (by decide)) rfl 7 (by decide) kl307 rfl dX10_isSounding_36 ?_
    refine lv_icmp_lt (tgt := 46) hx hb dX10_isSounding_39 (by decide) (fun c_39 => ?_) (fun c_39 => ?_)
    · have hf_39 := hf_28.trans (if_pos c_39)
      refine lv_iconst (v := 0) hx hb dX10_isSounding_46 (by decide) ?_
      exact gx_iret hx hb hr (by decide) hlocks hK (congrArg (Prod.mk ()) hf_39) (u := ()) (v := 0) hW hS dX10_isSounding_47
    · have hf_39 := hf_28.trans (if_neg c_39)
      refine lv_iconst (v := 1) hx hb dX10_isSounding_42 (by decide) ?_
      refine lv_goto (tgt := 47) hx hb dX10_isSounding_43 (by decide) ?_
      exact gx_iret hx hb hr (by decide) hlocks hK (congrArg (Prod.mk ()) hf_39) (u := ()) (v := 1) hW hS dX10_isSounding_47

def fX10_passBattery_L68 (p1 : Int32) : Nat → PS → Int32 → PS
  | 0, y, v2 => y
  | k9 + 1, y, v2 => if (3 : Int32) ≤ v2 then (y) else (if (y.1 0 4) = 0 then (if (y.2.2.1 v2.toNatClampNeg 0 6) = 7 then (fX10_passBattery_L68 p1 k9 (put y v2.toNatClampNeg (fX10_latch v2.toNatClampNeg 3 (foc y v2.toNatClampNeg))) (v2 + 1)) else (fX10_passBattery_L68 p1 k9 y (v2 + 1))) else (fX10_passBattery_L68 p1 k9 y (v2 + 1)))
def fX10_passBattery_J66 (p1 : Int32) (y : PS) : PS := fX10_passBattery_L68 p1 (mu32 0 3 + 1) y 0
def fX10_passBattery_J34 (p1 : Int32) (y : PS) (w0 : Int32) : PS := if (y.1 0 5) = 0 then (if (3600 : Int32) ≤ w0 then (fX10_passBattery_J66 p1 (tP y 0 4 (w0))) else (fX10_passBattery_J66 p1 (put (tP y 0 4 (w0)) 0 (fX10_latch 0 6 (foc (tP y 0 4 (w0)) 0))))) else (fX10_passBattery_J66 p1 (tP y 0 4 (w0)))
def fX10_passBattery (p1 : Int32) (x : PS) : PS := if (x.1 0 5) = 0 then (fX10_passBattery_J34 p1 x (if (0 : Int32) < (((x.1 0 4) - 1) - p1) then (((x.1 0 4) - 1) - p1) else (0 : Int32))) else (fX10_passBattery_J34 p1 x (if ((x.1 0 4) + 4) < (36000 : Int32) then ((x.1 0 4) + 4) else (36000 : Int32)))
set_option maxHeartbeats 4000000 in
set_option maxRecDepth 100000 in
theorem mX10_passBattery (l : Launch) (E : eE) (bb : Nat) (x : PS) (p1 : Int32) : Met l yX10_passBattery wsX10_passBattery ({ frames := 2, cells := 0, slots := 0, locals := 50 }) (gPre E (pw E bb x) [.ref (bb + 0), .int (p1)]) (gQv E (pw E bb) (fX10_passBattery p1 x) (cA bb)) 0 0 (cA bb) := by
  refine Met.ofW (cc := cX10_passBattery) (maxL := 3) (ret := none) (by decide) rfl ?_
  intro p e s m args below meth c s₁ B hml hv
  obtain ⟨rfl, hW, hK⟩ := hv
  have hx := B.exec
  have hb := B.bytes
  have hr := B.returns
  have hts := atoms_spec (ws := wsX10_passBattery) B.pre
  have hown : s.vm.findClass RX10 = some m.cls := findClass_of_methodNamed B.named
  have hlocks := B.notSynchronized
  have i1 : ∀ w ∈ wsX10, w ∈ wsX10_passBattery := by decide +kernel
  have i10 : ∀ w ∈ wsX100, w ∈ wsX10_passBattery := by decide +kernel
  have kl17 := hts (.fieldLink RX10 17 "DosePump" "channels" "[LDosePump$Channel;") (by decide +kernel)
  have kl29 := hts (.fieldLink RX10 29 "DosePump" "charge" "I") (by decide +kernel)
  have kl33 := hts (.fieldLink RX10 33 "DosePump" "onMains" "Z") (by decide +kernel)
  have kl141 := hts (.fieldLink RX10 141 "DosePump$Channel" "phase" "I") (by decide +kernel)
  have hS : va_S (cA bb) s.heap s.heap [] := va_S.rf
  have hl := lv_entry ([.ref (bb + 0), .int (p1)]) (n := 3) (Nat.le_of_ble_eq_true rfl)
  rw [lg_entry_eq]
  generalize (lg_sl ([.ref (bb + 0), .int (p1)]) ++ List.replicate (3 - (lg_sl ([.ref (bb + 0), .int (p1)])).length) Slot.unset).toArray = ls at hl ⊢
  have hl : lv_has ls 3 [(0, .ref (bb + 0)), (1, .int (p1))] := hl
  have J68 : ∀ (k8 : Nat) (H : Heap) (locs : List Loc) (ls : Array Slot) (y : PS) (v2 : Int32), pw E bb y H → va_S (cA bb) s.heap H locs → lv_has ls 3 [(0, .ref (bb + 0)), (2, .int (v2))] → mu32 v2 3 < k8 ∧ 0 ≤ v2.toInt → fX10_passBattery p1 x = fX10_passBattery_L68 p1 k8 y v2 → W p l e (headSpec wsX10_passBattery { frames := 2, cells := 0, slots := 0, locals := 50 }).room s m ([.ref (bb + 0), .int (p1)] : List Value).toArray below meth c H locs 0 0 (MQ below (gQv E (pw E bb) (fX10_passBattery p1 x) (cA bb)) ([.ref (bb + 0), .int (p1)] : List Value).toArray s 0 0 (cA bb)) (F0 m 68 ls []) := by
    intro k8
    induction k8 with
    | zero =>
      intro H locs ls y v2 hW hS hl hmu hf
      exact absurd hmu (by omega)
    | succ k9 ih =>
      intro H locs ls y v2 hW hS hl hmu hf
      replace hf : fX10_passBattery p1 x = (if (3 : Int32) ≤ v2 then (y) else (if (y.1 0 4) = 0 then (if (y.2.2.1 v2.toNatClampNeg 0 6) = 7 then (fX10_passBattery_L68 p1 k9 (put y v2.toNatClampNeg (fX10_latch v2.toNatClampNeg 3 (foc y v2.toNatClampNeg))) (v2 + 1)) else (fX10_passBattery_L68 p1 k9 y (v2 + 1))) else (fX10_passBattery_L68 p1 k9 y (v2 + 1)))) := hf
      refine lv_iload_n hx hb dX10_passBattery_68 rfl (lv_at hl 1 rfl) ?_
      refine lv_iconst (v := 3) hx hb dX10_passBattery_69 (by decide) ?_
      refine lv_icmp_ge (tgt := 111) hx hb dX10_passBattery_70 (by decide) (fun c_70 => ?_) (fun c_70 => ?_)
      · have hf_70 := hf.trans (if_pos c_70)
        exact gx_vret hx hb hr hlocks hK hf_70 hW hS dX10_passBattery_111
      · have hf_70 := hf.trans (if_neg c_70)
        refine lv_aload_n hx hb dX10_passBattery_73 rfl (lv_at hl 0 rfl) ?_
        refine fx_get (ci := 10) (v := .int (y.1 0 4)) hx hb hts i10 hown hK (pw_P (o := 0) hW (by decide)) rfl 4 (by decide) kl29 rfl dX10_passBattery_74 ?_
        refine lv_if_ne (tgt := 105) hx hb dX10_passBattery_77 (by decide) (fun c_77 => ?_) (fun c_77 => ?_)
        · have hf_77 := hf_70.trans (if_neg c_77)
          refine lv_iinc (v := v2 + 1) (lv' := [(2, .int (v2 + 1)), (0, .ref (bb + 0))]) hx hb dX10_passBattery_105 hl (k := 1) rfl (by first | rfl | decide) (by decide) rfl (fun ls hl => ?_)
          refine lv_goto (tgt := 68) hx hb dX10_passBattery_108 (by decide) ?_
          exact ih _ _ _ y (v2 + 1) hW hS (lv_sub hl [1, 0] rfl) ⟨mu32_step c_70 hmu.1, vj_c3s hmu.2 c_70⟩ hf_77
        · have hf_77 := hf_70.trans (if_pos c_77)
          refine lv_aload_n hx hb dX10_passBattery_80 rfl (lv_at hl 0 rfl) ?_
          refine fx_get (ci := 10) (v := .ref (bb + 2)) hx hb hts i10 hown hK (pw_P (o := 0) hW (by decide)) rfl 1 (by decide) kl17 rfl dX10_passBattery_81 ?_
          refine lv_iload_n hx hb dX10_passBattery_84 rfl (lv_at hl 1 rfl) ?_
          refine fx_ald (v := .ref (bb + 21 + 14 * v2.toNatClampNeg + 0)) hx hb hK 2 (pw_P (o := 2) hW (by decide)) rfl (vj_c3 hmu.2 c_70) rfl dX10_passBattery_85 ?_
          refine fx_get (ci := 1) (v := .int (y.2.2.1 v2.toNatClampNeg 0 6)) hx hb hts i1 hown hK (pw_C (n := v2.toNatClampNeg) (o := 0) hW (vj_lt (vj_c3 hmu.2 c_70)) (by decide)) rfl 6 (by decide) kl141 rfl dX10_passBattery_86 ?_
          refine lv_bipush (v := 7) hx hb dX10_passBattery_89 (by decide) ?_
          refine lv_icmp_ne (tgt := 105) hx hb dX10_passBattery_91 (by decide) (fun c_91 => ?_) (fun c_91 => ?_)
          · have hf_91 := hf_77.trans (if_neg c_91)
            refine lv_iinc (v := v2 + 1) (lv' := [(2, .int (v2 + 1)), (0, .ref (bb + 0))]) hx hb dX10_passBattery_105 hl (k := 1) rfl (by first | rfl | decide) (by decide) rfl (fun ls hl => ?_)
            refine lv_goto (tgt := 68) hx hb dX10_passBattery_108 (by decide) ?_
            exact ih _ _ _ y (v2 + 1) hW hS (lv_sub hl [1, 0] rfl) ⟨mu32_step c_70 hmu.1, vj_c3s hmu.2 c_70⟩ hf_91
          · have hf_91 := hf_77.trans (if_pos c_91)
            refine lv_aload_n hx hb dX10_passBattery_94 rfl (lv_at hl 0 rfl) ?_
            refine lv_aload_n hx hb dX10_passBattery_95 rfl (lv_at hl 0 rfl) ?_
            refine fx_get (ci := 10) (v := .ref (bb + 2)) hx hb hts i10 hown hK (pw_P (o := 0) hW (by decide)) rfl 1 (by decide) kl17 rfl dX10_passBattery_96 ?_
            refine lv_iload_n hx hb dX10_passBattery_99 rfl (lv_at hl 1 rfl) ?_
            refine fx_ald (v := .ref (bb + 21 + 14 * v2.toNatClampNeg + 0)) hx hb hK 2 (pw_P (o := 2) hW (by decide)) rfl (vj_c3 hmu.2 c_70) rfl dX10_passBattery_100 ?_
            refine lv_iconst (v := 3) hx hb dX10_passBattery_101 (by decide) ?_
            refine gx_v (rest := []) ⟨hx, hb, hml, hown, hts⟩ (mX10_latch l E bb y.2.1 y.2.2.1 v2.toNatClampNeg (vj_lt (vj_c3 hmu.2 c_70)) (foc y v2.toNatClampNeg) 3) (cwV 2 hts gX10_passBattery_X10_latch rfl rfl rfl (by decide +kernel) ⟨Nat.le_of_ble_eq_true rfl, Nat.le_of_ble_eq_true rfl⟩) (pw_foc hW) hK (fx_recv hK (pw_P (o := 0) hW (by decide)) rfl) rfl hl.1 rfl (Nat.le_of_ble_eq_true rfl) dX10_passBattery_102 ⟨Nat.le_of_ble_eq_true rfl, Nat.le_of_ble_eq_true rfl⟩ hS (fun _ h => h) (fun u2 H locs e2 hW9 hS => ?_)
            have hW : pw E bb (put y v2.toNatClampNeg u2) H := hW9
            have e2 : fX10_latch v2.toNatClampNeg 3 (foc y v2.toNatClampNeg) = u2 := e2
            try rw [e2] at hf_91
            refine lv_iinc (v := v2 + 1) (lv' := [(2, .int (v2 + 1)), (0, .ref (bb + 0))]) hx hb dX10_passBattery_105 hl (k := 1) rfl (by first | rfl | decide) (by decide) rfl (fun ls hl => ?_)
            refine lv_goto (tgt := 68) hx hb dX10_passBattery_108 (by decide) ?_
            exact ih _ _ _ (put y v2.toNatClampNeg u2) (v2 + 1) hW hS (lv_sub hl [1, 0] rfl) ⟨mu32_step c_70 hmu.1, vj_c3s hmu.2 c_70⟩ hf_91
  have J66 : ∀ (H : Heap) (locs : List Loc) (ls : Array Slot) (y : PS), pw E bb y H → va_S (cA bb) s.heap H locs → lv_has ls 3 [(0, .ref (bb + 0))] → fX10_passBattery p1 x = fX10_passBattery_J66 p1 y → W p l e (headSpec wsX10_passBattery { frames := 2, cells := 0, slots := 0, locals := 50 }).room s m ([.ref (bb + 0), .int (p1)] : List Value).toArray below meth c H locs 0 0 (MQ below (gQv E (pw E bb) (fX10_passBattery p1 x) (cA bb)) ([.ref (bb + 0), .int (p1)] : List Value).toArray s 0 0 (cA bb)) (F0 m 66 ls []) := by
    intro H locs ls y hW hS hl hf
    replace hf : fX10_passBattery p1 x = (fX10_passBattery_L68 p1 (mu32 0 3 + 1) y 0) := hf
    refine lv_iconst (v := 0) hx hb dX10_passBattery_66 (by decide) ?_
    refine lv_istore_n (lv' := [(2, .int (0)), (0, .ref (bb + 0))]) hx hb dX10_passBattery_67 rfl hl (by decide) rfl (fun ls hl => ?_)
    exact J68 _ _ _ _ y 0 hW hS (lv_sub hl [1, 0] rfl) ⟨Nat.lt_succ_self _, Int.le_refl 0⟩ hf
  have J34 : ∀ (H : Heap) (locs : List Loc) (ls : Array Slot) (y : PS) (w0 : Int32), pw E bb y H → va_S (cA bb) s.heap H locs → lv_has ls 3 [(0, .ref (bb + 0))] → fX10_passBattery p1 x = fX10_passBattery_J34 p1 y w0 → W p l e (headSpec wsX10_passBattery { frames := 2, cells := 0, slots := 0, locals := 50 }).room s m ([.ref (bb + 0), .int (p1)] : List Value).toArray below meth c H locs 0 0 (MQ below (gQv E (pw E bb) (fX10_passBattery p1 x) (cA bb)) ([.ref (bb + 0), .int (p1)] : List Value).toArray s 0 0 (cA bb)) (F0 m 34 ls [.int (w0), .ref (bb + 0)]) := by
    intro H locs ls y w0 hW hS hl hf
    replace hf : fX10_passBattery p1 x = (if (y.1 0 5) = 0 then (if (3600 : Int32) ≤ w0 then (fX10_passBattery_J66 p1 (tP y 0 4 (w0))) else (fX10_passBattery_J66 p1 (put (tP y 0 4 (w0)) 0 (fX10_latch 0 6 (foc (tP y 0 4 (w0)) 0))))) else (fX10_passBattery_J66 p1 (tP y 0 4 (w0)))) := hf
    refine fx_put (ci := 10) (v := .int (w0)) hx hb hts i10 tyX10_ok nmX10 hown hK (pw_P (o := 0) hW (by decide)) (cA_P (by decide)) hS rfl 4 (by decide) kl29 rfl rfl rfl (Nat.le_of_ble_eq_true rfl) dX10_passBattery_34 (fun H locs hat hne hS => ?_)
    have hW : pw E bb (tP y 0 4 (w0)) H := pw_sP (o := 0) (k := 4) (v := w0) hW (by decide) hat hne
    refine lv_aload_n hx hb dX10_passBattery_37 rfl (lv_at hl 0 rfl) ?_
    refine fx_get (ci := 10) (v := .int (y.1 0 5)) hx hb hts i10 hown hK (pw_P (o := 0) hW (by decide)) rfl 5 (by decide) kl33 rfl dX10_passBattery_38 ?_
    refine lv_if_ne (tgt := 66) hx hb dX10_passBattery_41 (by decide) (fun c_41 => ?_) (fun c_41 => ?_)
    · have hf_41 := hf.trans (if_neg c_41)
      exact J66 _ _ _ (tP y 0 4 (w0)) hW hS (lv_sub hl [0] rfl) hf_41
    · have hf_41 := hf.trans (if_pos c_41)
      refine lv_aload_n hx hb dX10_passBattery_44 rfl (lv_at hl 0 rfl) ?_
      refine fx_get (ci := 10) (v := .int (w0)) hx hb hts i10 hown hK (pw_P (o := 0) hW (by decide)) rfl 4 (by decide) kl29 rfl dX10_passBattery_45 ?_
      refine lv_sipush (v := 3600) hx hb dX10_passBattery_48 (by decide) ?_
      refine lv_icmp_ge (tgt := 66) hx hb dX10_passBattery_51 (by decide) (fun c_51 => ?_) (fun c_51 => ?_)
      · have hf_51 := hf_41.trans (if_pos c_51)
        exact J66 _ _ _ (tP y 0 4 (w0)) hW hS (lv_sub hl [0] rfl) hf_51
      · have hf_51 := hf_41.trans (if_neg c_51)
        refine lv_aload_n hx hb dX10_passBattery_54 rfl (lv_at hl 0 rfl) ?_
        refine lv_aload_n hx hb dX10_passBattery_55 rfl (lv_at hl 0 rfl) ?_
        refine fx_get (ci := 10) (v := .ref (bb + 2)) hx hb hts i10 hown hK (pw_P (o := 0) hW (by decide)) rfl 1 (by decide) kl17 rfl dX10_passBattery_56 ?_
        refine lv_iconst (v := 0) hx hb dX10_passBattery_59 (by decide) ?_
        refine fx_ald (v := .ref (bb + 21 + 14 * 0 + 0)) hx hb hK 2 (pw_P (o := 2) hW (by decide)) rfl (by unfold vp_in; decide) rfl dX10_passBattery_60 ?_
        refine lv_bipush (v := 6) hx hb dX10_passBattery_61 (by decide) ?_
        refine gx_v (rest := []) ⟨hx, hb, hml, hown, hts⟩ (mX10_latch l E bb (tP y 0 4 (w0)).2.1 (tP y 0 4 (w0)).2.2.1 0 (by decide) (foc (tP y 0 4 (w0)) 0) 6) (cwV 2 hts gX10_passBattery_X10_latch rfl rfl rfl (by decide +kernel) ⟨Nat.le_of_ble_eq_true rfl, Nat.le_of_ble_eq_true rfl⟩) (pw_foc hW) hK (fx_recv hK (pw_P (o := 0) hW (by decide)) rfl) rfl hl.1 rfl (Nat.le_of_ble_eq_true rfl) dX10_passBattery_63 ⟨Nat.le_of_ble_eq_true rfl, Nat.le_of_ble_eq_true rfl⟩ hS (fun _ h => h) (fun u1 H locs e1 hW9 hS => ?_)
        have hW : pw E bb (put (tP y 0 4 (w0)) 0 u1) H := hW9
        have e1 : fX10_latch 0 6 (foc (tP y 0 4 (w0)) 0) = u1 := e1
        try rw [e1] at hf_51
        exact J66 _ _ _ (put (tP y 0 4 (w0)) 0 u1) hW hS (lv_sub hl [0] rfl) hf_51
  have hf : fX10_passBattery p1 x = (if (x.1 0 5) = 0 then (fX10_passBattery_J34 p1 x (if (0 : Int32) < (((x.1 0 4) - 1) - p1) then (((x.1 0 4) - 1) - p1) else (0 : Int32))) else (fX10_passBattery_J34 p1 x (if ((x.1 0 4) + 4) < (36000 : Int32) then ((x.1 0 4) + 4) else (36000 : Int32)))) := rfl
  refine lv_aload_n hx hb dX10_passBattery_0 rfl (lv_at hl 0 rfl) ?_
  refine lv_aload_n hx hb dX10_passBattery_1 rfl (lv_at hl 0 rfl) ?_
  refine fx_get (ci := 10) (v := .int (x.1 0 5)) hx hb hts i10 hown hK (pw_P (o := 0) hW (by decide)) rfl 5 (by decide) kl33 rfl dX10_passBattery_2 ?_
  refine lv_if_eq (tgt := 22) hx hb dX10_passBattery_5 (by decide) (fun c_5 => ?_) (fun c_5 => ?_)
  · have hf_5 := hf.trans (if_pos c_5)
    refine lv_iconst (v := 0) hx hb dX10_passBattery_22 (by decide) ?_
    refine lv_aload_n hx hb dX10_passBattery_23 rfl (lv_at hl 0 rfl) ?_
    refine fx_get (ci := 10) (v := .int (x.1 0 4)) hx hb hts i10 hown hK (pw_P (o := 0) hW (by decide)) rfl 4 (by decide) kl29 rfl dX10_passBattery_24 ?_
    refine lv_iconst (v := 1) hx hb dX10_passBattery_27 (by decide) ?_
    refine lv_isub hx hb dX10_passBattery_28 ?_
    refine lv_iload_n hx hb dX10_passBattery_29 rfl (lv_at hl 1 rfl) ?_
    refine lv_isub hx hb dX10_passBattery_30 ?_
    refine va_mmax hx hb (hml.trans hl.1.symm) hown (hts (.methodLink RX10 464 Lib.Math.max.name) (by decide +kernel)) (hts (.static Lib.Math.max.name) (by decide +kernel)) (hts (.initialized "java/lang/Math") (by decide +kernel)) (hts (.code Lib.Math.max.name Lib.Math.max.code 2 (some .int)) (by decide +kernel)) (Nat.le_of_ble_eq_true rfl) (Nat.le_of_ble_eq_true rfl) (Nat.le_of_ble_eq_true rfl) (Nat.le_of_ble_eq_true rfl) dX10_passBattery_31 ?_
    exact J34 _ _ _ x (if (0 : Int32) < (((x.1 0 4) - 1) - p1) then (((x.1 0 4) - 1) - p1) else (0 : Int32)) hW hS (lv_sub hl [0] rfl) hf_5
  · have hf_5 := hf.trans (if_neg c_5)
    refine lv_ldc hx hb hown (hts (.constant RX10 28 (36000)) (by decide +kernel)) dX10_passBattery_8 ?_
    refine lv_aload_n hx hb dX10_passBattery_10 rfl (lv_at hl 0 rfl) ?_
    refine fx_get (ci := 10) (v := .int (x.1 0 4)) hx hb hts i10 hown hK (pw_P (o := 0) hW (by decide)) rfl 4 (by decide) kl29 rfl dX10_passBattery_11 ?_
    refine lv_iconst (v := 4) hx hb dX10_passBattery_14 (by decide) ?_
    refine lv_iadd hx hb dX10_passBattery_15 ?_
    refine va_mmin hx hb (hml.trans hl.1.symm) hown (hts (.methodLink RX10 435 Lib.Math.min.name) (by decide +kernel)) (hts (.static Lib.Math.min.name) (by decide +kernel)) (hts (.initialized "java/lang/Math") (by decide +kernel)) (hts (.code Lib.Math.min.name Lib.Math.min.code 2 (some .int)) (by decide +kernel)) (Nat.le_of_ble_eq_true rfl) (Nat.le_of_ble_eq_true rfl) (Nat.le_of_ble_eq_true rfl) (Nat.le_of_ble_eq_true rfl) dX10_passBattery_16 ?_
    refine lv_goto (tgt := 34) hx hb dX10_passBattery_19 (by decide) ?_
    exact J34 _ _ _ x (if ((x.1 0 4) + 4) < (36000 : Int32) then ((x.1 0 4) + 4) else (36000 : Int32)) hW hS (lv_sub hl [0] rfl) hf_5

def fX10_passTick (x : PS) : PS × Int32 := ((fX10_passRelay 2 1 (fX10_passRelay 1 0 (fX10_passRelay 0 2 (fX10_passBattery ((((0 : Int32) + ((fX10_passChannel (tP x 0 3 ((x.1 0 3) + 1)).2.1 0 (foc (tP x 0 3 ((x.1 0 3) + 1)) 0)).2)) + ((fX10_passChannel (put (tP x 0 3 ((x.1 0 3) + 1)) 0 (fX10_passChannel (tP x 0 3 ((x.1 0 3) + 1)).2.1 0 (foc (tP x 0 3 ((x.1 0 3) + 1)) 0)).1).2.1 1 (foc (put (tP x 0 3 ((x.1 0 3) + 1)) 0 (fX10_passChannel (tP x 0 3 ((x.1 0 3) + 1)).2.1 0 (foc (tP x 0 3 ((x.1 0 3) + 1)) 0)).1) 1)).2)) + ((fX10_passChannel (put (put (tP x 0 3 ((x.1 0 3) + 1)) 0 (fX10_passChannel (tP x 0 3 ((x.1 0 3) + 1)).2.1 0 (foc (tP x 0 3 ((x.1 0 3) + 1)) 0)).1) 1 (fX10_passChannel (put (tP x 0 3 ((x.1 0 3) + 1)) 0 (fX10_passChannel (tP x 0 3 ((x.1 0 3) + 1)).2.1 0 (foc (tP x 0 3 ((x.1 0 3) + 1)) 0)).1).2.1 1 (foc (put (tP x 0 3 ((x.1 0 3) + 1)) 0 (fX10_passChannel (tP x 0 3 ((x.1 0 3) + 1)).2.1 0 (foc (tP x 0 3 ((x.1 0 3) + 1)) 0)).1) 1)).1).2.1 2 (foc (put (put (tP x 0 3 ((x.1 0 3) + 1)) 0 (fX10_passChannel (tP x 0 3 ((x.1 0 3) + 1)).2.1 0 (foc (tP x 0 3 ((x.1 0 3) + 1)) 0)).1) 1 (fX10_passChannel (put (tP x 0 3 ((x.1 0 3) + 1)) 0 (fX10_passChannel (tP x 0 3 ((x.1 0 3) + 1)).2.1 0 (foc (tP x 0 3 ((x.1 0 3) + 1)) 0)).1).2.1 1 (foc (put (tP x 0 3 ((x.1 0 3) + 1)) 0 (fX10_passChannel (tP x 0 3 ((x.1 0 3) + 1)).2.1 0 (foc (tP x 0 3 ((x.1 0 3) + 1)) 0)).1) 1)).1) 2)).2)) (put (put (put (tP x 0 3 ((x.1 0 3) + 1)) 0 (fX10_passChannel (tP x 0 3 ((x.1 0 3) + 1)).2.1 0 (foc (tP x 0 3 ((x.1 0 3) + 1)) 0)).1) 1 (fX10_passChannel (put (tP x 0 3 ((x.1 0 3) + 1)) 0 (fX10_passChannel (tP x 0 3 ((x.1 0 3) + 1)).2.1 0 (foc (tP x 0 3 ((x.1 0 3) + 1)) 0)).1).2.1 1 (foc (put (tP x 0 3 ((x.1 0 3) + 1)) 0 (fX10_passChannel (tP x 0 3 ((x.1 0 3) + 1)).2.1 0 (foc (tP x 0 3 ((x.1 0 3) + 1)) 0)).1) 1)).1) 2 (fX10_passChannel (put (put (tP x 0 3 ((x.1 0 3) + 1)) 0 (fX10_passChannel (tP x 0 3 ((x.1 0 3) + 1)).2.1 0 (foc (tP x 0 3 ((x.1 0 3) + 1)) 0)).1) 1 (fX10_passChannel (put (tP x 0 3 ((x.1 0 3) + 1)) 0 (fX10_passChannel (tP x 0 3 ((x.1 0 3) + 1)).2.1 0 (foc (tP x 0 3 ((x.1 0 3) + 1)) 0)).1).2.1 1 (foc (put (tP x 0 3 ((x.1 0 3) + 1)) 0 (fX10_passChannel (tP x 0 3 ((x.1 0 3) + 1)).2.1 0 (foc (tP x 0 3 ((x.1 0 3) + 1)) 0)).1) 1)).1).2.1 2 (foc (put (put (tP x 0 3 ((x.1 0 3) + 1)) 0 (fX10_passChannel (tP x 0 3 ((x.1 0 3) + 1)).2.1 0 (foc (tP x 0 3 ((x.1 0 3) + 1)) 0)).1) 1 (fX10_passChannel (put (tP x 0 3 ((x.1 0 3) + 1)) 0 (fX10_passChannel (tP x 0 3 ((x.1 0 3) + 1)).2.1 0 (foc (tP x 0 3 ((x.1 0 3) + 1)) 0)).1).2.1 1 (foc (put (tP x 0 3 ((x.1 0 3) + 1)) 0 (fX10_passChannel (tP x 0 3 ((x.1 0 3) + 1)).2.1 0 (foc (tP x 0 3 ((x.1 0 3) + 1)) 0)).1) 1)).1) 2)).1))))), (((0 : Int32) + ((fX10_passChannel (tP x 0 3 ((x.1 0 3) + 1)).2.1 0 (foc (tP x 0 3 ((x.1 0 3) + 1)) 0)).2)) + ((fX10_passChannel (put (tP x 0 3 ((x.1 0 3) + 1)) 0 (fX10_passChannel (tP x 0 3 ((x.1 0 3) + 1)).2.1 0 (foc (tP x 0 3 ((x.1 0 3) + 1)) 0)).1).2.1 1 (foc (put (tP x 0 3 ((x.1 0 3) + 1)) 0 (fX10_passChannel (tP x 0 3 ((x.1 0 3) + 1)).2.1 0 (foc (tP x 0 3 ((x.1 0 3) + 1)) 0)).1) 1)).2)) + ((fX10_passChannel (put (put (tP x 0 3 ((x.1 0 3) + 1)) 0 (fX10_passChannel (tP x 0 3 ((x.1 0 3) + 1)).2.1 0 (foc (tP x 0 3 ((x.1 0 3) + 1)) 0)).1) 1 (fX10_passChannel (put (tP x 0 3 ((x.1 0 3) + 1)) 0 (fX10_passChannel (tP x 0 3 ((x.1 0 3) + 1)).2.1 0 (foc (tP x 0 3 ((x.1 0 3) + 1)) 0)).1).2.1 1 (foc (put (tP x 0 3 ((x.1 0 3) + 1)) 0 (fX10_passChannel (tP x 0 3 ((x.1 0 3) + 1)).2.1 0 (foc (tP x 0 3 ((x.1 0 3) + 1)) 0)).1) 1)).1).2.1 2 (foc (put (put (tP x 0 3 ((x.1 0 3) + 1)) 0 (fX10_passChannel (tP x 0 3 ((x.1 0 3) + 1)).2.1 0 (foc (tP x 0 3 ((x.1 0 3) + 1)) 0)).1) 1 (fX10_passChannel (put (tP x 0 3 ((x.1 0 3) + 1)) 0 (fX10_passChannel (tP x 0 3 ((x.1 0 3) + 1)).2.1 0 (foc (tP x 0 3 ((x.1 0 3) + 1)) 0)).1).2.1 1 (foc (put (tP x 0 3 ((x.1 0 3) + 1)) 0 (fX10_passChannel (tP x 0 3 ((x.1 0 3) + 1)).2.1 0 (foc (tP x 0 3 ((x.1 0 3) + 1)) 0)).1) 1)).1) 2)).2))
set_option maxHeartbeats 4000000 in
set_option maxRecDepth 100000 in
theorem mX10_passTick (l : Launch) (E : eE) (bb : Nat) (x : PS) (hok : okP x) : Met l yX10_passTick wsX10_passTick ({ frames := 5, cells := 0, slots := 0, locals := 119 }) (gPre E (pw E bb x) [.ref (bb + 0)]) (gQi E (pw E bb) (fX10_passTick x) (cA bb)) 0 0 (cA bb) := by
  refine Met.ofW (cc := cX10_passTick) (maxL := 3) (ret := (some .int)) (by decide) rfl ?_
  intro p e s m args below meth c s₁ B hml hv
  obtain ⟨rfl, hW, hK⟩ := hv
  have hx := B.exec
  have hb := B.bytes
  have hr := B.returns
  have hts := atoms_spec (ws := wsX10_passTick) B.pre
  have hown : s.vm.findClass RX10 = some m.cls := findClass_of_methodNamed B.named
  have hlocks := B.notSynchronized
  have i10 : ∀ w ∈ wsX100, w ∈ wsX10_passTick := by decide +kernel
  have kl17 := hts (.fieldLink RX10 17 "DosePump" "channels" "[LDosePump$Channel;") (by decide +kernel)
  have kl148 := hts (.fieldLink RX10 148 "DosePump" "time" "I") (by decide +kernel)
  have hS : va_S (cA bb) s.heap s.heap [] := va_S.rf
  have hl := lv_entry ([.ref (bb + 0)]) (n := 3) (Nat.le_of_ble_eq_true rfl)
  rw [lg_entry_eq]
  generalize (lg_sl ([.ref (bb + 0)]) ++ List.replicate (3 - (lg_sl ([.ref (bb + 0)])).length) Slot.unset).toArray = ls at hl ⊢
  have hl : lv_has ls 3 [(0, .ref (bb + 0))] := hl
  have hf : fX10_passTick x = (((fX10_passRelay 2 1 (fX10_passRelay 1 0 (fX10_passRelay 0 2 (fX10_passBattery ((((0 : Int32) + ((fX10_passChannel (tP x 0 3 ((x.1 0 3) + 1)).2.1 0 (foc (tP x 0 3 ((x.1 0 3) + 1)) 0)).2)) + ((fX10_passChannel (put (tP x 0 3 ((x.1 0 3) + 1)) 0 (fX10_passChannel (tP x 0 3 ((x.1 0 3) + 1)).2.1 0 (foc (tP x 0 3 ((x.1 0 3) + 1)) 0)).1).2.1 1 (foc (put (tP x 0 3 ((x.1 0 3) + 1)) 0 (fX10_passChannel (tP x 0 3 ((x.1 0 3) + 1)).2.1 0 (foc (tP x 0 3 ((x.1 0 3) + 1)) 0)).1) 1)).2)) + ((fX10_passChannel (put (put (tP x 0 3 ((x.1 0 3) + 1)) 0 (fX10_passChannel (tP x 0 3 ((x.1 0 3) + 1)).2.1 0 (foc (tP x 0 3 ((x.1 0 3) + 1)) 0)).1) 1 (fX10_passChannel (put (tP x 0 3 ((x.1 0 3) + 1)) 0 (fX10_passChannel (tP x 0 3 ((x.1 0 3) + 1)).2.1 0 (foc (tP x 0 3 ((x.1 0 3) + 1)) 0)).1).2.1 1 (foc (put (tP x 0 3 ((x.1 0 3) + 1)) 0 (fX10_passChannel (tP x 0 3 ((x.1 0 3) + 1)).2.1 0 (foc (tP x 0 3 ((x.1 0 3) + 1)) 0)).1) 1)).1).2.1 2 (foc (put (put (tP x 0 3 ((x.1 0 3) + 1)) 0 (fX10_passChannel (tP x 0 3 ((x.1 0 3) + 1)).2.1 0 (foc (tP x 0 3 ((x.1 0 3) + 1)) 0)).1) 1 (fX10_passChannel (put (tP x 0 3 ((x.1 0 3) + 1)) 0 (fX10_passChannel (tP x 0 3 ((x.1 0 3) + 1)).2.1 0 (foc (tP x 0 3 ((x.1 0 3) + 1)) 0)).1).2.1 1 (foc (put (tP x 0 3 ((x.1 0 3) + 1)) 0 (fX10_passChannel (tP x 0 3 ((x.1 0 3) + 1)).2.1 0 (foc (tP x 0 3 ((x.1 0 3) + 1)) 0)).1) 1)).1) 2)).2)) (put (put (put (tP x 0 3 ((x.1 0 3) + 1)) 0 (fX10_passChannel (tP x 0 3 ((x.1 0 3) + 1)).2.1 0 (foc (tP x 0 3 ((x.1 0 3) + 1)) 0)).1) 1 (fX10_passChannel (put (tP x 0 3 ((x.1 0 3) + 1)) 0 (fX10_passChannel (tP x 0 3 ((x.1 0 3) + 1)).2.1 0 (foc (tP x 0 3 ((x.1 0 3) + 1)) 0)).1).2.1 1 (foc (put (tP x 0 3 ((x.1 0 3) + 1)) 0 (fX10_passChannel (tP x 0 3 ((x.1 0 3) + 1)).2.1 0 (foc (tP x 0 3 ((x.1 0 3) + 1)) 0)).1) 1)).1) 2 (fX10_passChannel (put (put (tP x 0 3 ((x.1 0 3) + 1)) 0 (fX10_passChannel (tP x 0 3 ((x.1 0 3) + 1)).2.1 0 (foc (tP x 0 3 ((x.1 0 3) + 1)) 0)).1) 1 (fX10_passChannel (put (tP x 0 3 ((x.1 0 3) + 1)) 0 (fX10_passChannel (tP x 0 3 ((x.1 0 3) + 1)).2.1 0 (foc (tP x 0 3 ((x.1 0 3) + 1)) 0)).1).2.1 1 (foc (put (tP x 0 3 ((x.1 0 3) + 1)) 0 (fX10_passChannel (tP x 0 3 ((x.1 0 3) + 1)).2.1 0 (foc (tP x 0 3 ((x.1 0 3) + 1)) 0)).1) 1)).1).2.1 2 (foc (put (put (tP x 0 3 ((x.1 0 3) + 1)) 0 (fX10_passChannel (tP x 0 3 ((x.1 0 3) + 1)).2.1 0 (foc (tP x 0 3 ((x.1 0 3) + 1)) 0)).1) 1 (fX10_passChannel (put (tP x 0 3 ((x.1 0 3) + 1)) 0 (fX10_passChannel (tP x 0 3 ((x.1 0 3) + 1)).2.1 0 (foc (tP x 0 3 ((x.1 0 3) + 1)) 0)).1).2.1 1 (foc (put (tP x 0 3 ((x.1 0 3) + 1)) 0 (fX10_passChannel (tP x 0 3 ((x.1 0 3) + 1)).2.1 0 (foc (tP x 0 3 ((x.1 0 3) + 1)) 0)).1) 1)).1) 2)).1))))), (((0 : Int32) + ((fX10_passChannel (tP x 0 3 ((x.1 0 3) + 1)).2.1 0 (foc (tP x 0 3 ((x.1 0 3) + 1)) 0)).2)) + ((fX10_passChannel (put (tP x 0 3 ((x.1 0 3) + 1)) 0 (fX10_passChannel (tP x 0 3 ((x.1 0 3) + 1)).2.1 0 (foc (tP x 0 3 ((x.1 0 3) + 1)) 0)).1).2.1 1 (foc (put (tP x 0 3 ((x.1 0 3) + 1)) 0 (fX10_passChannel (tP x 0 3 ((x.1 0 3) + 1)).2.1 0 (foc (tP x 0 3 ((x.1 0 3) + 1)) 0)).1) 1)).2)) + ((fX10_passChannel (put (put (tP x 0 3 ((x.1 0 3) + 1)) 0 (fX10_passChannel (tP x 0 3 ((x.1 0 3) + 1)).2.1 0 (foc (tP x 0 3 ((x.1 0 3) + 1)) 0)).1) 1 (fX10_passChannel (put (tP x 0 3 ((x.1 0 3) + 1)) 0 (fX10_passChannel (tP x 0 3 ((x.1 0 3) + 1)).2.1 0 (foc (tP x 0 3 ((x.1 0 3) + 1)) 0)).1).2.1 1 (foc (put (tP x 0 3 ((x.1 0 3) + 1)) 0 (fX10_passChannel (tP x 0 3 ((x.1 0 3) + 1)).2.1 0 (foc (tP x 0 3 ((x.1 0 3) + 1)) 0)).1) 1)).1).2.1 2 (foc (put (put (tP x 0 3 ((x.1 0 3) + 1)) 0 (fX10_passChannel (tP x 0 3 ((x.1 0 3) + 1)).2.1 0 (foc (tP x 0 3 ((x.1 0 3) + 1)) 0)).1) 1 (fX10_passChannel (put (tP x 0 3 ((x.1 0 3) + 1)) 0 (fX10_passChannel (tP x 0 3 ((x.1 0 3) + 1)).2.1 0 (foc (tP x 0 3 ((x.1 0 3) + 1)) 0)).1).2.1 1 (foc (put (tP x 0 3 ((x.1 0 3) + 1)) 0 (fX10_passChannel (tP x 0 3 ((x.1 0 3) + 1)).2.1 0 (foc (tP x 0 3 ((x.1 0 3) + 1)) 0)).1) 1)).1) 2)).2))) := rfl
  refine lv_aload_n hx hb dX10_passTick_0 rfl (lv_at hl 0 rfl) ?_
  refine lv_dup hx hb dX10_passTick_1 rfl ?_
  refine fx_get (ci := 10) (v := .int (x.1 0 3)) hx hb hts i10 hown hK (pw_P (o := 0) hW (by decide)) rfl 3 (by decide) kl148 rfl dX10_passTick_2 ?_
  refine lv_iconst (v := 1) hx hb dX10_passTick_5 (by decide) ?_
  refine lv_iadd hx hb dX10_passTick_6 ?_
  refine fx_put (ci := 10) (v := .int ((x.1 0 3) + 1)) hx hb hts i10 tyX10_ok nmX10 hown hK (pw_P (o := 0) hW (by decide)) (cA_P (by decide)) hS rfl 3 (by decide) kl148 rfl rfl rfl (Nat.le_of_ble_eq_true rfl) dX10_passTick_7 (fun H locs hat hne hS => ?_)
  have hW : pw E bb (tP x 0 3 ((x.1 0 3) + 1)) H := pw_sP (o := 0) (k := 3) (v := (x.1 0 3) + 1) hW (by decide) hat hne
  refine lv_iconst (v := 0) hx hb dX10_passTick_10 (by decide) ?_
  refine lv_istore_n (lv' := [(1, .int (0)), (0, .ref (bb + 0))]) hx hb dX10_passTick_11 rfl hl (by decide) rfl (fun ls hl => ?_)
  refine lv_iconst (v := 0) hx hb dX10_passTick_12 (by decide) ?_
  refine lv_istore_n (lv' := [(2, .int (0)), (1, .int (0)), (0, .ref (bb + 0))]) hx hb dX10_passTick_13 rfl hl (by decide) rfl (fun ls hl => ?_)
  refine lv_iload_n hx hb dX10_passTick_14 rfl (lv_at hl 0 rfl) ?_
  refine lv_iconst (v := 3) hx hb dX10_passTick_15 (by decide) ?_
  refine lv_icmp_ge (tgt := 38) hx hb dX10_passTick_16 (by decide) (fun c9 => absurd c9 (by decide)) (fun c9 => ?_)
  refine lv_iload_n hx hb dX10_passTick_19 rfl (lv_at hl 1 rfl) ?_
  refine lv_aload_n hx hb dX10_passTick_20 rfl (lv_at hl 2 rfl) ?_
  refine lv_aload_n hx hb dX10_passTick_21 rfl (lv_at hl 2 rfl) ?_
  refine fx_get (ci := 10) (v := .ref (bb + 2)) hx hb hts i10 hown hK (pw_P (o := 0) hW (by decide)) rfl 1 (by decide) kl17 rfl dX10_passTick_22 ?_
  refine lv_iload_n hx hb dX10_passTick_25 rfl (lv_at hl 0 rfl) ?_
  refine fx_ald (v := .ref (bb + 21 + 14 * 0 + 0)) hx hb hK 2 (pw_P (o := 2) hW (by decide)) rfl (by unfold vp_in; decide) rfl dX10_passTick_26 ?_
  refine gx_i (rest := [.int (0)]) ⟨hx, hb, hml, hown, hts⟩ (mX10_passChannel l E bb (tP x 0 3 ((x.1 0 3) + 1)).2.1 (tP x 0 3 ((x.1 0 3) + 1)).2.2.1 0 (by decide) (foc (tP x 0 3 ((x.1 0 3) + 1)) 0)  ((okP_tP hok) 0 (by decide))) (cwV 1 hts gX10_passTick_X10_passChannel rfl rfl rfl (by decide +kernel) ⟨Nat.le_of_ble_eq_true rfl, Nat.le_of_ble_eq_true rfl⟩) (pw_foc hW) hK (fx_recv hK (pw_P (o := 0) hW (by decide)) rfl) rfl hl.1 rfl (Nat.le_of_ble_eq_true rfl) dX10_passTick_27 ⟨Nat.le_of_ble_eq_true rfl, Nat.le_of_ble_eq_true rfl⟩ hS (fun _ h => h) (fun u1 r1 H locs e1 e1r hW9 hS => ?_)
  have hW : pw E bb (put (tP x 0 3 ((x.1 0 3) + 1)) 0 u1) H := hW9
  have e1 : (fX10_passChannel (tP x 0 3 ((x.1 0 3) + 1)).2.1 0 (foc (tP x 0 3 ((x.1 0 3) + 1)) 0)).1 = u1 := e1
  have e1r : (fX10_passChannel (tP x 0 3 ((x.1 0 3) + 1)).2.1 0 (foc (tP x 0 3 ((x.1 0 3) + 1)) 0)).2 = r1 := e1r
  try rw [e1] at hf
  try rw [e1r] at hf
  have hk1 : okP (put (tP x 0 3 ((x.1 0 3) + 1)) 0 u1) := okP_put (okP_tP hok) (e1 ▸ (okX10_passChannel (by decide) ((okP_tP hok) 0 (by decide))))
  refine lv_iadd hx hb dX10_passTick_30 ?_
  refine lv_istore_n (lv' := [(1, .int ((0 : Int32) + r1)), (2, .int (0)), (0, .ref (bb + 0))]) hx hb dX10_passTick_31 rfl hl (by decide) rfl (fun ls hl => ?_)
  refine lv_iinc (v := 1) (lv' := [(2, .int (1)), (1, .int ((0 : Int32) + r1)), (0, .ref (bb + 0))]) hx hb dX10_passTick_32 hl (k := 1) rfl (by first | rfl | decide) (by decide) rfl (fun ls hl => ?_)
  refine lv_goto (tgt := 14) hx hb dX10_passTick_35 (by decide) ?_
  refine lv_iload_n hx hb dX10_passTick_14 rfl (lv_at hl 0 rfl) ?_
  refine lv_iconst (v := 3) hx hb dX10_passTick_15 (by decide) ?_
  refine lv_icmp_ge (tgt := 38) hx hb dX10_passTick_16 (by decide) (fun c9 => absurd c9 (by decide)) (fun c9 => ?_)
  refine lv_iload_n hx hb dX10_passTick_19 rfl (lv_at hl 1 rfl) ?_
  refine lv_aload_n hx hb dX10_passTick_20 rfl (lv_at hl 2 rfl) ?_
  refine lv_aload_n hx hb dX10_passTick_21 rfl (lv_at hl 2 rfl) ?_
  refine fx_get (ci := 10) (v := .ref (bb + 2)) hx hb hts i10 hown hK (pw_P (o := 0) hW (by decide)) rfl 1 (by decide) kl17 rfl dX10_passTick_22 ?_
  refine lv_iload_n hx hb dX10_passTick_25 rfl (lv_at hl 0 rfl) ?_
  refine fx_ald (v := .ref (bb + 21 + 14 * 1 + 0)) hx hb hK 2 (pw_P (o := 2) hW (by decide)) rfl (by unfold vp_in; decide) rfl dX10_passTick_26 ?_
  refine gx_i (rest := [.int ((0 : Int32) + r1)]) ⟨hx, hb, hml, hown, hts⟩ (mX10_passChannel l E bb (put (tP x 0 3 ((x.1 0 3) + 1)) 0 u1).2.1 (put (tP x 0 3 ((x.1 0 3) + 1)) 0 u1).2.2.1 1 (by decide) (foc (put (tP x 0 3 ((x.1 0 3) + 1)) 0 u1) 1)  (hk1 1 (by decide))) (cwV 1 hts gX10_passTick_X10_passChannel rfl rfl rfl (by decide +kernel) ⟨Nat.le_of_ble_eq_true rfl, Nat.le_of_ble_eq_true rfl⟩) (pw_foc hW) hK (fx_recv hK (pw_P (o := 0) hW (by decide)) rfl) rfl hl.1 rfl (Nat.le_of_ble_eq_true rfl) dX10_passTick_27 ⟨Nat.le_of_ble_eq_true rfl, Nat.le_of_ble_eq_true rfl⟩ hS (fun _ h => h) (fun u2 r2 H locs e2 e2r hW9 hS => ?_)
  have hW : pw E bb (put (put (tP x 0 3 ((x.1 0 3) + 1)) 0 u1) 1 u2) H := hW9
  have e2 : (fX10_passChannel (put (tP x 0 3 ((x.1 0 3) + 1)) 0 u1).2.1 1 (foc (put (tP x 0 3 ((x.1 0 3) + 1)) 0 u1) 1)).1 = u2 := e2
  have e2r : (fX10_passChannel (put (tP x 0 3 ((x.1 0 3) + 1)) 0 u1).2.1 1 (foc (put (tP x 0 3 ((x.1 0 3) + 1)) 0 u1) 1)).2 = r2 := e2r
  try rw [e2] at hf
  try rw [e2r] at hf
  have hk2 : okP (put (put (tP x 0 3 ((x.1 0 3) + 1)) 0 u1) 1 u2) := okP_put hk1 (e2 ▸ (okX10_passChannel (by decide) (hk1 1 (by decide))))
  refine lv_iadd hx hb dX10_passTick_30 ?_
  refine lv_istore_n (lv' := [(1, .int (((0 : Int32) + r1) + r2)), (2, .int (1)), (0, .ref (bb + 0))]) hx hb dX10_passTick_31 rfl hl (by decide) rfl (fun ls hl => ?_)
  refine lv_iinc (v := 2) (lv' := [(2, .int (2)), (1, .int (((0 : Int32) + r1) + r2)), (0, .ref (bb + 0))]) hx hb dX10_passTick_32 hl (k := 1) rfl (by first | rfl | decide) (by decide) rfl (fun ls hl => ?_)
  refine lv_goto (tgt := 14) hx hb dX10_passTick_35 (by decide) ?_
  refine lv_iload_n hx hb dX10_passTick_14 rfl (lv_at hl 0 rfl) ?_
  refine lv_iconst (v := 3) hx hb dX10_passTick_15 (by decide) ?_
  refine lv_icmp_ge (tgt := 38) hx hb dX10_passTick_16 (by decide) (fun c9 => absurd c9 (by decide)) (fun c9 => ?_)
  refine lv_iload_n hx hb dX10_passTick_19 rfl (lv_at hl 1 rfl) ?_
  refine lv_aload_n hx hb dX10_passTick_20 rfl (lv_at hl 2 rfl) ?_
  refine lv_aload_n hx hb dX10_passTick_21 rfl (lv_at hl 2 rfl) ?_
  refine fx_get (ci := 10) (v := .ref (bb + 2)) hx hb hts i10 hown hK (pw_P (o := 0) hW (by decide)) rfl 1 (by decide) kl17 rfl dX10_passTick_22 ?_
  refine lv_iload_n hx hb dX10_passTick_25 rfl (lv_at hl 0 rfl) ?_
  refine fx_ald (v := .ref (bb + 21 + 14 * 2 + 0)) hx hb hK 2 (pw_P (o := 2) hW (by decide)) rfl (by unfold vp_in; decide) rfl dX10_passTick_26 ?_
  refine gx_i (rest := [.int (((0 : Int32) + r1) + r2)]) ⟨hx, hb, hml, hown, hts⟩ (mX10_passChannel l E bb (put (put (tP x 0 3 ((x.1 0 3) + 1)) 0 u1) 1 u2).2.1 (put (put (tP x 0 3 ((x.1 0 3) + 1)) 0 u1) 1 u2).2.2.1 2 (by decide) (foc (put (put (tP x 0 3 ((x.1 0 3) + 1)) 0 u1) 1 u2) 2)  (hk2 2 (by decide))) (cwV 1 hts gX10_passTick_X10_passChannel rfl rfl rfl (by decide +kernel) ⟨Nat.le_of_ble_eq_true rfl, Nat.le_of_ble_eq_true rfl⟩) (pw_foc hW) hK (fx_recv hK (pw_P (o := 0) hW (by decide)) rfl) rfl hl.1 rfl (Nat.le_of_ble_eq_true rfl) dX10_passTick_27 ⟨Nat.le_of_ble_eq_true rfl, Nat.le_of_ble_eq_true rfl⟩ hS (fun _ h => h) (fun u3 r3 H locs e3 e3r hW9 hS => ?_)
  have hW : pw E bb (put (put (put (tP x 0 3 ((x.1 0 3) + 1)) 0 u1) 1 u2) 2 u3) H := hW9
  have e3 : (fX10_passChannel (put (put (tP x 0 3 ((x.1 0 3) + 1)) 0 u1) 1 u2).2.1 2 (foc (put (put (tP x 0 3 ((x.1 0 3) + 1)) 0 u1) 1 u2) 2)).1 = u3 := e3
  have e3r : (fX10_passChannel (put (put (tP x 0 3 ((x.1 0 3) + 1)) 0 u1) 1 u2).2.1 2 (foc (put (put (tP x 0 3 ((x.1 0 3) + 1)) 0 u1) 1 u2) 2)).2 = r3 := e3r
  try rw [e3] at hf
  try rw [e3r] at hf
  have hk3 : okP (put (put (put (tP x 0 3 ((x.1 0 3) + 1)) 0 u1) 1 u2) 2 u3) := okP_put hk2 (e3 ▸ (okX10_passChannel (by decide) (hk2 2 (by decide))))
  refine lv_iadd hx hb dX10_passTick_30 ?_
  refine lv_istore_n (lv' := [(1, .int ((((0 : Int32) + r1) + r2) + r3)), (2, .int (2)), (0, .ref (bb + 0))]) hx hb dX10_passTick_31 rfl hl (by decide) rfl (fun ls hl => ?_)
  refine lv_iinc (v := 3) (lv' := [(2, .int (3)), (1, .int ((((0 : Int32) + r1) + r2) + r3)), (0, .ref (bb + 0))]) hx hb dX10_passTick_32 hl (k := 1) rfl (by first | rfl | decide) (by decide) rfl (fun ls hl => ?_)
  refine lv_goto (tgt := 14) hx hb dX10_passTick_35 (by decide) ?_
  refine lv_iload_n hx hb dX10_passTick_14 rfl (lv_at hl 0 rfl) ?_
  refine lv_iconst (v := 3) hx hb dX10_passTick_15 (by decide) ?_
  refine lv_icmp_ge (tgt := 38) hx hb dX10_passTick_16 (by decide) (fun c9 => ?_) (fun c9 => absurd c9 (by decide))
  refine lv_aload_n hx hb dX10_passTick_38 rfl (lv_at hl 2 rfl) ?_
  refine lv_iload_n hx hb dX10_passTick_39 rfl (lv_at hl 1 rfl) ?_
  refine gx_v (rest := []) ⟨hx, hb, hml, hown, hts⟩ (mX10_passBattery l E bb (put (put (put (tP x 0 3 ((x.1 0 3) + 1)) 0 u1) 1 u2) 2 u3) ((((0 : Int32) + r1) + r2) + r3)) (cwV 1 hts gX10_passTick_X10_passBattery rfl rfl rfl (by decide +kernel) ⟨Nat.le_of_ble_eq_true rfl, Nat.le_of_ble_eq_true rfl⟩) hW hK (fx_recv hK (pw_P (o := 0) hW (by decide)) rfl) rfl hl.1 rfl (Nat.le_of_ble_eq_true rfl) dX10_passTick_40 ⟨Nat.le_of_ble_eq_true rfl, Nat.le_of_ble_eq_true rfl⟩ hS (fun _ h => h) (fun u4 H locs e4 hW hS => ?_)
  have e4 : fX10_passBattery ((((0 : Int32) + r1) + r2) + r3) (put (put (put (tP x 0 3 ((x.1 0 3) + 1)) 0 u1) 1 u2) 2 u3) = u4 := e4
  try rw [e4] at hf
  refine lv_iconst (v := 0) hx hb dX10_passTick_43 (by decide) ?_
  refine lv_istore_n (lv' := [(2, .int (0)), (1, .int ((((0 : Int32) + r1) + r2) + r3)), (0, .ref (bb + 0))]) hx hb dX10_passTick_44 rfl hl (by decide) rfl (fun ls hl => ?_)
  refine lv_iload_n hx hb dX10_passTick_45 rfl (lv_at hl 0 rfl) ?_
  refine lv_iconst (v := 3) hx hb dX10_passTick_46 (by decide) ?_
  refine lv_icmp_ge (tgt := 82) hx hb dX10_passTick_47 (by decide) (fun c9 => absurd c9 (by decide)) (fun c9 => ?_)
  refine lv_aload_n hx hb dX10_passTick_50 rfl (lv_at hl 2 rfl) ?_
  refine lv_aload_n hx hb dX10_passTick_51 rfl (lv_at hl 2 rfl) ?_
  refine fx_get (ci := 10) (v := .ref (bb + 2)) hx hb hts i10 hown hK (pw_P (o := 0) hW (by decide)) rfl 1 (by decide) kl17 rfl dX10_passTick_52 ?_
  refine lv_iload_n hx hb dX10_passTick_55 rfl (lv_at hl 0 rfl) ?_
  refine fx_ald (v := .ref (bb + 21 + 14 * 0 + 0)) hx hb hK 2 (pw_P (o := 2) hW (by decide)) rfl (by unfold vp_in; decide) rfl dX10_passTick_56 ?_
  refine lv_aload_n hx hb dX10_passTick_57 rfl (lv_at hl 2 rfl) ?_
  refine fx_get (ci := 10) (v := .ref (bb + 2)) hx hb hts i10 hown hK (pw_P (o := 0) hW (by decide)) rfl 1 (by decide) kl17 rfl dX10_passTick_58 ?_
  refine lv_iload_n hx hb dX10_passTick_61 rfl (lv_at hl 0 rfl) ?_
  refine lv_if_le (tgt := 71) hx hb dX10_passTick_62 (by decide) (fun c9 => ?_) (fun c9 => absurd c9 (by decide))
  refine lv_iconst (v := 2) hx hb dX10_passTick_71 (by decide) ?_
  refine fx_ald (v := .ref (bb + 21 + 14 * 2 + 0)) hx hb hK 2 (pw_P (o := 2) hW (by decide)) rfl (by unfold vp_in; decide) rfl dX10_passTick_72 ?_
  refine gx_v (rest := []) ⟨hx, hb, hml, hown, hts⟩ (mX10_passRelay l E bb u4 0 2 (by decide) (by decide)) (cwV 2 hts gX10_passTick_X10_passRelay rfl rfl rfl (by decide +kernel) ⟨Nat.le_of_ble_eq_true rfl, Nat.le_of_ble_eq_true rfl⟩) hW hK (fx_recv hK (pw_P (o := 0) hW (by decide)) rfl) rfl hl.1 rfl (Nat.le_of_ble_eq_true rfl) dX10_passTick_73 ⟨Nat.le_of_ble_eq_true rfl, Nat.le_of_ble_eq_true rfl⟩ hS (fun _ h => h) (fun u5 H locs e5 hW hS => ?_)
  have e5 : fX10_passRelay 0 2 u4 = u5 := e5
  try rw [e5] at hf
  refine lv_iinc (v := 1) (lv' := [(2, .int (1)), (1, .int ((((0 : Int32) + r1) + r2) + r3)), (0, .ref (bb + 0))]) hx hb dX10_passTick_76 hl (k := 0) rfl (by first | rfl | decide) (by decide) rfl (fun ls hl => ?_)
  refine lv_goto (tgt := 45) hx hb dX10_passTick_79 (by decide) ?_
  refine lv_iload_n hx hb dX10_passTick_45 rfl (lv_at hl 0 rfl) ?_
  refine lv_iconst (v := 3) hx hb dX10_passTick_46 (by decide) ?_
  refine lv_icmp_ge (tgt := 82) hx hb dX10_passTick_47 (by decide) (fun c9 => absurd c9 (by decide)) (fun c9 => ?_)
  refine lv_aload_n hx hb dX10_passTick_50 rfl (lv_at hl 2 rfl) ?_
  refine lv_aload_n hx hb dX10_passTick_51 rfl (lv_at hl 2 rfl) ?_
  refine fx_get (ci := 10) (v := .ref (bb + 2)) hx hb hts i10 hown hK (pw_P (o := 0) hW (by decide)) rfl 1 (by decide) kl17 rfl dX10_passTick_52 ?_
  refine lv_iload_n hx hb dX10_passTick_55 rfl (lv_at hl 0 rfl) ?_
  refine fx_ald (v := .ref (bb + 21 + 14 * 1 + 0)) hx hb hK 2 (pw_P (o := 2) hW (by decide)) rfl (by unfold vp_in; decide) rfl dX10_passTick_56 ?_
  refine lv_aload_n hx hb dX10_passTick_57 rfl (lv_at hl 2 rfl) ?_
  refine fx_get (ci := 10) (v := .ref (bb + 2)) hx hb hts i10 hown hK (pw_P (o := 0) hW (by decide)) rfl 1 (by decide) kl17 rfl dX10_passTick_58 ?_
  refine lv_iload_n hx hb dX10_passTick_61 rfl (lv_at hl 0 rfl) ?_
  refine lv_if_le (tgt := 71) hx hb dX10_passTick_62 (by decide) (fun c9 => absurd c9 (by decide)) (fun c9 => ?_)
  refine lv_iload_n hx hb dX10_passTick_65 rfl (lv_at hl 0 rfl) ?_
  refine lv_iconst (v := 1) hx hb dX10_passTick_66 (by decide) ?_
  refine lv_isub hx hb dX10_passTick_67 ?_
  refine lv_goto (tgt := 72) hx hb dX10_passTick_68 (by decide) ?_
  refine fx_ald (v := .ref (bb + 21 + 14 * 0 + 0)) hx hb hK 2 (pw_P (o := 2) hW (by decide)) rfl (by unfold vp_in; decide) rfl dX10_passTick_72 ?_
  refine gx_v (rest := []) ⟨hx, hb, hml, hown, hts⟩ (mX10_passRelay l E bb u5 1 0 (by decide) (by decide)) (cwV 2 hts gX10_passTick_X10_passRelay rfl rfl rfl (by decide +kernel) ⟨Nat.le_of_ble_eq_true rfl, Nat.le_of_ble_eq_true rfl⟩) hW hK (fx_recv hK (pw_P (o := 0) hW (by decide)) rfl) rfl hl.1 rfl (Nat.le_of_ble_eq_true rfl) dX10_passTick_73 ⟨Nat.le_of_ble_eq_true rfl, Nat.le_of_ble_eq_true rfl⟩ hS (fun _ h => h) (fun u6 H locs e6 hW hS => ?_)
  have e6 : fX10_passRelay 1 0 u5 = u6 := e6
  try rw [e6] at hf
  refine lv_iinc (v := 2) (lv' := [(2, .int (2)), (1, .int ((((0 : Int32) + r1) + r2) + r3)), (0, .ref (bb + 0))]) hx hb dX10_passTick_76 hl (k := 0) rfl (by first | rfl | decide) (by decide) rfl (fun ls hl => ?_)
  refine lv_goto (tgt := 45) hx hb dX10_passTick_79 (by decide) ?_
  refine lv_iload_n hx hb dX10_passTick_45 rfl (lv_at hl 0 rfl) ?_
  refine lv_iconst (v := 3) hx hb dX10_passTick_46 (by decide) ?_
  refine lv_icmp_ge (tgt := 82) hx hb dX10_passTick_47 (by decide) (fun c9 => absurd c9 (by decide)) (fun c9 => ?_)
  refine lv_aload_n hx hb dX10_passTick_50 rfl (lv_at hl 2 rfl) ?_
  refine lv_aload_n hx hb dX10_passTick_51 rfl (lv_at hl 2 rfl) ?_
  refine fx_get (ci := 10) (v := .ref (bb + 2)) hx hb hts i10 hown hK (pw_P (o := 0) hW (by decide)) rfl 1 (by decide) kl17 rfl dX10_passTick_52 ?_
  refine lv_iload_n hx hb dX10_passTick_55 rfl (lv_at hl 0 rfl) ?_
  refine fx_ald (v := .ref (bb + 21 + 14 * 2 + 0)) hx hb hK 2 (pw_P (o := 2) hW (by decide)) rfl (by unfold vp_in; decide) rfl dX10_passTick_56 ?_
  refine lv_aload_n hx hb dX10_passTick_57 rfl (lv_at hl 2 rfl) ?_
  refine fx_get (ci := 10) (v := .ref (bb + 2)) hx hb hts i10 hown hK (pw_P (o := 0) hW (by decide)) rfl 1 (by decide) kl17 rfl dX10_passTick_58 ?_
  refine lv_iload_n hx hb dX10_passTick_61 rfl (lv_at hl 0 rfl) ?_
  refine lv_if_le (tgt := 71) hx hb dX10_passTick_62 (by decide) (fun c9 => absurd c9 (by decide)) (fun c9 => ?_)
  refine lv_iload_n hx hb dX10_passTick_65 rfl (lv_at hl 0 rfl) ?_
  refine lv_iconst (v := 1) hx hb dX10_passTick_66 (by decide) ?_
  refine lv_isub hx hb dX10_passTick_67 ?_
  refine lv_goto (tgt := 72) hx hb dX10_passTick_68 (by decide) ?_
  refine fx_ald (v := .ref (bb + 21 + 14 * 1 + 0)) hx hb hK 2 (pw_P (o := 2) hW (by decide)) rfl (by unfold vp_in; decide) rfl dX10_passTick_72 ?_
  refine gx_v (rest := []) ⟨hx, hb, hml, hown, hts⟩ (mX10_passRelay l E bb u6 2 1 (by decide) (by decide)) (cwV 2 hts gX10_passTick_X10_passRelay rfl rfl rfl (by decide +kernel) ⟨Nat.le_of_ble_eq_true rfl, Nat.le_of_ble_eq_true rfl⟩) hW hK (fx_recv hK (pw_P (o := 0) hW (by decide)) rfl) rfl hl.1 rfl (Nat.le_of_ble_eq_true rfl) dX10_passTick_73 ⟨Nat.le_of_ble_eq_true rfl, Nat.le_of_ble_eq_true rfl⟩ hS (fun _ h => h) (fun u7 H locs e7 hW hS => ?_)
  have e7 : fX10_passRelay 2 1 u6 = u7 := e7
  try rw [e7] at hf
  refine lv_iinc (v := 3) (lv' := [(2, .int (3)), (1, .int ((((0 : Int32) + r1) + r2) + r3)), (0, .ref (bb + 0))]) hx hb dX10_passTick_76 hl (k := 0) rfl (by first | rfl | decide) (by decide) rfl (fun ls hl => ?_)
  refine lv_goto (tgt := 45) hx hb dX10_passTick_79 (by decide) ?_
  refine lv_iload_n hx hb dX10_passTick_45 rfl (lv_at hl 0 rfl) ?_
  refine lv_iconst (v := 3) hx hb dX10_passTick_46 (by decide) ?_
  refine lv_icmp_ge (tgt := 82) hx hb dX10_passTick_47 (by decide) (fun c9 => ?_) (fun c9 => absurd c9 (by decide))
  refine lv_iload_n hx hb dX10_passTick_82 rfl (lv_at hl 1 rfl) ?_
  exact gx_iret hx hb hr rfl hlocks hK hf hW hS dX10_passTick_83

theorem nar_bo2 {v : Int32} (h : v = 0 ∨ v = 1) : narrow .boolean (.int v) = .int v := by rcases h with rfl | rfl <;> decide
theorem fit_bo2 {v : Int32} (h : v = 0 ∨ v = 1) : fits .boolean (.int v) = true := by rcases h with rfl | rfl <;> decide

def fX10_mains (p1 : Int32) (x : PS) : PS × Int32 := ((tP x 0 5 (p1)), x.1 0 5)
set_option maxHeartbeats 4000000 in
set_option maxRecDepth 100000 in
theorem mX10_mains (l : Launch) (E : eE) (bb : Nat) (x : PS) (p1 : Int32) (hp : p1 = 0 ∨ p1 = 1) (hbo : x.1 0 5 = 0 ∨ x.1 0 5 = 1) : Met l yX10_mains wsX10_mains ({ frames := 0, cells := 0, slots := 0, locals := 0 }) (gPre E (pw E bb x) [.ref (bb + 0), .int (p1)]) (gQi E (pw E bb) (fX10_mains p1 x) (cA bb)) 0 0 (cA bb) := by
  refine Met.ofW (cc := cX10_mains) (maxL := 3) (ret := (some .boolean)) (by decide) rfl ?_
  intro p e s m args below meth c s₁ B hml hv
  obtain ⟨rfl, hW, hK⟩ := hv
  have hx := B.exec
  have hb := B.bytes
  have hr := B.returns
  have hts := atoms_spec (ws := wsX10_mains) B.pre
  have hown : s.vm.findClass RX10 = some m.cls := findClass_of_methodNamed B.named
  have hlocks := B.notSynchronized
  have i10 : ∀ w ∈ wsX100, w ∈ wsX10_mains := by decide +kernel
  have kl33 := hts (.fieldLink RX10 33 "DosePump" "onMains" "Z") (by decide +kernel)
  have hS : va_S (cA bb) s.heap s.heap [] := va_S.rf
  have hl := lv_entry ([.ref (bb + 0), .int (p1)]) (n := 3) (Nat.le_of_ble_eq_true rfl)
  rw [lg_entry_eq]
  generalize (lg_sl ([.ref (bb + 0), .int (p1)]) ++ List.replicate (3 - (lg_sl ([.ref (bb + 0), .int (p1)])).length) Slot.unset).toArray = ls at hl ⊢
  have hl : lv_has ls 3 [(0, .ref (bb + 0)), (1, .int (p1))] := hl
  have hf : fX10_mains p1 x = (((tP x 0 5 (p1)), x.1 0 5)) := rfl
  refine lv_aload_n hx hb dX10_mains_0 rfl (lv_at hl 0 rfl) ?_
  refine fx_get (ci := 10) (v := .int (x.1 0 5)) hx hb hts i10 hown hK (pw_P (o := 0) hW (by decide)) rfl 5 (by decide) kl33 rfl dX10_mains_1 ?_
  refine lv_istore_n (lv' := [(2, .int (x.1 0 5)), (0, .ref (bb + 0)), (1, .int (p1))]) hx hb dX10_mains_4 rfl hl (by decide) rfl (fun ls hl => ?_)
  refine lv_aload_n hx hb dX10_mains_5 rfl (lv_at hl 1 rfl) ?_
  refine lv_iload_n hx hb dX10_mains_6 rfl (lv_at hl 2 rfl) ?_
  refine fx_put (ci := 10) (v := .int (p1)) hx hb hts i10 tyX10_ok nmX10 hown hK (pw_P (o := 0) hW (by decide)) (cA_P (by decide)) hS rfl 5 (by decide) kl33 rfl (nar_bo2 hp) (fit_bo2 hp) (Nat.le_of_ble_eq_true rfl) dX10_mains_7 (fun H locs hat hne hS => ?_)
  have hW : pw E bb (tP x 0 5 (p1)) H := pw_sP (o := 0) (k := 5) (v := p1) hW (by decide) hat hne
  refine lv_iload_n hx hb dX10_mains_10 rfl (lv_at hl 0 rfl) ?_
  exact gx_iret hx hb hr (nar_bo2 hbo) hlocks hK hf hW hS dX10_mains_11

def fX10_chain (x : PS) : Int64 := x.2.2.2
set_option maxHeartbeats 4000000 in
set_option maxRecDepth 100000 in
theorem mX10_chain (l : Launch) (E : eE) (bb : Nat) (x : PS) : Met l yX10_chain wsX10_chain ({ frames := 0, cells := 0, slots := 0, locals := 0 }) (gPre E (pw E bb x) [.ref (bb + 0)]) (gQl E (fun _ : Unit => pw E bb x) ((), fX10_chain x) (cA bb)) 0 0 (cA bb) := by
  refine Met.ofW (cc := cX10_chain) (maxL := 1) (ret := (some .long)) (by decide) rfl ?_
  intro p e s m args below meth c s₁ B hml hv
  obtain ⟨rfl, hW, hK⟩ := hv
  have hx := B.exec
  have hb := B.bytes
  have hr := B.returns
  have hts := atoms_spec (ws := wsX10_chain) B.pre
  have hown : s.vm.findClass RX10 = some m.cls := findClass_of_methodNamed B.named
  have hlocks := B.notSynchronized
  have i5 : ∀ w ∈ wsX50, w ∈ wsX10_chain := by decide +kernel
  have i10 : ∀ w ∈ wsX100, w ∈ wsX10_chain := by decide +kernel
  have kl24 := hts (.fieldLink RX10 24 "DosePump" "journal" "LDosePump$Journal;") (by decide +kernel)
  have kl259 := hts (.fieldLink RX10 259 "DosePump$Journal" "links" "J") (by decide +kernel)
  have hS : va_S (cA bb) s.heap s.heap [] := va_S.rf
  have hl := lv_entry ([.ref (bb + 0)]) (n := 1) (Nat.le_of_ble_eq_true rfl)
  rw [lg_entry_eq]
  generalize (lg_sl ([.ref (bb + 0)]) ++ List.replicate (1 - (lg_sl ([.ref (bb + 0)])).length) Slot.unset).toArray = ls at hl ⊢
  have hl : lv_has ls 1 [(0, .ref (bb + 0))] := hl
  have hf : fX10_chain x = (x.2.2.2) := rfl
  refine lv_aload_n hx hb dX10_chain_0 rfl (lv_at hl 0 rfl) ?_
  refine fx_get (ci := 10) (v := .ref (bb + 3)) hx hb hts i10 hown hK (pw_P (o := 0) hW (by decide)) rfl 2 (by decide) kl24 rfl dX10_chain_1 ?_
  refine fx_get (ci := 5) (v := .long (x.2.2.2)) hx hb hts i5 hown hK (pw_P (o := 3) hW (by decide)) rfl 2 (by decide) kl259 rfl dX10_chain_4 ?_
  exact gx_lret hx hb hr hlocks hK (congrArg (Prod.mk ()) hf) (u := ()) (v := x.2.2.2) hW hS dX10_chain_7
