/-! the face: methods that throw -/
theorem vj_of3 {d : Int32} (h1 : ¬ d < 0) (h2 : d < 3) : vp_in d 3 := by
  rw [vp_in_iff]
  rw [Int32.lt_iff_toInt_lt, show (0 : Int32).toInt = 0 from rfl] at h1
  rw [Int32.lt_iff_toInt_lt, show (3 : Int32).toInt = 3 from rfl] at h2
  omega

def fX10_channelAt (p1 : Int32) (x : PS) : Nat × PS × Int32 := if p1 < 0 then ((xcode "java/lang/IndexOutOfBoundsException", x, 0)) else (if p1 < 3 then ((0, x, p1)) else ((xcode "java/lang/IndexOutOfBoundsException", x, 0)))
set_option maxHeartbeats 4000000 in
set_option maxRecDepth 100000 in
theorem mX10_channelAt (l : Launch) (hl9 : l.stackTraces = false) (E : eE) (bb sz : Nat) (x : PS) (p1 : Int32) : vx_Met l yX10_channelAt wsX10_channelAt ({ frames := 6, cells := 1, slots := 6, locals := 90 }) (xPre E bb sz (pw E bb x) [.ref (bb + 0), .int (p1)]) (xQr E (pw E bb) (fun r => bb + 21 + 14 * r.toNatClampNeg + 0) (fX10_channelAt p1 x) (xA bb sz)) (xX E (pw E bb) (fX10_channelAt p1 x) (xA bb sz)) 1 6 (xA bb sz) := by
  refine vx_ofW (cc := cX10_channelAt) (maxL := 2) (ret := (some (.object "DosePump$Channel"))) (by decide) rfl ?_
  intro p e s m args below meth c s₁ B hml hEx hv
  obtain ⟨rfl, hsz, hW, hK, hxs⟩ := hv
  subst hsz
  have hx := B.exec
  have hb := B.bytes
  have hr := B.returns
  have hts := atoms_spec (ws := wsX10_channelAt) B.pre
  have hown : s.vm.findClass RX10 = some m.cls := findClass_of_methodNamed B.named
  have hlocks := B.notSynchronized
  have i10 : ∀ w ∈ wsX100, w ∈ wsX10_channelAt := by decide +kernel
  have kl17 := hts (.fieldLink RX10 17 "DosePump" "channels" "[LDosePump$Channel;") (by decide +kernel)
  have hS : va_S (xA bb s.heap.size) s.heap s.heap [] := va_S.rf
  have hl := lv_entry ([.ref (bb + 0), .int (p1)]) (n := 2) (Nat.le_of_ble_eq_true rfl)
  rw [lg_entry_eq]
  generalize (lg_sl ([.ref (bb + 0), .int (p1)]) ++ List.replicate (2 - (lg_sl ([.ref (bb + 0), .int (p1)])).length) Slot.unset).toArray = ls at hl ⊢
  have hl : lv_has ls 2 [(0, .ref (bb + 0)), (1, .int (p1))] := hl
  have hf : fX10_channelAt p1 x = (if p1 < 0 then ((xcode "java/lang/IndexOutOfBoundsException", x, 0)) else (if p1 < 3 then ((0, x, p1)) else ((xcode "java/lang/IndexOutOfBoundsException", x, 0)))) := rfl
  refine lv_iload_n hx hb dX10_channelAt_0 rfl (lv_at hl 1 rfl) ?_
  refine lv_if_lt (tgt := 9) hx hb dX10_channelAt_1 (by decide) (fun c_1 => ?_) (fun c_1 => ?_)
  · have hf_1 := hf.trans (if_pos c_1)
    exact xx_throwW (X := "java/lang/IndexOutOfBoundsException") (text := "no such channel") (ik := 41) (is := 263) (ic := 45) hx hb hl9 hown (by decide) (by decide) (by decide +kernel) (hts (.classLink RX10 41 "java/lang/IndexOutOfBoundsException") (by decide +kernel)) (hts (.initialized "java/lang/IndexOutOfBoundsException") (by decide +kernel)) (fun w hw => hts w ((by decide +kernel : ∀ w ∈ (vx_atS RX10 45 "java/lang/IndexOutOfBoundsException" xNm).filter goodWord, w ∈ wsX10_channelAt) w hw)) (by decide +kernel) (by decide +kernel) hxs hS (hl.1.trans hml.symm) dX10_channelAt_9 dX10_channelAt_12 dX10_channelAt_13 dX10_channelAt_16 dX10_channelAt_19 hEx (Nat.le_of_ble_eq_true rfl) (Nat.le_of_ble_eq_true rfl) (Nat.le_of_ble_eq_true rfl) (Nat.le_of_ble_eq_true rfl) (Nat.le_of_ble_eq_true rfl) (Nat.le_of_ble_eq_true rfl) hlocks hK hf_1 hW
  · have hf_1 := hf.trans (if_neg c_1)
    refine lv_iload_n hx hb dX10_channelAt_4 rfl (lv_at hl 1 rfl) ?_
    refine lv_iconst (v := 3) hx hb dX10_channelAt_5 (by decide) ?_
    refine lv_icmp_lt (tgt := 20) hx hb dX10_channelAt_6 (by decide) (fun c_6 => ?_) (fun c_6 => ?_)
    · have hf_6 := hf_1.trans (if_pos c_6)
      refine lv_aload_n hx hb dX10_channelAt_20 rfl (lv_at hl 0 rfl) ?_
      refine fx_get (ci := 10) (v := .ref (bb + 2)) hx hb hts i10 hown hK (pw_P (o := 0) hW (by decide)) rfl 1 (by decide) kl17 rfl dX10_channelAt_21 ?_
      refine lv_iload_n hx hb dX10_channelAt_24 rfl (lv_at hl 1 rfl) ?_
      refine fx_ald (v := .ref (bb + 21 + 14 * p1.toNatClampNeg + 0)) hx hb hK 2 (pw_P (o := 2) hW (by decide)) rfl (vj_of3 c_1 c_6) rfl dX10_channelAt_25 ?_
      exact xx_aret (v := p1) hx hb hr ⟨_, rfl⟩ hlocks hK hf_6 rfl hW hS dX10_channelAt_26 (Nat.le_of_ble_eq_true rfl) (Nat.le_of_ble_eq_true rfl)
    · have hf_6 := hf_1.trans (if_neg c_6)
      exact xx_throwW (X := "java/lang/IndexOutOfBoundsException") (text := "no such channel") (ik := 41) (is := 263) (ic := 45) hx hb hl9 hown (by decide) (by decide) (by decide +kernel) (hts (.classLink RX10 41 "java/lang/IndexOutOfBoundsException") (by decide +kernel)) (hts (.initialized "java/lang/IndexOutOfBoundsException") (by decide +kernel)) (fun w hw => hts w ((by decide +kernel : ∀ w ∈ (vx_atS RX10 45 "java/lang/IndexOutOfBoundsException" xNm).filter goodWord, w ∈ wsX10_channelAt) w hw)) (by decide +kernel) (by decide +kernel) hxs hS (hl.1.trans hml.symm) dX10_channelAt_9 dX10_channelAt_12 dX10_channelAt_13 dX10_channelAt_16 dX10_channelAt_19 hEx (Nat.le_of_ble_eq_true rfl) (Nat.le_of_ble_eq_true rfl) (Nat.le_of_ble_eq_true rfl) (Nat.le_of_ble_eq_true rfl) (Nat.le_of_ble_eq_true rfl) (Nat.le_of_ble_eq_true rfl) hlocks hK hf_6 hW

theorem pureX10_channelAt {p1 : Int32} {x : PS} : (fX10_channelAt p1 x).2.1 = x := by
  unfold fX10_channelAt
  split
  · rfl
  · split <;> rfl
theorem inX10_channelAt {p1 : Int32} {x : PS} (h : (fX10_channelAt p1 x).1 = 0) : vp_in p1 3 := by
  unfold fX10_channelAt at h
  split at h
  · exact absurd (show xcode "java/lang/IndexOutOfBoundsException" = 0 from h) (xcode_ne _)
  · rename_i c1
    split at h
    · rename_i c2; exact vj_of3 c1 c2
    · exact absurd (show xcode "java/lang/IndexOutOfBoundsException" = 0 from h) (xcode_ne _)
theorem ansX10_channelAt {p1 : Int32} {x : PS} (h : (fX10_channelAt p1 x).1 = 0) : (fX10_channelAt p1 x).2.2 = p1 := by
  unfold fX10_channelAt at h ⊢
  split at h
  · exact absurd (show xcode "java/lang/IndexOutOfBoundsException" = 0 from h) (xcode_ne _)
  · rename_i c1
    rw [if_neg c1]
    split at h
    · rename_i c2; rw [if_pos c2]
    · exact absurd (show xcode "java/lang/IndexOutOfBoundsException" = 0 from h) (xcode_ne _)
