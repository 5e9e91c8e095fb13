/-! the face: ticks -/
theorem okX10_passRelay {n n2 : Nat} {x : PS} (hn : n < 3) (hok : okP x) : okP (fX10_passRelay n n2 x) := by
  unfold fX10_passRelay
  have h1 : okP (tC x n 0 9 0) := okP_tC hn rfl hok
  split
  · exact hok
  · split
    · exact hok
    · split
      · exact h1
      · exact okP_put h1 (okX10_startRunning (h1 n hn))
theorem okX10_passBattery_L68 {p1 : Int32} : ∀ (k : Nat) (y : PS) (v : Int32), 0 ≤ v.toInt → okP y → okP (fX10_passBattery_L68 p1 k y v) := by
  intro k
  induction k with
  | zero => intro y v _ h; exact h
  | succ k ih =>
    intro y v hv h
    unfold fX10_passBattery_L68
    split
    · exact h
    · rename_i c
      have hv1 := vj_c3s hv c
      split
      · split
        · exact ih _ _ hv1 (okP_put h (okX10_latch (h _ (vj_lt (vj_c3 hv c)))))
        · exact ih _ _ hv1 h
      · exact ih _ _ hv1 h
theorem okX10_passBattery_J66 {p1 : Int32} {y : PS} (hok : okP y) : okP (fX10_passBattery_J66 p1 y) := okX10_passBattery_L68 _ _ _ (Int.le_refl 0) hok
theorem okX10_passBattery_J34 {p1 : Int32} {y : PS} {w : Int32} (hok : okP y) : okP (fX10_passBattery_J34 p1 y w) := by
  unfold fX10_passBattery_J34
  have h1 : okP (tP y 0 4 w) := okP_tP hok
  split
  · split
    · exact okX10_passBattery_J66 h1
    · exact okX10_passBattery_J66 (okP_put h1 (okX10_latch (h1 0 (by decide))))
  · exact okX10_passBattery_J66 h1
theorem okX10_passBattery {p1 : Int32} {x : PS} (hok : okP x) : okP (fX10_passBattery p1 x) := by
  unfold fX10_passBattery
  split <;> exact okX10_passBattery_J34 hok
/-- a channel's part of a tick, in the whole pump -/
def pC (n : Nat) (x : PS) : PS := put x n (fX10_passChannel x.2.1 n (foc x n)).1
def pN (n : Nat) (x : PS) : Int32 := (fX10_passChannel x.2.1 n (foc x n)).2
def pT0 (x : PS) : PS := tP x 0 3 ((x.1 0 3) + 1)
def pSum (x : PS) : Int32 := (((0 : Int32) + pN 0 (pT0 x)) + pN 1 (pC 0 (pT0 x))) + pN 2 (pC 1 (pC 0 (pT0 x)))
def pBat (x : PS) : PS := fX10_passBattery (pSum x) (pC 2 (pC 1 (pC 0 (pT0 x))))
theorem fX10_passTick_eq (x : PS) : fX10_passTick x = (fX10_passRelay 2 1 (fX10_passRelay 1 0 (fX10_passRelay 0 2 (pBat x))), pSum x) := by
  unfold pBat pSum pN pC pT0 fX10_passTick
  rfl
theorem okP_pC {n : Nat} {x : PS} (hn : n < 3) (hok : okP x) : okP (pC n x) := okP_put hok (okX10_passChannel hn (hok n hn))
theorem fX10_passTick_1 (x : PS) : (fX10_passTick x).1 = fX10_passRelay 2 1 (fX10_passRelay 1 0 (fX10_passRelay 0 2 (pBat x))) := by
  rw [fX10_passTick_eq]
theorem fX10_passTick_2 (x : PS) : (fX10_passTick x).2 = pSum x := by
  rw [fX10_passTick_eq]
theorem okP_pT0 {x : PS} (hok : okP x) : okP (pT0 x) := by
  unfold pT0
  exact okP_tP hok
theorem okP_pBat {x : PS} (hok : okP x) : okP (pBat x) := by
  unfold pBat
  exact okX10_passBattery (okP_pC (n := 2) (by decide) (okP_pC (n := 1) (by decide) (okP_pC (n := 0) (by decide) (okP_pT0 hok))))
theorem okX10_passTick {x : PS} (hok : okP x) : okP (fX10_passTick x).1 := by
  rw [fX10_passTick_1]
  have h4 : okP (pBat x) := okP_pBat hok
  generalize pBat x = z at h4
  exact okX10_passRelay (by decide) (okX10_passRelay (by decide) (okX10_passRelay (by decide) h4))

def fX10_ticks_L25 (p1 : Int32) : Nat → PS → Int32 → Int32 → Nat × PS × Int32
  | 0, y, v2, v3 => (0, y, 0)
  | k9 + 1, y, v2, v3 => if p1 ≤ v3 then ((0, y, v2)) else (fX10_ticks_L25 p1 k9 (fX10_passTick y).1 (v2 + ((fX10_passTick y).2)) (v3 + 1))
def fX10_ticks (p1 : Int32) (x : PS) : Nat × PS × Int32 := if p1 < 0 then ((xcode "java/lang/IllegalArgumentException", x, 0)) else (if p1 ≤ 600 then (fX10_ticks_L25 p1 (mu32 0 p1 + 1) x 0 0) else ((xcode "java/lang/IllegalArgumentException", x, 0)))
set_option maxHeartbeats 4000000 in
set_option maxRecDepth 100000 in
theorem mX10_ticks (l : Launch) (hl9 : l.stackTraces = false) (E : eE) (bb sz : Nat) (x : PS) (p1 : Int32) (hok : okP x) : vx_Met l yX10_ticks wsX10_ticks ({ frames := 6, cells := 1, slots := 6, locals := 141 }) (xPre E bb sz (pw E bb x) [.ref (bb + 0), .int (p1)]) (xQi E (pw E bb) (fX10_ticks p1 x) (xA bb sz)) (xX E (pw E bb) (fX10_ticks p1 x) (xA bb sz)) 1 6 (xA bb sz) := by
  refine vx_ofW (cc := cX10_ticks) (maxL := 4) (ret := (some .int)) (by decide) rfl ?_
  intro p e s m args below meth c s₁ B hml hEx hv
  obtain ⟨rfl, hsz, hW, hK, hxs⟩ := hv
  subst hsz
  have hx := B.exec
  have hb := B.bytes
  have hr := B.returns
  have hts := atoms_spec (ws := wsX10_ticks) B.pre
  have hown : s.vm.findClass RX10 = some m.cls := findClass_of_methodNamed B.named
  have hlocks := B.notSynchronized
  have hS : va_S (xA bb s.heap.size) s.heap s.heap [] := va_S.rf
  have hl := lv_entry ([.ref (bb + 0), .int (p1)]) (n := 4) (Nat.le_of_ble_eq_true rfl)
  rw [lg_entry_eq]
  generalize (lg_sl ([.ref (bb + 0), .int (p1)]) ++ List.replicate (4 - (lg_sl ([.ref (bb + 0), .int (p1)])).length) Slot.unset).toArray = ls at hl ⊢
  have hl : lv_has ls 4 [(0, .ref (bb + 0)), (1, .int (p1))] := hl
  have J25 : ∀ (k8 : Nat) (H : Heap) (locs : List Loc) (ls : Array Slot) (y : PS) (v2 : Int32) (v3 : Int32), pw E bb y H → va_S (xA bb s.heap.size) s.heap H locs → lv_has ls 4 [(0, .ref (bb + 0)), (1, .int (p1)), (2, .int (v2)), (3, .int (v3))] → okP y → mu32 v3 p1 < k8 → fX10_ticks p1 x = fX10_ticks_L25 p1 k8 y v2 v3 → W p l e (headSpec wsX10_ticks { frames := 6, cells := 1, slots := 6, locals := 141 }).room s m ([.ref (bb + 0), .int (p1)] : List Value).toArray below meth c H locs 0 0 (vx_MQ below (xQi E (pw E bb) (fX10_ticks p1 x) (xA bb s.heap.size)) (xX E (pw E bb) (fX10_ticks p1 x) (xA bb s.heap.size)) ([.ref (bb + 0), .int (p1)] : List Value).toArray s 1 6 (xA bb s.heap.size)) (F0 m 25 ls []) := by
    intro k8
    induction k8 with
    | zero =>
      intro H locs ls y v2 v3 hW hS hl hok hmu hf
      exact absurd hmu (by omega)
    | succ k9 ih =>
      intro H locs ls y v2 v3 hW hS hl hok hmu hf
      replace hf : fX10_ticks p1 x = (if p1 ≤ v3 then ((0, y, v2)) else (fX10_ticks_L25 p1 k9 (fX10_passTick y).1 (v2 + ((fX10_passTick y).2)) (v3 + 1))) := hf
      refine lv_iload_n hx hb dX10_ticks_25 rfl (lv_at hl 3 rfl) ?_
      refine lv_iload_n hx hb dX10_ticks_26 rfl (lv_at hl 1 rfl) ?_
      refine lv_icmp_ge (tgt := 43) hx hb dX10_ticks_27 (by decide) (fun c_27 => ?_) (fun c_27 => ?_)
      · have hf_27 := hf.trans (if_pos c_27)
        refine lv_iload_n hx hb dX10_ticks_43 rfl (lv_at hl 2 rfl) ?_
        exact xx_iret hx hb hr rfl hlocks hK hf_27 hW hS dX10_ticks_44 (Nat.le_of_ble_eq_true rfl) (Nat.le_of_ble_eq_true rfl)
      · have hf_27 := hf.trans (if_neg c_27)
        refine lv_iload_n hx hb dX10_ticks_30 rfl (lv_at hl 2 rfl) ?_
        refine lv_aload_n hx hb dX10_ticks_31 rfl (lv_at hl 0 rfl) ?_
        refine gx_i (rest := [.int (v2)]) ⟨hx, hb, hml, hown, hts⟩ (mX10_passTick l E bb y hok) (cwV 0 hts gX10_ticks_X10_passTick rfl rfl rfl (by decide +kernel) ⟨Nat.le_of_ble_eq_true rfl, Nat.le_of_ble_eq_true rfl⟩) hW hK (fx_recv hK (pw_P (o := 0) hW (by decide)) rfl) rfl hl.1 rfl (Nat.le_of_ble_eq_true rfl) dX10_ticks_32 ⟨Nat.le_of_ble_eq_true rfl, Nat.le_of_ble_eq_true rfl⟩ hS (fun _ h => Or.inl h) (fun u1 r1 H locs e1 e1r hW hS => ?_)
        have e1 : (fX10_passTick y).1 = u1 := e1
        have e1r : (fX10_passTick y).2 = r1 := e1r
        try rw [e1] at hf_27
        try rw [e1r] at hf_27
        refine lv_iadd hx hb dX10_ticks_35 ?_
        refine lv_istore_n (lv' := [(2, .int (v2 + r1)), (0, .ref (bb + 0)), (1, .int (p1)), (3, .int (v3))]) hx hb dX10_ticks_36 rfl hl (by decide) rfl (fun ls hl => ?_)
        refine lv_iinc (v := v3 + 1) (lv' := [(3, .int (v3 + 1)), (2, .int (v2 + r1)), (0, .ref (bb + 0)), (1, .int (p1))]) hx hb dX10_ticks_37 hl (k := 3) rfl (by first | rfl | decide) (by decide) rfl (fun ls hl => ?_)
        refine lv_goto (tgt := 25) hx hb dX10_ticks_40 (by decide) ?_
        exact ih _ _ _ u1 (v2 + r1) (v3 + 1) hW hS (lv_sub hl [2, 3, 1, 0] rfl) (e1 ▸ okX10_passTick hok) (mu32_step c_27 hmu) hf_27
  have hf : fX10_ticks p1 x = (if p1 < 0 then ((xcode "java/lang/IllegalArgumentException", x, 0)) else (if p1 ≤ 600 then (fX10_ticks_L25 p1 (mu32 0 p1 + 1) x 0 0) else ((xcode "java/lang/IllegalArgumentException", x, 0)))) := rfl
  refine lv_iload_n hx hb dX10_ticks_0 rfl (lv_at hl 1 rfl) ?_
  refine lv_if_lt (tgt := 11) hx hb dX10_ticks_1 (by decide) (fun c_1 => ?_) (fun c_1 => ?_)
  · have hf_1 := hf.trans (if_pos c_1)
    exact xx_throw (X := "java/lang/IllegalArgumentException") (text := "ticks") (ik := 48) (is := 115) (ic := 52) hx hb hl9 hown (by decide) (by decide) (by decide +kernel) (hts (.classLink RX10 48 "java/lang/IllegalArgumentException") (by decide +kernel)) (hts (.initialized "java/lang/IllegalArgumentException") (by decide +kernel)) (fun w hw => hts w ((by decide +kernel : ∀ w ∈ (vx_atS RX10 52 "java/lang/IllegalArgumentException" xNm).filter goodWord, w ∈ wsX10_ticks) w hw)) (by decide +kernel) (by decide +kernel) hxs hS (hl.1.trans hml.symm) dX10_ticks_11 dX10_ticks_14 dX10_ticks_15 dX10_ticks_17 dX10_ticks_20 hEx (Nat.le_of_ble_eq_true rfl) (Nat.le_of_ble_eq_true rfl) (Nat.le_of_ble_eq_true rfl) (Nat.le_of_ble_eq_true rfl) (Nat.le_of_ble_eq_true rfl) (Nat.le_of_ble_eq_true rfl) hlocks hK hf_1 hW
  · have hf_1 := hf.trans (if_neg c_1)
    refine lv_iload_n hx hb dX10_ticks_4 rfl (lv_at hl 1 rfl) ?_
    refine lv_sipush (v := 600) hx hb dX10_ticks_5 (by decide) ?_
    refine lv_icmp_le (tgt := 21) hx hb dX10_ticks_8 (by decide) (fun c_8 => ?_) (fun c_8 => ?_)
    · have hf_8 := hf_1.trans (if_pos c_8)
      refine lv_iconst (v := 0) hx hb dX10_ticks_21 (by decide) ?_
      refine lv_istore_n (lv' := [(2, .int (0)), (0, .ref (bb + 0)), (1, .int (p1))]) hx hb dX10_ticks_22 rfl hl (by decide) rfl (fun ls hl => ?_)
      refine lv_iconst (v := 0) hx hb dX10_ticks_23 (by decide) ?_
      refine lv_istore_n (lv' := [(3, .int (0)), (2, .int (0)), (0, .ref (bb + 0)), (1, .int (p1))]) hx hb dX10_ticks_24 rfl hl (by decide) rfl (fun ls hl => ?_)
      exact J25 _ _ _ _ x 0 0 hW hS (lv_sub hl [2, 3, 1, 0] rfl) hok (Nat.lt_succ_self _) hf_8
    · have hf_8 := hf_1.trans (if_neg c_8)
      exact xx_throw (X := "java/lang/IllegalArgumentException") (text := "ticks") (ik := 48) (is := 115) (ic := 52) hx hb hl9 hown (by decide) (by decide) (by decide +kernel) (hts (.classLink RX10 48 "java/lang/IllegalArgumentException") (by decide +kernel)) (hts (.initialized "java/lang/IllegalArgumentException") (by decide +kernel)) (fun w hw => hts w ((by decide +kernel : ∀ w ∈ (vx_atS RX10 52 "java/lang/IllegalArgumentException" xNm).filter goodWord, w ∈ wsX10_ticks) w hw)) (by decide +kernel) (by decide +kernel) hxs hS (hl.1.trans hml.symm) dX10_ticks_11 dX10_ticks_14 dX10_ticks_15 dX10_ticks_17 dX10_ticks_20 hEx (Nat.le_of_ble_eq_true rfl) (Nat.le_of_ble_eq_true rfl) (Nat.le_of_ble_eq_true rfl) (Nat.le_of_ble_eq_true rfl) (Nat.le_of_ble_eq_true rfl) (Nat.le_of_ble_eq_true rfl) hlocks hK hf_8 hW
