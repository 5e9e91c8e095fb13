/-! the reference: ticks, lines, mains -/
def fX11_ticks_L34 (p1 : Int32) : Nat → RS → Int32 → Int32 → RS × Int32
  | 0, y, v2, v3 => (y, 0)
  | k9 + 1, y, v2, v3 => if p1 ≤ v3 then ((y, v2)) else (fX11_ticks_L34 p1 k9 (fX11_tick y).1 (v2 + ((fX11_tick y).2)) (v3 + 1))
def fX11_ticks (p1 : Int32) (x : RS) : RS × Int32 := if (fX11_isIn p1.toInt64 0 600 x) = 0 then (((sR x 0 0 (1)), 0)) else (fX11_ticks_L34 p1 (mu32 0 p1 + 1) (sR x 0 0 (0)) 0 0)
set_option maxHeartbeats 4000000 in
set_option maxRecDepth 100000 in
theorem mX11_ticks (l : Launch) (E : eE) (rr : Nat) (x : RS) (p1 : Int32) (tg : Nat) (bg : Nat) (hok : okR (tg + (mu32 0 p1 + 1)) (bg + 8 * (mu32 0 p1 + 1)) x) : Met l yX11_ticks wsX11_ticks ({ frames := 6, cells := 0, slots := 0, locals := 140 }) (gPre E (rw_ E rr x) [.ref (rr + 0), .int (p1)]) (gQi E (rw_ E rr) (fX11_ticks p1 x) (rA rr)) 0 0 (rA rr) := by
  refine Met.ofW (cc := cX11_ticks) (maxL := 4) (ret := (some .int)) (by decide) rfl ?_
  intro p e s m args below meth c s₁ B hml hv
  obtain ⟨rfl, hW, hK⟩ := hv
  have hx := B.exec
  have hb := B.bytes
  have hr := B.returns
  have hts := atoms_spec (ws := wsX11_ticks) B.pre
  have hown : s.vm.findClass RX11 = some m.cls := findClass_of_methodNamed B.named
  have hlocks := B.notSynchronized
  have i11 : ∀ w ∈ wsX110, w ∈ wsX11_ticks := by decide +kernel
  have kl159 := hts (.fieldLink RX11 159 "DosePumpModel" "thrown" "I") (by decide +kernel)
  have hS : va_S (rA rr) s.heap s.heap [] := va_S.rf
  have hl := lv_entry ([.ref (rr + 0), .int (p1)]) (n := 4) (Nat.le_of_ble_eq_true rfl)
  rw [lg_entry_eq]
  generalize (lg_sl ([.ref (rr + 0), .int (p1)]) ++ List.replicate (4 - (lg_sl ([.ref (rr + 0), .int (p1)])).length) Slot.unset).toArray = ls at hl ⊢
  have hl : lv_has ls 4 [(0, .ref (rr + 0)), (1, .int (p1))] := hl
  have J34 : ∀ (k8 : Nat) (H : Heap) (locs : List Loc) (ls : Array Slot) (y : RS) (v2 : Int32) (v3 : Int32), rw_ E rr y H → va_S (rA rr) s.heap H locs → lv_has ls 4 [(0, .ref (rr + 0)), (1, .int (p1)), (2, .int (v2)), (3, .int (v3))] → okR (tg + k8) (bg + 8 * k8) y → mu32 v3 p1 < k8 → fX11_ticks p1 x = fX11_ticks_L34 p1 k8 y v2 v3 → W p l e (headSpec wsX11_ticks { frames := 6, cells := 0, slots := 0, locals := 140 }).room s m ([.ref (rr + 0), .int (p1)] : List Value).toArray below meth c H locs 0 0 (MQ below (gQi E (rw_ E rr) (fX11_ticks p1 x) (rA rr)) ([.ref (rr + 0), .int (p1)] : List Value).toArray s 0 0 (rA rr)) (F0 m 34 ls []) := by
    intro k8
    induction k8 with
    | zero =>
      intro H locs ls y v2 v3 hW hS hl hok hmu hf
      exact absurd hmu (by omega)
    | succ k9 ih =>
      intro H locs ls y v2 v3 hW hS hl hok hmu hf
      have hok : okR ((tg + k9) + 1) ((bg + 8 * k9) + 8) y := hok
      replace hf : fX11_ticks p1 x = (if p1 ≤ v3 then ((y, v2)) else (fX11_ticks_L34 p1 k9 (fX11_tick y).1 (v2 + ((fX11_tick y).2)) (v3 + 1))) := hf
      refine lv_iload_n hx hb dX11_ticks_34 rfl (lv_at hl 3 rfl) ?_
      refine lv_iload_n hx hb dX11_ticks_35 rfl (lv_at hl 1 rfl) ?_
      refine lv_icmp_ge (tgt := 52) hx hb dX11_ticks_36 (by decide) (fun c_36 => ?_) (fun c_36 => ?_)
      · have hf_36 := hf.trans (if_pos c_36)
        refine lv_iload_n hx hb dX11_ticks_52 rfl (lv_at hl 2 rfl) ?_
        exact gx_iret hx hb hr rfl hlocks hK hf_36 hW hS dX11_ticks_53
      · have hf_36 := hf.trans (if_neg c_36)
        refine lv_iload_n hx hb dX11_ticks_39 rfl (lv_at hl 2 rfl) ?_
        refine lv_aload_n hx hb dX11_ticks_40 rfl (lv_at hl 0 rfl) ?_
        refine gx_i (rest := [.int (v2)]) ⟨hx, hb, hml, hown, hts⟩ (mX11_tick l E rr y _ _ hok) (cwV 0 hts gX11_ticks_X11_tick rfl rfl rfl (by decide +kernel) ⟨Nat.le_of_ble_eq_true rfl, Nat.le_of_ble_eq_true rfl⟩) hW hK (fx_recv hK (rwc_0 hW) rfl) rfl hl.1 rfl (Nat.le_of_ble_eq_true rfl) dX11_ticks_41 ⟨Nat.le_of_ble_eq_true rfl, Nat.le_of_ble_eq_true rfl⟩ hS (fun _ h => h) (fun u2 r2 H locs e2 e2r hW hS => ?_)
        have e2 : (fX11_tick y).1 = u2 := e2
        have e2r : (fX11_tick y).2 = r2 := e2r
        try rw [e2] at hf_36
        try rw [e2r] at hf_36
        have hk2 : okR (tg + k9) (bg + 8 * k9) u2 := e2 ▸ (okX11_tick hok)
        refine lv_iadd hx hb dX11_ticks_44 ?_
        refine lv_istore_n (lv' := [(2, .int (v2 + r2)), (0, .ref (rr + 0)), (1, .int (p1)), (3, .int (v3))]) hx hb dX11_ticks_45 rfl hl (by decide) rfl (fun ls hl => ?_)
        refine lv_iinc (v := v3 + 1) (lv' := [(3, .int (v3 + 1)), (2, .int (v2 + r2)), (0, .ref (rr + 0)), (1, .int (p1))]) hx hb dX11_ticks_46 hl (k := 3) rfl (by first | rfl | decide) (by decide) rfl (fun ls hl => ?_)
        refine lv_goto (tgt := 34) hx hb dX11_ticks_49 (by decide) ?_
        exact ih _ _ _ u2 (v2 + r2) (v3 + 1) hW hS (lv_sub hl [2, 3, 1, 0] rfl) hk2 (mu32_step c_36 hmu) hf_36
  have hf : fX11_ticks p1 x = (if (fX11_isIn p1.toInt64 0 600 x) = 0 then (((sR x 0 0 (1)), 0)) else (fX11_ticks_L34 p1 (mu32 0 p1 + 1) (sR x 0 0 (0)) 0 0)) := rfl
  refine lv_aload_n hx hb dX11_ticks_0 rfl (lv_at hl 0 rfl) ?_
  refine lv_iload_n hx hb dX11_ticks_1 rfl (lv_at hl 1 rfl) ?_
  refine lv_i2l (v := p1.toInt64) hx hb dX11_ticks_2 rfl ?_
  refine lv_lconst (v := 0) hx hb dX11_ticks_3 (by decide) ?_
  refine lv_ldc2 hx hb hown (hts (.constantLong RX11 305 (600)) (by decide +kernel)) dX11_ticks_4 ?_
  refine gx_si (rest := [.ref (rr + 0)]) ⟨hx, hb, hml, hown, hts⟩ (mX11_isIn l E rr x p1.toInt64 0 600) (va_cwS 3 hts gX11_ticks_X11_isIn rfl rfl rfl (by decide +kernel) ⟨Nat.le_of_ble_eq_true rfl, Nat.le_of_ble_eq_true rfl⟩) hW hK rfl hl.1 rfl (Nat.le_of_ble_eq_true rfl) dX11_ticks_7 ⟨Nat.le_of_ble_eq_true rfl, Nat.le_of_ble_eq_true rfl⟩ hS (fun _ h => h) (fun _ r1 H locs _ e1 hW hS => ?_)
  have e1 : fX11_isIn p1.toInt64 0 600 x = r1 := e1
  try rw [e1] at hf
  refine lv_if_eq (tgt := 17) hx hb dX11_ticks_10 (by decide) (fun c_10 => ?_) (fun c_10 => ?_)
  · have hf_10 := hf.trans (if_pos c_10)
    refine lv_iconst (v := 1) hx hb dX11_ticks_17 (by decide) ?_
    refine fx_put (ci := 11) (v := .int (1)) hx hb hts i11 tyX11_ok nmX11 hown hK (rwc_0 hW) (rA_o (o := 0) (by decide)) hS rfl 0 (by decide) kl159 rfl rfl rfl (Nat.le_of_ble_eq_true rfl) dX11_ticks_18 (fun H locs hat hne hS => ?_)
    have hW : rw_ E rr (sR x 0 0 (1)) H := rwf_0 (v := 1) hW hat hne
    refine lv_aload_n hx hb dX11_ticks_21 rfl (lv_at hl 0 rfl) ?_
    refine fx_get (ci := 11) (v := .int (1)) hx hb hts i11 hown hK (rwc_0 hW) rfl 0 (by decide) kl159 rfl dX11_ticks_22 ?_
    refine lv_if_le (tgt := 30) hx hb dX11_ticks_25 (by decide) (fun c9 => absurd c9 (by decide)) (fun c9 => ?_)
    refine lv_iconst (v := 0) hx hb dX11_ticks_28 (by decide) ?_
    exact gx_iret hx hb hr rfl hlocks hK hf_10 hW hS dX11_ticks_29
  · have hf_10 := hf.trans (if_neg c_10)
    refine lv_iconst (v := 0) hx hb dX11_ticks_13 (by decide) ?_
    refine lv_goto (tgt := 18) hx hb dX11_ticks_14 (by decide) ?_
    refine fx_put (ci := 11) (v := .int (0)) hx hb hts i11 tyX11_ok nmX11 hown hK (rwc_0 hW) (rA_o (o := 0) (by decide)) hS rfl 0 (by decide) kl159 rfl rfl rfl (Nat.le_of_ble_eq_true rfl) dX11_ticks_18 (fun H locs hat hne hS => ?_)
    have hW : rw_ E rr (sR x 0 0 (0)) H := rwf_0 (v := 0) hW hat hne
    refine lv_aload_n hx hb dX11_ticks_21 rfl (lv_at hl 0 rfl) ?_
    refine fx_get (ci := 11) (v := .int (0)) hx hb hts i11 hown hK (rwc_0 hW) rfl 0 (by decide) kl159 rfl dX11_ticks_22 ?_
    refine lv_if_le (tgt := 30) hx hb dX11_ticks_25 (by decide) (fun c9 => ?_) (fun c9 => absurd c9 (by decide))
    refine lv_iconst (v := 0) hx hb dX11_ticks_30 (by decide) ?_
    refine lv_istore_n (lv' := [(2, .int (0)), (0, .ref (rr + 0)), (1, .int (p1))]) hx hb dX11_ticks_31 rfl hl (by decide) rfl (fun ls hl => ?_)
    refine lv_iconst (v := 0) hx hb dX11_ticks_32 (by decide) ?_
    refine lv_istore_n (lv' := [(3, .int (0)), (2, .int (0)), (0, .ref (rr + 0)), (1, .int (p1))]) hx hb dX11_ticks_33 rfl hl (by decide) rfl (fun ls hl => ?_)
    exact J34 _ _ _ _ (sR x 0 0 (0)) 0 0 hW hS (lv_sub hl [2, 3, 1, 0] rfl) hok (Nat.lt_succ_self _) hf_10
theorem okX11_ticks_L34 {tg bg : Nat} {p1 : Int32} : ∀ (k8 : Nat) (y : RS) (v2 : Int32) (v3 : Int32), okR (tg + k8) (bg + 8 * k8) y → okR tg bg (fX11_ticks_L34 p1 k8 y v2 v3).1 := by
  intro k8
  induction k8 with
  | zero => intro y v2 v3 hok; exact okR_mono2 (x := y) (by omega) (by omega) hok
  | succ k9 ih => intro y v2 v3 hok; unfold fX11_ticks_L34; exact (okR_ite1 (fun c_36 => (okR_mono2 (by omega) (by omega) hok)) (fun c_36 => (ih _ _ _ (okX11_tick hok))))
theorem okX11_ticks {tg bg : Nat} {p1 : Int32} {x : RS} (hok : okR (tg + (mu32 0 p1 + 1)) (bg + 8 * (mu32 0 p1 + 1)) x) : okR tg bg (fX11_ticks p1 x).1 := by unfold fX11_ticks; exact (okR_ite1 (fun c_10 => (okR_mono2 (by omega) (by omega) (okR_sR rfl hok))) (fun c_10 => (okX11_ticks_L34 _ _ _ _ (okR_sR rfl hok))))

def fX11_isChannel (p1 : Int32) (x : RS) : RS × Int32 := if (fX11_isIn p1.toInt64 0 2 x) = 0 then (((sR x 0 0 (1)), 0)) else (((sR x 0 0 (0)), 1))
set_option maxHeartbeats 4000000 in
set_option maxRecDepth 100000 in
theorem mX11_isChannel (l : Launch) (E : eE) (rr : Nat) (x : RS) (p1 : Int32) (tg : Nat) (bg : Nat) (hok : okR tg bg x) : Met l yX11_isChannel wsX11_isChannel ({ frames := 1, cells := 0, slots := 0, locals := 25 }) (gPre E (rw_ E rr x) [.ref (rr + 0), .int (p1)]) (gQi E (rw_ E rr) (fX11_isChannel p1 x) (rA rr)) 0 0 (rA rr) := by
  refine Met.ofW (cc := cX11_isChannel) (maxL := 2) (ret := (some .boolean)) (by decide) rfl ?_
  intro p e s m args below meth c s₁ B hml hv
  obtain ⟨rfl, hW, hK⟩ := hv
  have hx := B.exec
  have hb := B.bytes
  have hr := B.returns
  have hts := atoms_spec (ws := wsX11_isChannel) B.pre
  have hown : s.vm.findClass RX11 = some m.cls := findClass_of_methodNamed B.named
  have hlocks := B.notSynchronized
  have i11 : ∀ w ∈ wsX110, w ∈ wsX11_isChannel := by decide +kernel
  have kl159 := hts (.fieldLink RX11 159 "DosePumpModel" "thrown" "I") (by decide +kernel)
  have hS : va_S (rA rr) s.heap s.heap [] := va_S.rf
  have hl := lv_entry ([.ref (rr + 0), .int (p1)]) (n := 2) (Nat.le_of_ble_eq_true rfl)
  rw [lg_entry_eq]
  generalize (lg_sl ([.ref (rr + 0), .int (p1)]) ++ List.replicate (2 - (lg_sl ([.ref (rr + 0), .int (p1)])).length) Slot.unset).toArray = ls at hl ⊢
  have hl : lv_has ls 2 [(0, .ref (rr + 0)), (1, .int (p1))] := hl
  have hf : fX11_isChannel p1 x = (if (fX11_isIn p1.toInt64 0 2 x) = 0 then (((sR x 0 0 (1)), 0)) else (((sR x 0 0 (0)), 1))) := rfl
  refine lv_aload_n hx hb dX11_isChannel_0 rfl (lv_at hl 0 rfl) ?_
  refine lv_iload_n hx hb dX11_isChannel_1 rfl (lv_at hl 1 rfl) ?_
  refine lv_i2l (v := p1.toInt64) hx hb dX11_isChannel_2 rfl ?_
  refine lv_lconst (v := 0) hx hb dX11_isChannel_3 (by decide) ?_
  refine lv_ldc2 hx hb hown (hts (.constantLong RX11 206 (2)) (by decide +kernel)) dX11_isChannel_4 ?_
  refine gx_si (rest := [.ref (rr + 0)]) ⟨hx, hb, hml, hown, hts⟩ (mX11_isIn l E rr x p1.toInt64 0 2) (va_cwS 3 hts gX11_isChannel_X11_isIn rfl rfl rfl (by decide +kernel) ⟨Nat.le_of_ble_eq_true rfl, Nat.le_of_ble_eq_true rfl⟩) hW hK rfl hl.1 rfl (Nat.le_of_ble_eq_true rfl) dX11_isChannel_7 ⟨Nat.le_of_ble_eq_true rfl, Nat.le_of_ble_eq_true rfl⟩ hS (fun _ h => h) (fun _ r1 H locs _ e1 hW hS => ?_)
  have e1 : fX11_isIn p1.toInt64 0 2 x = r1 := e1
  try rw [e1] at hf
  refine lv_if_eq (tgt := 17) hx hb dX11_isChannel_10 (by decide) (fun c_10 => ?_) (fun c_10 => ?_)
  · have hf_10 := hf.trans (if_pos c_10)
    refine lv_iconst (v := 1) hx hb dX11_isChannel_17 (by decide) ?_
    refine fx_put (ci := 11) (v := .int (1)) hx hb hts i11 tyX11_ok nmX11 hown hK (rwc_0 hW) (rA_o (o := 0) (by decide)) hS rfl 0 (by decide) kl159 rfl rfl rfl (Nat.le_of_ble_eq_true rfl) dX11_isChannel_18 (fun H locs hat hne hS => ?_)
    have hW : rw_ E rr (sR x 0 0 (1)) H := rwf_0 (v := 1) hW hat hne
    refine lv_aload_n hx hb dX11_isChannel_21 rfl (lv_at hl 0 rfl) ?_
    refine fx_get (ci := 11) (v := .int (1)) hx hb hts i11 hown hK (rwc_0 hW) rfl 0 (by decide) kl159 rfl dX11_isChannel_22 ?_
    refine lv_if_ne (tgt := 32) hx hb dX11_isChannel_25 (by decide) (fun c9 => ?_) (fun c9 => absurd c9 (by decide))
    refine lv_iconst (v := 0) hx hb dX11_isChannel_32 (by decide) ?_
    exact gx_iret hx hb hr (by decide) hlocks hK hf_10 hW hS dX11_isChannel_33
  · have hf_10 := hf.trans (if_neg c_10)
    refine lv_iconst (v := 0) hx hb dX11_isChannel_13 (by decide) ?_
    refine lv_goto (tgt := 18) hx hb dX11_isChannel_14 (by decide) ?_
    refine fx_put (ci := 11) (v := .int (0)) hx hb hts i11 tyX11_ok nmX11 hown hK (rwc_0 hW) (rA_o (o := 0) (by decide)) hS rfl 0 (by decide) kl159 rfl rfl rfl (Nat.le_of_ble_eq_true rfl) dX11_isChannel_18 (fun H locs hat hne hS => ?_)
    have hW : rw_ E rr (sR x 0 0 (0)) H := rwf_0 (v := 0) hW hat hne
    refine lv_aload_n hx hb dX11_isChannel_21 rfl (lv_at hl 0 rfl) ?_
    refine fx_get (ci := 11) (v := .int (0)) hx hb hts i11 hown hK (rwc_0 hW) rfl 0 (by decide) kl159 rfl dX11_isChannel_22 ?_
    refine lv_if_ne (tgt := 32) hx hb dX11_isChannel_25 (by decide) (fun c9 => absurd c9 (by decide)) (fun c9 => ?_)
    refine lv_iconst (v := 1) hx hb dX11_isChannel_28 (by decide) ?_
    refine lv_goto (tgt := 33) hx hb dX11_isChannel_29 (by decide) ?_
    exact gx_iret hx hb hr (by decide) hlocks hK hf_10 hW hS dX11_isChannel_33
theorem okX11_isChannel {tg bg : Nat} {p1 : Int32} {x : RS} (hok : okR tg bg x) : okR tg bg (fX11_isChannel p1 x).1 := by unfold fX11_isChannel; exact (okR_ite1 (fun c_10 => (okR_sR rfl hok)) (fun c_10 => (okR_sR rfl hok)))

theorem fit_bo {v : Int32} (h : v = 0 ∨ v = 1) : fits .boolean (.int v) = true := by rcases h with rfl | rfl <;> decide
theorem vnar_bo {v : Int32} (h : v = 0 ∨ v = 1) : vp_nar .boolean v = v := by rcases h with rfl | rfl <;> decide
theorem ischan_in {p1 : Int32} {x : RS} (h : ¬ (fX11_isChannel p1 x).2 = 0) : vp_in p1 3 := by
  unfold fX11_isChannel at h
  split at h
  · exact absurd rfl h
  · rename_i c; exact isin_in (c := 2) rfl c
theorem ischan_rd {p1 : Int32} {x : RS} {o k : Nat} (h : o ≠ 0) : (fX11_isChannel p1 x).1.1 o k = x.1 o k := by
  unfold fX11_isChannel
  split <;> exact sR_rd (fun e => h e.1)
theorem most_nn {a r : Int32} {x : RS} (h : fX11_most 0 a x = r) : 0 ≤ r.toInt := by
  unfold fX11_most at h
  split at h
  · rename_i c
    rw [Int32.le_iff_toInt_le, show (0 : Int32).toInt = 0 from rfl] at c
    rw [← h]; exact c
  · rw [← h]; decide
theorem logi_nn {a r i : Int32} {q : Int64} {x z : RS} (hm : fX11_most 0 a x = r) (h : ¬ fX11_isIn i.toInt64 r.toInt64 q z = 0) : 0 ≤ i.toInt := by
  have h1 := most_nn hm
  have h2 := (isin_ne h).1
  rw [Int64.le_iff_toInt_le, Int32.toInt_toInt64, Int32.toInt_toInt64] at h2
  omega

def fX11_flow (p1 : Int32) (p2 : Int32) (x : RS) : RS × Int32 := if (fX11_isIn p1.toInt64 0 2 x) = 0 then (((sR x 0 0 (1)), 0)) else (if (fX11_isIn p2.toInt64 0 1000 x) = 0 then (((sR x 0 0 (2)), 0)) else (((sR (sR x 0 0 (0)) 22 p1.toNatClampNeg (p2)), x.1 22 p1.toNatClampNeg)))
set_option maxHeartbeats 4000000 in
set_option maxRecDepth 100000 in
theorem mX11_flow (l : Launch) (E : eE) (rr : Nat) (x : RS) (p1 : Int32) (p2 : Int32) (tg : Nat) (bg : Nat) (hok : okR tg bg x) : Met l yX11_flow wsX11_flow ({ frames := 1, cells := 0, slots := 0, locals := 25 }) (gPre E (rw_ E rr x) [.ref (rr + 0), .int (p1), .int (p2)]) (gQi E (rw_ E rr) (fX11_flow p1 p2 x) (rA rr)) 0 0 (rA rr) := by
  refine Met.ofW (cc := cX11_flow) (maxL := 4) (ret := (some .int)) (by decide) rfl ?_
  intro p e s m args below meth c s₁ B hml hv
  obtain ⟨rfl, hW, hK⟩ := hv
  have hx := B.exec
  have hb := B.bytes
  have hr := B.returns
  have hts := atoms_spec (ws := wsX11_flow) B.pre
  have hown : s.vm.findClass RX11 = some m.cls := findClass_of_methodNamed B.named
  have hlocks := B.notSynchronized
  have i11 : ∀ w ∈ wsX110, w ∈ wsX11_flow := by decide +kernel
  have kl74 := hts (.fieldLink RX11 74 "DosePumpModel" "flow" "[I") (by decide +kernel)
  have kl159 := hts (.fieldLink RX11 159 "DosePumpModel" "thrown" "I") (by decide +kernel)
  have hS : va_S (rA rr) s.heap s.heap [] := va_S.rf
  have hl := lv_entry ([.ref (rr + 0), .int (p1), .int (p2)]) (n := 4) (Nat.le_of_ble_eq_true rfl)
  rw [lg_entry_eq]
  generalize (lg_sl ([.ref (rr + 0), .int (p1), .int (p2)]) ++ List.replicate (4 - (lg_sl ([.ref (rr + 0), .int (p1), .int (p2)])).length) Slot.unset).toArray = ls at hl ⊢
  have hl : lv_has ls 4 [(0, .ref (rr + 0)), (1, .int (p1)), (2, .int (p2))] := hl
  have hf : fX11_flow p1 p2 x = (if (fX11_isIn p1.toInt64 0 2 x) = 0 then (((sR x 0 0 (1)), 0)) else (if (fX11_isIn p2.toInt64 0 1000 x) = 0 then (((sR x 0 0 (2)), 0)) else (((sR (sR x 0 0 (0)) 22 p1.toNatClampNeg (p2)), x.1 22 p1.toNatClampNeg)))) := rfl
  refine lv_aload_n hx hb dX11_flow_0 rfl (lv_at hl 0 rfl) ?_
  refine lv_iload_n hx hb dX11_flow_1 rfl (lv_at hl 1 rfl) ?_
  refine lv_i2l (v := p1.toInt64) hx hb dX11_flow_2 rfl ?_
  refine lv_lconst (v := 0) hx hb dX11_flow_3 (by decide) ?_
  refine lv_ldc2 hx hb hown (hts (.constantLong RX11 206 (2)) (by decide +kernel)) dX11_flow_4 ?_
  refine gx_si (rest := [.ref (rr + 0)]) ⟨hx, hb, hml, hown, hts⟩ (mX11_isIn l E rr x p1.toInt64 0 2) (va_cwS 3 hts gX11_flow_X11_isIn rfl rfl rfl (by decide +kernel) ⟨Nat.le_of_ble_eq_true rfl, Nat.le_of_ble_eq_true rfl⟩) hW hK rfl hl.1 rfl (Nat.le_of_ble_eq_true rfl) dX11_flow_7 ⟨Nat.le_of_ble_eq_true rfl, Nat.le_of_ble_eq_true rfl⟩ hS (fun _ h => h) (fun _ r1 H locs _ e1 hW hS => ?_)
  have e1 : fX11_isIn p1.toInt64 0 2 x = r1 := e1
  try rw [e1] at hf
  refine lv_if_ne (tgt := 17) hx hb dX11_flow_10 (by decide) (fun c_10 => ?_) (fun c_10 => ?_)
  · have hf_10 := hf.trans (if_neg c_10)
    refine lv_iload_n hx hb dX11_flow_17 rfl (lv_at hl 2 rfl) ?_
    refine lv_i2l (v := p2.toInt64) hx hb dX11_flow_18 rfl ?_
    refine lv_lconst (v := 0) hx hb dX11_flow_19 (by decide) ?_
    refine lv_ldc2 hx hb hown (hts (.constantLong RX11 311 (1000)) (by decide +kernel)) dX11_flow_20 ?_
    refine gx_si (rest := [.ref (rr + 0)]) ⟨hx, hb, hml, hown, hts⟩ (mX11_isIn l E rr x p2.toInt64 0 1000) (va_cwS 3 hts gX11_flow_X11_isIn rfl rfl rfl (by decide +kernel) ⟨Nat.le_of_ble_eq_true rfl, Nat.le_of_ble_eq_true rfl⟩) hW hK rfl hl.1 rfl (Nat.le_of_ble_eq_true rfl) dX11_flow_23 ⟨Nat.le_of_ble_eq_true rfl, Nat.le_of_ble_eq_true rfl⟩ hS (fun _ h => h) (fun _ r2 H locs _ e2 hW hS => ?_)
    have e2 : fX11_isIn p2.toInt64 0 1000 x = r2 := e2
    try rw [e2] at hf_10
    refine lv_if_ne (tgt := 33) hx hb dX11_flow_26 (by decide) (fun c_26 => ?_) (fun c_26 => ?_)
    · have hf_26 := hf_10.trans (if_neg c_26)
      refine lv_iconst (v := 0) hx hb dX11_flow_33 (by decide) ?_
      refine fx_put (ci := 11) (v := .int (0)) hx hb hts i11 tyX11_ok nmX11 hown hK (rwc_0 hW) (rA_o (o := 0) (by decide)) hS rfl 0 (by decide) kl159 rfl rfl rfl (Nat.le_of_ble_eq_true rfl) dX11_flow_34 (fun H locs hat hne hS => ?_)
      have hW : rw_ E rr (sR x 0 0 (0)) H := rwf_0 (v := 0) hW hat hne
      refine lv_aload_n hx hb dX11_flow_37 rfl (lv_at hl 0 rfl) ?_
      refine fx_get (ci := 11) (v := .int (0)) hx hb hts i11 hown hK (rwc_0 hW) rfl 0 (by decide) kl159 rfl dX11_flow_38 ?_
      refine lv_if_le (tgt := 46) hx hb dX11_flow_41 (by decide) (fun c9 => ?_) (fun c9 => absurd c9 (by decide))
      refine lv_aload_n hx hb dX11_flow_46 rfl (lv_at hl 0 rfl) ?_
      refine fx_get (ci := 11) (v := .ref (rr + 22)) hx hb hts i11 hown hK (rwc_0 hW) rfl 22 (by decide) kl74 rfl dX11_flow_47 ?_
      refine lv_iload_n hx hb dX11_flow_50 rfl (lv_at hl 1 rfl) ?_
      refine fx_ild hx hb hK 0 (rwc_22 hW) rfl (isin_in (a := p1) (c := 2) (x := x) rfl (by rw [e1]; exact c_10)) dX11_flow_51 ?_
      refine lv_istore_n (lv' := [(3, .int (x.1 22 p1.toNatClampNeg)), (0, .ref (rr + 0)), (1, .int (p1)), (2, .int (p2))]) hx hb dX11_flow_52 rfl hl (by decide) rfl (fun ls hl => ?_)
      refine lv_aload_n hx hb dX11_flow_53 rfl (lv_at hl 1 rfl) ?_
      refine fx_get (ci := 11) (v := .ref (rr + 22)) hx hb hts i11 hown hK (rwc_0 hW) rfl 22 (by decide) kl74 rfl dX11_flow_54 ?_
      refine lv_iload_n hx hb dX11_flow_57 rfl (lv_at hl 2 rfl) ?_
      refine lv_iload_n hx hb dX11_flow_58 rfl (lv_at hl 3 rfl) ?_
      refine fx_ist hx hb hK 0 (rwc_22 hW) (rA_o (o := 22) (by decide)) hS rfl (isin_in (a := p1) (c := 2) (x := x) rfl (by rw [e1]; exact c_10)) dX11_flow_59 (fun H locs hat hne hS => ?_)
      have hW : rw_ E rr (sR (sR x 0 0 (0)) 22 p1.toNatClampNeg (p2)) H := rws_22 (k := p1.toNatClampNeg) (v := p2) hW hat hne
      refine lv_iload_n hx hb dX11_flow_60 rfl (lv_at hl 0 rfl) ?_
      exact gx_iret hx hb hr rfl hlocks hK hf_26 hW hS dX11_flow_61
    · have hf_26 := hf_10.trans (if_pos c_26)
      refine lv_iconst (v := 2) hx hb dX11_flow_29 (by decide) ?_
      refine lv_goto (tgt := 34) hx hb dX11_flow_30 (by decide) ?_
      refine fx_put (ci := 11) (v := .int (2)) hx hb hts i11 tyX11_ok nmX11 hown hK (rwc_0 hW) (rA_o (o := 0) (by decide)) hS rfl 0 (by decide) kl159 rfl rfl rfl (Nat.le_of_ble_eq_true rfl) dX11_flow_34 (fun H locs hat hne hS => ?_)
      have hW : rw_ E rr (sR x 0 0 (2)) H := rwf_0 (v := 2) hW hat hne
      refine lv_aload_n hx hb dX11_flow_37 rfl (lv_at hl 0 rfl) ?_
      refine fx_get (ci := 11) (v := .int (2)) hx hb hts i11 hown hK (rwc_0 hW) rfl 0 (by decide) kl159 rfl dX11_flow_38 ?_
      refine lv_if_le (tgt := 46) hx hb dX11_flow_41 (by decide) (fun c9 => absurd c9 (by decide)) (fun c9 => ?_)
      refine lv_iconst (v := 0) hx hb dX11_flow_44 (by decide) ?_
      exact gx_iret hx hb hr rfl hlocks hK hf_26 hW hS dX11_flow_45
  · have hf_10 := hf.trans (if_pos c_10)
    refine lv_iconst (v := 1) hx hb dX11_flow_13 (by decide) ?_
    refine lv_goto (tgt := 34) hx hb dX11_flow_14 (by decide) ?_
    refine fx_put (ci := 11) (v := .int (1)) hx hb hts i11 tyX11_ok nmX11 hown hK (rwc_0 hW) (rA_o (o := 0) (by decide)) hS rfl 0 (by decide) kl159 rfl rfl rfl (Nat.le_of_ble_eq_true rfl) dX11_flow_34 (fun H locs hat hne hS => ?_)
    have hW : rw_ E rr (sR x 0 0 (1)) H := rwf_0 (v := 1) hW hat hne
    refine lv_aload_n hx hb dX11_flow_37 rfl (lv_at hl 0 rfl) ?_
    refine fx_get (ci := 11) (v := .int (1)) hx hb hts i11 hown hK (rwc_0 hW) rfl 0 (by decide) kl159 rfl dX11_flow_38 ?_
    refine lv_if_le (tgt := 46) hx hb dX11_flow_41 (by decide) (fun c9 => absurd c9 (by decide)) (fun c9 => ?_)
    refine lv_iconst (v := 0) hx hb dX11_flow_44 (by decide) ?_
    exact gx_iret hx hb hr rfl hlocks hK hf_10 hW hS dX11_flow_45
theorem okX11_flow {tg bg : Nat} {p1 : Int32} {p2 : Int32} {x : RS} (hok : okR tg bg x) : okR tg bg (fX11_flow p1 p2 x).1 := by unfold fX11_flow; exact (okR_ite1 (fun c_10 => (okR_sR rfl hok)) (fun c_10 => (okR_ite1 (fun c_26 => (okR_sR rfl hok)) (fun c_26 => (okR_sR rfl (okR_sR rfl hok))))))

def fX11_air (p1 : Int32) (p2 : Int32) (x : RS) : RS × Int32 := if ((fX11_isChannel p1 x).2) = 0 then (((fX11_isChannel p1 x).1, 0)) else (((sR (fX11_isChannel p1 x).1 23 p1.toNatClampNeg (p2)), (fX11_isChannel p1 x).1.1 23 p1.toNatClampNeg))
set_option maxHeartbeats 4000000 in
set_option maxRecDepth 100000 in
theorem mX11_air (l : Launch) (E : eE) (rr : Nat) (x : RS) (p1 : Int32) (p2 : Int32) (hp : p2 = 0 ∨ p2 = 1) (hbo : x.1 23 p1.toNatClampNeg = 0 ∨ x.1 23 p1.toNatClampNeg = 1) (tg : Nat) (bg : Nat) (hok : okR tg bg x) : Met l yX11_air wsX11_air ({ frames := 2, cells := 0, slots := 0, locals := 46 }) (gPre E (rw_ E rr x) [.ref (rr + 0), .int (p1), .int (p2)]) (gQi E (rw_ E rr) (fX11_air p1 p2 x) (rA rr)) 0 0 (rA rr) := by
  refine Met.ofW (cc := cX11_air) (maxL := 4) (ret := (some .boolean)) (by decide) rfl ?_
  intro p e s m args below meth c s₁ B hml hv
  obtain ⟨rfl, hW, hK⟩ := hv
  have hx := B.exec
  have hb := B.bytes
  have hr := B.returns
  have hts := atoms_spec (ws := wsX11_air) B.pre
  have hown : s.vm.findClass RX11 = some m.cls := findClass_of_methodNamed B.named
  have hlocks := B.notSynchronized
  have i11 : ∀ w ∈ wsX110, w ∈ wsX11_air := by decide +kernel
  have kl77 := hts (.fieldLink RX11 77 "DosePumpModel" "air" "[Z") (by decide +kernel)
  have hS : va_S (rA rr) s.heap s.heap [] := va_S.rf
  have hl := lv_entry ([.ref (rr + 0), .int (p1), .int (p2)]) (n := 4) (Nat.le_of_ble_eq_true rfl)
  rw [lg_entry_eq]
  generalize (lg_sl ([.ref (rr + 0), .int (p1), .int (p2)]) ++ List.replicate (4 - (lg_sl ([.ref (rr + 0), .int (p1), .int (p2)])).length) Slot.unset).toArray = ls at hl ⊢
  have hl : lv_has ls 4 [(0, .ref (rr + 0)), (1, .int (p1)), (2, .int (p2))] := hl
  have hf : fX11_air p1 p2 x = (if ((fX11_isChannel p1 x).2) = 0 then (((fX11_isChannel p1 x).1, 0)) else (((sR (fX11_isChannel p1 x).1 23 p1.toNatClampNeg (p2)), (fX11_isChannel p1 x).1.1 23 p1.toNatClampNeg))) := rfl
  refine lv_aload_n hx hb dX11_air_0 rfl (lv_at hl 0 rfl) ?_
  refine lv_iload_n hx hb dX11_air_1 rfl (lv_at hl 1 rfl) ?_
  refine gx_i (rest := []) ⟨hx, hb, hml, hown, hts⟩ (mX11_isChannel l E rr x p1 _ _ hok) (cwV 1 hts gX11_air_X11_isChannel rfl rfl rfl (by decide +kernel) ⟨Nat.le_of_ble_eq_true rfl, Nat.le_of_ble_eq_true rfl⟩) hW hK (fx_recv hK (rwc_0 hW) rfl) rfl hl.1 rfl (Nat.le_of_ble_eq_true rfl) dX11_air_2 ⟨Nat.le_of_ble_eq_true rfl, Nat.le_of_ble_eq_true rfl⟩ hS (fun _ h => h) (fun u1 r1 H locs e1 e1r hW hS => ?_)
  have e1 : (fX11_isChannel p1 x).1 = u1 := e1
  have e1r : (fX11_isChannel p1 x).2 = r1 := e1r
  try rw [e1] at hf
  try rw [e1r] at hf
  have hk1 : okR tg bg u1 := e1 ▸ (okX11_isChannel hok)
  refine lv_if_ne (tgt := 10) hx hb dX11_air_5 (by decide) (fun c_5 => ?_) (fun c_5 => ?_)
  · have hf_5 := hf.trans (if_neg c_5)
    refine lv_aload_n hx hb dX11_air_10 rfl (lv_at hl 0 rfl) ?_
    refine fx_get (ci := 11) (v := .ref (rr + 23)) hx hb hts i11 hown hK (rwc_0 hW) rfl 23 (by decide) kl77 rfl dX11_air_11 ?_
    refine lv_iload_n hx hb dX11_air_14 rfl (lv_at hl 1 rfl) ?_
    refine fx_zld hx hb hK 1 (rwc_23 hW) rfl (ischan_in (p1 := p1) (x := x) (by rw [e1r]; exact c_5)) dX11_air_15 ?_
    refine lv_istore_n (lv' := [(3, .int (u1.1 23 p1.toNatClampNeg)), (0, .ref (rr + 0)), (1, .int (p1)), (2, .int (p2))]) hx hb dX11_air_16 rfl hl (by decide) rfl (fun ls hl => ?_)
    refine lv_aload_n hx hb dX11_air_17 rfl (lv_at hl 1 rfl) ?_
    refine fx_get (ci := 11) (v := .ref (rr + 23)) hx hb hts i11 hown hK (rwc_0 hW) rfl 23 (by decide) kl77 rfl dX11_air_18 ?_
    refine lv_iload_n hx hb dX11_air_21 rfl (lv_at hl 2 rfl) ?_
    refine lv_iload_n hx hb dX11_air_22 rfl (lv_at hl 3 rfl) ?_
    refine fx_zst hx hb hK 1 (rwc_23 hW) (rA_o (o := 23) (by decide)) hS rfl (vnar_bo hp) (ischan_in (p1 := p1) (x := x) (by rw [e1r]; exact c_5)) dX11_air_23 (fun H locs hat hne hS => ?_)
    have hW : rw_ E rr (sR u1 23 p1.toNatClampNeg (p2)) H := rws_23 (k := p1.toNatClampNeg) (v := p2) hW hat hne
    refine lv_iload_n hx hb dX11_air_24 rfl (lv_at hl 0 rfl) ?_
    exact gx_iret hx hb hr (nar_bo (by rw [← e1, ischan_rd (by decide)]; exact hbo)) hlocks hK hf_5 hW hS dX11_air_25
  · have hf_5 := hf.trans (if_pos c_5)
    refine lv_iconst (v := 0) hx hb dX11_air_8 (by decide) ?_
    exact gx_iret hx hb hr (by decide) hlocks hK hf_5 hW hS dX11_air_9
theorem okX11_air {tg bg : Nat} {p1 : Int32} {p2 : Int32} {x : RS} (hok : okR tg bg x) : okR tg bg (fX11_air p1 p2 x).1 := by unfold fX11_air; exact (okR_ite1 (fun c_5 => (okX11_isChannel hok)) (fun c_5 => (okR_sR rfl (okX11_isChannel hok))))

def fX11_door (p1 : Int32) (p2 : Int32) (x : RS) : RS × Int32 := if ((fX11_isChannel p1 x).2) = 0 then (((fX11_isChannel p1 x).1, 0)) else (if p2 = 0 then (((sR (fX11_isChannel p1 x).1 24 p1.toNatClampNeg (p2)), (fX11_isChannel p1 x).1.1 24 p1.toNatClampNeg)) else (if ((fX11_isChannel p1 x).1.1 13 p1.toNatClampNeg) = 7 then (((fX11_latch p1 2 (sR (fX11_isChannel p1 x).1 24 p1.toNatClampNeg (p2))), (fX11_isChannel p1 x).1.1 24 p1.toNatClampNeg)) else (((sR (fX11_isChannel p1 x).1 24 p1.toNatClampNeg (p2)), (fX11_isChannel p1 x).1.1 24 p1.toNatClampNeg))))
set_option maxHeartbeats 4000000 in
set_option maxRecDepth 100000 in
theorem mX11_door (l : Launch) (E : eE) (rr : Nat) (x : RS) (p1 : Int32) (p2 : Int32) (hp : p2 = 0 ∨ p2 = 1) (hbo : x.1 24 p1.toNatClampNeg = 0 ∨ x.1 24 p1.toNatClampNeg = 1) (tg : Nat) (bg : Nat) (hok : okR tg bg x) : Met l yX11_door wsX11_door ({ frames := 3, cells := 0, slots := 0, locals := 69 }) (gPre E (rw_ E rr x) [.ref (rr + 0), .int (p1), .int (p2)]) (gQi E (rw_ E rr) (fX11_door p1 p2 x) (rA rr)) 0 0 (rA rr) := by
  refine Met.ofW (cc := cX11_door) (maxL := 4) (ret := (some .boolean)) (by decide) rfl ?_
  intro p e s m args below meth c s₁ B hml hv
  obtain ⟨rfl, hW, hK⟩ := hv
  have hx := B.exec
  have hb := B.bytes
  have hr := B.returns
  have hts := atoms_spec (ws := wsX11_door) B.pre
  have hown : s.vm.findClass RX11 = some m.cls := findClass_of_methodNamed B.named
  have hlocks := B.notSynchronized
  have i11 : ∀ w ∈ wsX110, w ∈ wsX11_door := by decide +kernel
  have kl47 := hts (.fieldLink RX11 47 "DosePumpModel" "phase" "[I") (by decide +kernel)
  have kl80 := hts (.fieldLink RX11 80 "DosePumpModel" "open" "[Z") (by decide +kernel)
  have hS : va_S (rA rr) s.heap s.heap [] := va_S.rf
  have hl := lv_entry ([.ref (rr + 0), .int (p1), .int (p2)]) (n := 4) (Nat.le_of_ble_eq_true rfl)
  rw [lg_entry_eq]
  generalize (lg_sl ([.ref (rr + 0), .int (p1), .int (p2)]) ++ List.replicate (4 - (lg_sl ([.ref (rr + 0), .int (p1), .int (p2)])).length) Slot.unset).toArray = ls at hl ⊢
  have hl : lv_has ls 4 [(0, .ref (rr + 0)), (1, .int (p1)), (2, .int (p2))] := hl
  have hf : fX11_door p1 p2 x = (if ((fX11_isChannel p1 x).2) = 0 then (((fX11_isChannel p1 x).1, 0)) else (if p2 = 0 then (((sR (fX11_isChannel p1 x).1 24 p1.toNatClampNeg (p2)), (fX11_isChannel p1 x).1.1 24 p1.toNatClampNeg)) else (if ((fX11_isChannel p1 x).1.1 13 p1.toNatClampNeg) = 7 then (((fX11_latch p1 2 (sR (fX11_isChannel p1 x).1 24 p1.toNatClampNeg (p2))), (fX11_isChannel p1 x).1.1 24 p1.toNatClampNeg)) else (((sR (fX11_isChannel p1 x).1 24 p1.toNatClampNeg (p2)), (fX11_isChannel p1 x).1.1 24 p1.toNatClampNeg))))) := rfl
  refine lv_aload_n hx hb dX11_door_0 rfl (lv_at hl 0 rfl) ?_
  refine lv_iload_n hx hb dX11_door_1 rfl (lv_at hl 1 rfl) ?_
  refine gx_i (rest := []) ⟨hx, hb, hml, hown, hts⟩ (mX11_isChannel l E rr x p1 _ _ hok) (cwV 1 hts gX11_door_X11_isChannel rfl rfl rfl (by decide +kernel) ⟨Nat.le_of_ble_eq_true rfl, Nat.le_of_ble_eq_true rfl⟩) hW hK (fx_recv hK (rwc_0 hW) rfl) rfl hl.1 rfl (Nat.le_of_ble_eq_true rfl) dX11_door_2 ⟨Nat.le_of_ble_eq_true rfl, Nat.le_of_ble_eq_true rfl⟩ hS (fun _ h => h) (fun u1 r1 H locs e1 e1r hW hS => ?_)
  have e1 : (fX11_isChannel p1 x).1 = u1 := e1
  have e1r : (fX11_isChannel p1 x).2 = r1 := e1r
  try rw [e1] at hf
  try rw [e1r] at hf
  have hk1 : okR tg bg u1 := e1 ▸ (okX11_isChannel hok)
  refine lv_if_ne (tgt := 10) hx hb dX11_door_5 (by decide) (fun c_5 => ?_) (fun c_5 => ?_)
  · have hf_5 := hf.trans (if_neg c_5)
    refine lv_aload_n hx hb dX11_door_10 rfl (lv_at hl 0 rfl) ?_
    refine fx_get (ci := 11) (v := .ref (rr + 24)) hx hb hts i11 hown hK (rwc_0 hW) rfl 24 (by decide) kl80 rfl dX11_door_11 ?_
    refine lv_iload_n hx hb dX11_door_14 rfl (lv_at hl 1 rfl) ?_
    refine fx_zld hx hb hK 1 (rwc_24 hW) rfl (ischan_in (p1 := p1) (x := x) (by rw [e1r]; exact c_5)) dX11_door_15 ?_
    refine lv_istore_n (lv' := [(3, .int (u1.1 24 p1.toNatClampNeg)), (0, .ref (rr + 0)), (1, .int (p1)), (2, .int (p2))]) hx hb dX11_door_16 rfl hl (by decide) rfl (fun ls hl => ?_)
    refine lv_aload_n hx hb dX11_door_17 rfl (lv_at hl 1 rfl) ?_
    refine fx_get (ci := 11) (v := .ref (rr + 24)) hx hb hts i11 hown hK (rwc_0 hW) rfl 24 (by decide) kl80 rfl dX11_door_18 ?_
    refine lv_iload_n hx hb dX11_door_21 rfl (lv_at hl 2 rfl) ?_
    refine lv_iload_n hx hb dX11_door_22 rfl (lv_at hl 3 rfl) ?_
    refine fx_zst hx hb hK 1 (rwc_24 hW) (rA_o (o := 24) (by decide)) hS rfl (vnar_bo hp) (ischan_in (p1 := p1) (x := x) (by rw [e1r]; exact c_5)) dX11_door_23 (fun H locs hat hne hS => ?_)
    have hW : rw_ E rr (sR u1 24 p1.toNatClampNeg (p2)) H := rws_24 (k := p1.toNatClampNeg) (v := p2) hW hat hne
    refine lv_iload_n hx hb dX11_door_24 rfl (lv_at hl 3 rfl) ?_
    refine lv_if_eq (tgt := 45) hx hb dX11_door_25 (by decide) (fun c_25 => ?_) (fun c_25 => ?_)
    · have hf_25 := hf_5.trans (if_pos c_25)
      refine lv_iload_n hx hb dX11_door_45 rfl (lv_at hl 0 rfl) ?_
      exact gx_iret hx hb hr (nar_bo (by rw [← e1, ischan_rd (by decide)]; exact hbo)) hlocks hK hf_25 hW hS dX11_door_46
    · have hf_25 := hf_5.trans (if_neg c_25)
      refine lv_aload_n hx hb dX11_door_28 rfl (lv_at hl 1 rfl) ?_
      refine fx_get (ci := 11) (v := .ref (rr + 13)) hx hb hts i11 hown hK (rwc_0 hW) rfl 13 (by decide) kl47 rfl dX11_door_29 ?_
      refine lv_iload_n hx hb dX11_door_32 rfl (lv_at hl 2 rfl) ?_
      refine fx_ild hx hb hK 0 (rwc_13 hW) rfl (ischan_in (p1 := p1) (x := x) (by rw [e1r]; exact c_5)) dX11_door_33 ?_
      refine lv_bipush (v := 7) hx hb dX11_door_34 (by decide) ?_
      refine lv_icmp_ne (tgt := 45) hx hb dX11_door_36 (by decide) (fun c_36 => ?_) (fun c_36 => ?_)
      · have hf_36 := hf_25.trans (if_neg c_36)
        refine lv_iload_n hx hb dX11_door_45 rfl (lv_at hl 0 rfl) ?_
        exact gx_iret hx hb hr (nar_bo (by rw [← e1, ischan_rd (by decide)]; exact hbo)) hlocks hK hf_36 hW hS dX11_door_46
      · have hf_36 := hf_25.trans (if_pos c_36)
        refine lv_aload_n hx hb dX11_door_39 rfl (lv_at hl 1 rfl) ?_
        refine lv_iload_n hx hb dX11_door_40 rfl (lv_at hl 2 rfl) ?_
        refine lv_iconst (v := 2) hx hb dX11_door_41 (by decide) ?_
        refine gx_v (rest := []) ⟨hx, hb, hml, hown, hts⟩ (mX11_latch l E rr (sR u1 24 p1.toNatClampNeg (p2)) p1 2 (ischan_in (p1 := p1) (x := x) (by rw [e1r]; exact c_5)) (by unfold vp_in; decide) (fun h => absurd h (by decide)) _ _ hk1) (cwV 2 hts gX11_door_X11_latch rfl rfl rfl (by decide +kernel) ⟨Nat.le_of_ble_eq_true rfl, Nat.le_of_ble_eq_true rfl⟩) hW hK (fx_recv hK (rwc_0 hW) rfl) rfl hl.1 rfl (Nat.le_of_ble_eq_true rfl) dX11_door_42 ⟨Nat.le_of_ble_eq_true rfl, Nat.le_of_ble_eq_true rfl⟩ hS (fun _ h => h) (fun u2 H locs e2 hW hS => ?_)
        have e2 : fX11_latch p1 2 (sR u1 24 p1.toNatClampNeg (p2)) = u2 := e2
        try rw [e2] at hf_36
        have hk2 : okR tg bg u2 := e2 ▸ (okX11_latch (ischan_in (p1 := p1) (x := x) (by rw [e1r]; exact c_5)) (by unfold vp_in; decide) (fun h => absurd h (by decide)) hk1)
        refine lv_iload_n hx hb dX11_door_45 rfl (lv_at hl 0 rfl) ?_
        exact gx_iret hx hb hr (nar_bo (by rw [← e1, ischan_rd (by decide)]; exact hbo)) hlocks hK hf_36 hW hS dX11_door_46
  · have hf_5 := hf.trans (if_pos c_5)
    refine lv_iconst (v := 0) hx hb dX11_door_8 (by decide) ?_
    exact gx_iret hx hb hr (by decide) hlocks hK hf_5 hW hS dX11_door_9
theorem okX11_door {tg bg : Nat} {p1 : Int32} {p2 : Int32} {x : RS} (hok : okR tg bg x) : okR tg bg (fX11_door p1 p2 x).1 := by unfold fX11_door; exact (okR_ite1 (fun c_5 => (okX11_isChannel hok)) (fun c_5 => (okR_ite1 (fun c_25 => (okR_sR rfl (okX11_isChannel hok))) (fun c_25 => (okR_ite1 (fun c_36 => (okX11_latch (ischan_in c_5) (by unfold vp_in; decide) (fun h => absurd h (by decide)) (okR_sR rfl (okX11_isChannel hok)))) (fun c_36 => (okR_sR rfl (okX11_isChannel hok))))))))

def fX11_mains (p1 : Int32) (x : RS) : RS × Int32 := ((sR (sR x 0 0 (0)) 0 47 (p1)), x.1 0 47)
set_option maxHeartbeats 4000000 in
set_option maxRecDepth 100000 in
theorem mX11_mains (l : Launch) (E : eE) (rr : Nat) (x : RS) (p1 : Int32) (hp : p1 = 0 ∨ p1 = 1) (hbo : x.1 0 47 = 0 ∨ x.1 0 47 = 1) (tg : Nat) (bg : Nat) (hok : okR tg bg x) : Met l yX11_mains wsX11_mains ({ frames := 0, cells := 0, slots := 0, locals := 0 }) (gPre E (rw_ E rr x) [.ref (rr + 0), .int (p1)]) (gQi E (rw_ E rr) (fX11_mains p1 x) (rA rr)) 0 0 (rA rr) := by
  refine Met.ofW (cc := cX11_mains) (maxL := 3) (ret := (some .boolean)) (by decide) rfl ?_
  intro p e s m args below meth c s₁ B hml hv
  obtain ⟨rfl, hW, hK⟩ := hv
  have hx := B.exec
  have hb := B.bytes
  have hr := B.returns
  have hts := atoms_spec (ws := wsX11_mains) B.pre
  have hown : s.vm.findClass RX11 = some m.cls := findClass_of_methodNamed B.named
  have hlocks := B.notSynchronized
  have i11 : ∀ w ∈ wsX110, w ∈ wsX11_mains := by decide +kernel
  have kl148 := hts (.fieldLink RX11 148 "DosePumpModel" "mains" "Z") (by decide +kernel)
  have kl159 := hts (.fieldLink RX11 159 "DosePumpModel" "thrown" "I") (by decide +kernel)
  have hS : va_S (rA rr) s.heap s.heap [] := va_S.rf
  have hl := lv_entry ([.ref (rr + 0), .int (p1)]) (n := 3) (Nat.le_of_ble_eq_true rfl)
  rw [lg_entry_eq]
  generalize (lg_sl ([.ref (rr + 0), .int (p1)]) ++ List.replicate (3 - (lg_sl ([.ref (rr + 0), .int (p1)])).length) Slot.unset).toArray = ls at hl ⊢
  have hl : lv_has ls 3 [(0, .ref (rr + 0)), (1, .int (p1))] := hl
  have hf : fX11_mains p1 x = (((sR (sR x 0 0 (0)) 0 47 (p1)), x.1 0 47)) := rfl
  refine lv_aload_n hx hb dX11_mains_0 rfl (lv_at hl 0 rfl) ?_
  refine lv_iconst (v := 0) hx hb dX11_mains_1 (by decide) ?_
  refine fx_put (ci := 11) (v := .int (0)) hx hb hts i11 tyX11_ok nmX11 hown hK (rwc_0 hW) (rA_o (o := 0) (by decide)) hS rfl 0 (by decide) kl159 rfl rfl rfl (Nat.le_of_ble_eq_true rfl) dX11_mains_2 (fun H locs hat hne hS => ?_)
  have hW : rw_ E rr (sR x 0 0 (0)) H := rwf_0 (v := 0) hW hat hne
  refine lv_aload_n hx hb dX11_mains_5 rfl (lv_at hl 0 rfl) ?_
  refine fx_get (ci := 11) (v := .int (x.1 0 47)) hx hb hts i11 hown hK (rwc_0 hW) rfl 47 (by decide) kl148 rfl dX11_mains_6 ?_
  refine lv_istore_n (lv' := [(2, .int (x.1 0 47)), (0, .ref (rr + 0)), (1, .int (p1))]) hx hb dX11_mains_9 rfl hl (by decide) rfl (fun ls hl => ?_)
  refine lv_aload_n hx hb dX11_mains_10 rfl (lv_at hl 1 rfl) ?_
  refine lv_iload_n hx hb dX11_mains_11 rfl (lv_at hl 2 rfl) ?_
  refine fx_put (ci := 11) (v := .int (p1)) hx hb hts i11 tyX11_ok nmX11 hown hK (rwc_0 hW) (rA_o (o := 0) (by decide)) hS rfl 47 (by decide) kl148 rfl (nar_bo hp) (fit_bo hp) (Nat.le_of_ble_eq_true rfl) dX11_mains_12 (fun H locs hat hne hS => ?_)
  have hW : rw_ E rr (sR (sR x 0 0 (0)) 0 47 (p1)) H := rwf_47 (v := p1) hW hat hne
  refine lv_iload_n hx hb dX11_mains_15 rfl (lv_at hl 0 rfl) ?_
  exact gx_iret hx hb hr (nar_bo hbo) hlocks hK hf hW hS dX11_mains_16
theorem okX11_mains {tg bg : Nat} {p1 : Int32} {x : RS} (hok : okR tg bg x) : okR tg bg (fX11_mains p1 x).1 := by unfold fX11_mains; exact (okR_sR rfl (okR_sR rfl hok))
