/-! a tick of a channel -/
def fX10_makeStroke_J52 (n : Nat) (y : FS) (v2 : Int32) : FS := if v2 = 0 then (y) else ((fX10_latch n 5 (fX7_keepOpen (sC (sC y 0 10 (1)) 6 2 (0)))))
def fX10_makeStroke (n : Nat) (x : FS) : FS := if (fX6_hasTooMuchAir (fX7_countStroke (fX6_carryStroke ((fX4_add x).1 0 3) (sC (fX4_add x) 0 8 (((fX4_add x).2.1 0 8) + 1)))).1) = 0 then (fX10_makeStroke_J52 n (fX7_countStroke (fX6_carryStroke ((fX4_add x).1 0 3) (sC (fX4_add x) 0 8 (((fX4_add x).2.1 0 8) + 1)))).1 ((fX7_countStroke (fX6_carryStroke ((fX4_add x).1 0 3) (sC (fX4_add x) 0 8 (((fX4_add x).2.1 0 8) + 1)))).2)) else (fX10_makeStroke_J52 n (fX10_latch n 0 (fX7_countStroke (fX6_carryStroke ((fX4_add x).1 0 3) (sC (fX4_add x) 0 8 (((fX4_add x).2.1 0 8) + 1)))).1) ((fX7_countStroke (fX6_carryStroke ((fX4_add x).1 0 3) (sC (fX4_add x) 0 8 (((fX4_add x).2.1 0 8) + 1)))).2))
set_option maxHeartbeats 4000000 in
set_option maxRecDepth 100000 in
theorem mX10_makeStroke (l : Launch) (E : eE) (bb : Nat) (gd : Nat → Nat → Int32) (ch : Nat → Nat → Nat → Int32) (n : Nat) (hn : n < 3) (x : FS) (hok : okF x) : Met l yX10_makeStroke wsX10_makeStroke ({ frames := 2, cells := 0, slots := 0, locals := 50 }) (gPre E (cwf E bb gd ch n x) [.ref (bb + 0), .ref (bb + 21 + 14 * n + 0)]) (gQv E (cwf E bb gd ch n) (fX10_makeStroke n x) (cA bb)) 0 0 (cA bb) := by
  refine Met.ofW (cc := cX10_makeStroke) (maxL := 3) (ret := none) (by decide) rfl ?_
  intro p e s m args below meth c s₁ B hml hv
  obtain ⟨rfl, hW, hK⟩ := hv
  have hx := B.exec
  have hb := B.bytes
  have hr := B.returns
  have hts := atoms_spec (ws := wsX10_makeStroke) B.pre
  have hown : s.vm.findClass RX10 = some m.cls := findClass_of_methodNamed B.named
  have hlocks := B.notSynchronized
  have i0 : ∀ w ∈ wsX00, w ∈ wsX10_makeStroke := by decide +kernel
  have i1 : ∀ w ∈ wsX10, w ∈ wsX10_makeStroke := by decide +kernel
  have i10 : ∀ w ∈ wsX100, w ∈ wsX10_makeStroke := by decide +kernel
  have kl125 := hts (.fieldLink RX10 125 "DosePump$Channel" "line" "LDosePump$Line;") (by decide +kernel)
  have kl148 := hts (.fieldLink RX10 148 "DosePump" "time" "I") (by decide +kernel)
  have kl163 := hts (.fieldLink RX10 163 "DosePump$Channel" "program" "LDosePump$Program;") (by decide +kernel)
  have kl181 := hts (.fieldLink RX10 181 "DosePump$Channel" "boluses" "LDosePump$Boluses;") (by decide +kernel)
  have kl185 := hts (.fieldLink RX10 185 "DosePump$Boluses" "left" "I") (by decide +kernel)
  have kl188 := hts (.fieldLink RX10 188 "DosePump$Channel" "hour" "LDosePump$HourOfStrokes;") (by decide +kernel)
  have kl223 := hts (.fieldLink RX10 223 "DosePump$Channel" "strokes" "I") (by decide +kernel)
  have kl443 := hts (.fieldLink RX10 443 "DosePump$Channel" "doneNow" "Z") (by decide +kernel)
  have hS : va_S (cA bb) s.heap s.heap [] := va_S.rf
  have hl := lv_entry ([.ref (bb + 0), .ref (bb + 21 + 14 * n + 0)]) (n := 3) (Nat.le_of_ble_eq_true rfl)
  rw [lg_entry_eq]
  generalize (lg_sl ([.ref (bb + 0), .ref (bb + 21 + 14 * n + 0)]) ++ List.replicate (3 - (lg_sl ([.ref (bb + 0), .ref (bb + 21 + 14 * n + 0)])).length) Slot.unset).toArray = ls at hl ⊢
  have hl : lv_has ls 3 [(0, .ref (bb + 0)), (1, .ref (bb + 21 + 14 * n + 0))] := hl
  have J52 : ∀ (H : Heap) (locs : List Loc) (ls : Array Slot) (y : FS) (v2 : Int32), cwf E bb gd ch n y H → va_S (cA bb) s.heap H locs → lv_has ls 3 [(0, .ref (bb + 0)), (1, .ref (bb + 21 + 14 * n + 0)), (2, .int (v2))] → okF y → fX10_makeStroke n x = fX10_makeStroke_J52 n y v2 → W p l e (headSpec wsX10_makeStroke { frames := 2, cells := 0, slots := 0, locals := 50 }).room s m ([.ref (bb + 0), .ref (bb + 21 + 14 * n + 0)] : List Value).toArray below meth c H locs 0 0 (MQ below (gQv E (cwf E bb gd ch n) (fX10_makeStroke n x) (cA bb)) ([.ref (bb + 0), .ref (bb + 21 + 14 * n + 0)] : List Value).toArray s 0 0 (cA bb)) (F0 m 52 ls []) := by
    intro H locs ls y v2 hW hS hl hok hf
    replace hf : fX10_makeStroke n x = (if v2 = 0 then (y) else ((fX10_latch n 5 (fX7_keepOpen (sC (sC y 0 10 (1)) 6 2 (0)))))) := hf
    refine lv_iload_n hx hb dX10_makeStroke_52 rfl (lv_at hl 2 rfl) ?_
    refine lv_if_eq (tgt := 82) hx hb dX10_makeStroke_53 (by decide) (fun c_53 => ?_) (fun c_53 => ?_)
    · have hf_53 := hf.trans (if_pos c_53)
      exact gx_vret hx hb hr hlocks hK hf_53 hW hS dX10_makeStroke_82
    · have hf_53 := hf.trans (if_neg c_53)
      refine lv_aload_n hx hb dX10_makeStroke_56 rfl (lv_at hl 1 rfl) ?_
      refine lv_iconst (v := 1) hx hb dX10_makeStroke_57 (by decide) ?_
      refine fx_put (ci := 1) (v := .int (1)) hx hb hts i1 tyX1_ok nmX1 hown hK (cwf_C (o := 0) hW hn (by decide)) (cA_C hn (by decide)) hS rfl 10 (by decide) kl443 rfl (by decide) (by decide) (Nat.le_of_ble_eq_true rfl) dX10_makeStroke_58 (fun H locs hat hne hS => ?_)
      have hW : cwf E bb gd ch n (sC y 0 10 (1)) H := cwf_sC (o := 0) (k := 10) (v := 1) hW hn (by decide) hat hne
      refine lv_aload_n hx hb dX10_makeStroke_61 rfl (lv_at hl 1 rfl) ?_
      refine fx_get (ci := 1) (v := .ref (bb + 21 + 14 * n + 6)) hx hb hts i1 hown hK (cwf_C (o := 0) hW hn (by decide)) rfl 3 (by decide) kl181 rfl dX10_makeStroke_62 ?_
      refine lv_iconst (v := 0) hx hb dX10_makeStroke_65 (by decide) ?_
      refine fx_put (ci := 0) (v := .int (0)) hx hb hts i0 tyX0_ok nmX0 hown hK (cwf_C (o := 6) hW hn (by decide)) (cA_C hn (by decide)) hS rfl 2 (by decide) kl185 rfl rfl rfl (Nat.le_of_ble_eq_true rfl) dX10_makeStroke_66 (fun H locs hat hne hS => ?_)
      have hW : cwf E bb gd ch n (sC (sC y 0 10 (1)) 6 2 (0)) H := cwf_sC (o := 6) (k := 2) (v := 0) hW hn (by decide) hat hne
      refine lv_aload_n hx hb dX10_makeStroke_69 rfl (lv_at hl 1 rfl) ?_
      refine fx_get (ci := 1) (v := .ref (bb + 21 + 14 * n + 4)) hx hb hts i1 hown hK (cwf_C (o := 0) hW hn (by decide)) rfl 2 (by decide) kl163 rfl dX10_makeStroke_70 ?_
      refine gx_v (rest := []) ⟨hx, hb, hml, hown, hts⟩ (mX7_keepOpen l E bb gd ch n hn (sC (sC y 0 10 (1)) 6 2 (0))) (cwV 0 hts gX10_makeStroke_X7_keepOpen rfl rfl rfl (by decide +kernel) ⟨Nat.le_of_ble_eq_true rfl, Nat.le_of_ble_eq_true rfl⟩) hW hK (fx_recv hK (cwf_C (o := 4) hW hn (by decide)) rfl) rfl hl.1 rfl (Nat.le_of_ble_eq_true rfl) dX10_makeStroke_73 ⟨Nat.le_of_ble_eq_true rfl, Nat.le_of_ble_eq_true rfl⟩ hS (fun _ h => h) (fun u6 H locs e6 hW hS => ?_)
      have e6 : fX7_keepOpen (sC (sC y 0 10 (1)) 6 2 (0)) = u6 := e6
      try rw [e6] at hf_53
      have hk6 : okF u6 := e6 ▸ (okX7_keepOpen hok)
      refine lv_aload_n hx hb dX10_makeStroke_76 rfl (lv_at hl 0 rfl) ?_
      refine lv_aload_n hx hb dX10_makeStroke_77 rfl (lv_at hl 1 rfl) ?_
      refine lv_iconst (v := 5) hx hb dX10_makeStroke_78 (by decide) ?_
      refine gx_v (rest := []) ⟨hx, hb, hml, hown, hts⟩ (mX10_latch l E bb gd ch n hn u6 5) (cwV 2 hts gX10_makeStroke_X10_latch rfl rfl rfl (by decide +kernel) ⟨Nat.le_of_ble_eq_true rfl, Nat.le_of_ble_eq_true rfl⟩) hW hK (fx_recv hK (cwf_P (o := 0) hW (by decide)) rfl) rfl hl.1 rfl (Nat.le_of_ble_eq_true rfl) dX10_makeStroke_79 ⟨Nat.le_of_ble_eq_true rfl, Nat.le_of_ble_eq_true rfl⟩ hS (fun _ h => h) (fun u7 H locs e7 hW hS => ?_)
      have e7 : fX10_latch n 5 u6 = u7 := e7
      try rw [e7] at hf_53
      have hk7 : okF u7 := e7 ▸ (okX10_latch hk6)
      exact gx_vret hx hb hr hlocks hK hf_53 hW hS dX10_makeStroke_82
  have hf : fX10_makeStroke n x = (if (fX6_hasTooMuchAir (fX7_countStroke (fX6_carryStroke ((fX4_add x).1 0 3) (sC (fX4_add x) 0 8 (((fX4_add x).2.1 0 8) + 1)))).1) = 0 then (fX10_makeStroke_J52 n (fX7_countStroke (fX6_carryStroke ((fX4_add x).1 0 3) (sC (fX4_add x) 0 8 (((fX4_add x).2.1 0 8) + 1)))).1 ((fX7_countStroke (fX6_carryStroke ((fX4_add x).1 0 3) (sC (fX4_add x) 0 8 (((fX4_add x).2.1 0 8) + 1)))).2)) else (fX10_makeStroke_J52 n (fX10_latch n 0 (fX7_countStroke (fX6_carryStroke ((fX4_add x).1 0 3) (sC (fX4_add x) 0 8 (((fX4_add x).2.1 0 8) + 1)))).1) ((fX7_countStroke (fX6_carryStroke ((fX4_add x).1 0 3) (sC (fX4_add x) 0 8 (((fX4_add x).2.1 0 8) + 1)))).2))) := rfl
  refine lv_aload_n hx hb dX10_makeStroke_0 rfl (lv_at hl 1 rfl) ?_
  refine fx_get (ci := 1) (v := .ref (bb + 21 + 14 * n + 12)) hx hb hts i1 hown hK (cwf_C (o := 0) hW hn (by decide)) rfl 5 (by decide) kl188 rfl dX10_makeStroke_1 ?_
  refine gx_v (rest := []) ⟨hx, hb, hml, hown, hts⟩ (mX4_add l E bb gd ch n hn x hok) (cwV 0 hts gX10_makeStroke_X4_add rfl rfl rfl (by decide +kernel) ⟨Nat.le_of_ble_eq_true rfl, Nat.le_of_ble_eq_true rfl⟩) hW hK (fx_recv hK (cwf_C (o := 12) hW hn (by decide)) rfl) rfl hl.1 rfl (Nat.le_of_ble_eq_true rfl) dX10_makeStroke_4 ⟨Nat.le_of_ble_eq_true rfl, Nat.le_of_ble_eq_true rfl⟩ hS (fun _ h => h) (fun u1 H locs e1 hW hS => ?_)
  have e1 : fX4_add x = u1 := e1
  try rw [e1] at hf
  have hk1 : okF u1 := e1 ▸ (okX4_add hok)
  refine lv_aload_n hx hb dX10_makeStroke_7 rfl (lv_at hl 1 rfl) ?_
  refine lv_dup hx hb dX10_makeStroke_8 rfl ?_
  refine fx_get (ci := 1) (v := .int (u1.2.1 0 8)) hx hb hts i1 hown hK (cwf_C (o := 0) hW hn (by decide)) rfl 8 (by decide) kl223 rfl dX10_makeStroke_9 ?_
  refine lv_iconst (v := 1) hx hb dX10_makeStroke_12 (by decide) ?_
  refine lv_iadd hx hb dX10_makeStroke_13 ?_
  refine fx_put (ci := 1) (v := .int ((u1.2.1 0 8) + 1)) hx hb hts i1 tyX1_ok nmX1 hown hK (cwf_C (o := 0) hW hn (by decide)) (cA_C hn (by decide)) hS rfl 8 (by decide) kl223 rfl rfl rfl (Nat.le_of_ble_eq_true rfl) dX10_makeStroke_14 (fun H locs hat hne hS => ?_)
  have hW : cwf E bb gd ch n (sC u1 0 8 ((u1.2.1 0 8) + 1)) H := cwf_sC (o := 0) (k := 8) (v := (u1.2.1 0 8) + 1) hW hn (by decide) hat hne
  refine lv_aload_n hx hb dX10_makeStroke_17 rfl (lv_at hl 1 rfl) ?_
  refine fx_get (ci := 1) (v := .ref (bb + 21 + 14 * n + 9)) hx hb hts i1 hown hK (cwf_C (o := 0) hW hn (by decide)) rfl 4 (by decide) kl125 rfl dX10_makeStroke_18 ?_
  refine lv_aload_n hx hb dX10_makeStroke_21 rfl (lv_at hl 0 rfl) ?_
  refine fx_get (ci := 10) (v := .int (u1.1 0 3)) hx hb hts i10 hown hK (cwf_P (o := 0) hW (by decide)) rfl 3 (by decide) kl148 rfl dX10_makeStroke_22 ?_
  refine gx_v (rest := []) ⟨hx, hb, hml, hown, hts⟩ (mX6_carryStroke l E bb gd ch n hn (sC u1 0 8 ((u1.2.1 0 8) + 1)) (u1.1 0 3) hk1) (cwV 1 hts gX10_makeStroke_X6_carryStroke rfl rfl rfl (by decide +kernel) ⟨Nat.le_of_ble_eq_true rfl, Nat.le_of_ble_eq_true rfl⟩) hW hK (fx_recv hK (cwf_C (o := 9) hW hn (by decide)) rfl) rfl hl.1 rfl (Nat.le_of_ble_eq_true rfl) dX10_makeStroke_25 ⟨Nat.le_of_ble_eq_true rfl, Nat.le_of_ble_eq_true rfl⟩ hS (fun _ h => h) (fun u2 H locs e2 hW hS => ?_)
  have e2 : fX6_carryStroke (u1.1 0 3) (sC u1 0 8 ((u1.2.1 0 8) + 1)) = u2 := e2
  try rw [e2] at hf
  have hk2 : okF u2 := e2 ▸ (okX6_carryStroke hk1)
  refine lv_aload_n hx hb dX10_makeStroke_28 rfl (lv_at hl 1 rfl) ?_
  refine fx_get (ci := 1) (v := .ref (bb + 21 + 14 * n + 4)) hx hb hts i1 hown hK (cwf_C (o := 0) hW hn (by decide)) rfl 2 (by decide) kl163 rfl dX10_makeStroke_29 ?_
  refine gx_i (rest := []) ⟨hx, hb, hml, hown, hts⟩ (mX7_countStroke l E bb gd ch n hn u2) (cwV 0 hts gX10_makeStroke_X7_countStroke rfl rfl rfl (by decide +kernel) ⟨Nat.le_of_ble_eq_true rfl, Nat.le_of_ble_eq_true rfl⟩) hW hK (fx_recv hK (cwf_C (o := 4) hW hn (by decide)) rfl) rfl hl.1 rfl (Nat.le_of_ble_eq_true rfl) dX10_makeStroke_32 ⟨Nat.le_of_ble_eq_true rfl, Nat.le_of_ble_eq_true rfl⟩ hS (fun _ h => h) (fun u3 r3 H locs e3 e3r hW hS => ?_)
  have e3 : (fX7_countStroke u2).1 = u3 := e3
  have e3r : (fX7_countStroke u2).2 = r3 := e3r
  try rw [e3] at hf
  try rw [e3r] at hf
  have hk3 : okF u3 := e3 ▸ (okX7_countStroke hk2)
  refine lv_istore_n (lv' := [(2, .int (r3)), (0, .ref (bb + 0)), (1, .ref (bb + 21 + 14 * n + 0))]) hx hb dX10_makeStroke_35 rfl hl (by decide) rfl (fun ls hl => ?_)
  refine lv_aload_n hx hb dX10_makeStroke_36 rfl (lv_at hl 2 rfl) ?_
  refine fx_get (ci := 1) (v := .ref (bb + 21 + 14 * n + 9)) hx hb hts i1 hown hK (cwf_C (o := 0) hW hn (by decide)) rfl 4 (by decide) kl125 rfl dX10_makeStroke_37 ?_
  refine gx_i (rest := []) ⟨hx, hb, hml, hown, hts⟩ (mX6_hasTooMuchAir l E bb gd ch n hn u3) (cwV 0 hts gX10_makeStroke_X6_hasTooMuchAir rfl rfl rfl (by decide +kernel) ⟨Nat.le_of_ble_eq_true rfl, Nat.le_of_ble_eq_true rfl⟩) hW hK (fx_recv hK (cwf_C (o := 9) hW hn (by decide)) rfl) rfl hl.1 rfl (Nat.le_of_ble_eq_true rfl) dX10_makeStroke_40 ⟨Nat.le_of_ble_eq_true rfl, Nat.le_of_ble_eq_true rfl⟩ hS (fun _ h => h) (fun _ r4 H locs _ e4 hW hS => ?_)
  have e4 : fX6_hasTooMuchAir u3 = r4 := e4
  try rw [e4] at hf
  refine lv_if_eq (tgt := 52) hx hb dX10_makeStroke_43 (by decide) (fun c_43 => ?_) (fun c_43 => ?_)
  · have hf_43 := hf.trans (if_pos c_43)
    exact J52 _ _ _ u3 r3 hW hS (lv_sub hl [1, 2, 0] rfl) hk3 hf_43
  · have hf_43 := hf.trans (if_neg c_43)
    refine lv_aload_n hx hb dX10_makeStroke_46 rfl (lv_at hl 1 rfl) ?_
    refine lv_aload_n hx hb dX10_makeStroke_47 rfl (lv_at hl 2 rfl) ?_
    refine lv_iconst (v := 0) hx hb dX10_makeStroke_48 (by decide) ?_
    refine gx_v (rest := []) ⟨hx, hb, hml, hown, hts⟩ (mX10_latch l E bb gd ch n hn u3 0) (cwV 2 hts gX10_makeStroke_X10_latch rfl rfl rfl (by decide +kernel) ⟨Nat.le_of_ble_eq_true rfl, Nat.le_of_ble_eq_true rfl⟩) hW hK (fx_recv hK (cwf_P (o := 0) hW (by decide)) rfl) rfl hl.1 rfl (Nat.le_of_ble_eq_true rfl) dX10_makeStroke_49 ⟨Nat.le_of_ble_eq_true rfl, Nat.le_of_ble_eq_true rfl⟩ hS (fun _ h => h) (fun u5 H locs e5 hW hS => ?_)
    have e5 : fX10_latch n 0 u3 = u5 := e5
    try rw [e5] at hf_43
    have hk5 : okF u5 := e5 ▸ (okX10_latch hk3)
    exact J52 _ _ _ u5 r3 hW hS (lv_sub hl [1, 2, 0] rfl) hk5 hf_43
theorem okX10_makeStroke_J52 {n : Nat} {y : FS} {v2 : Int32} (hok : okF y) : okF (fX10_makeStroke_J52 n y v2) := by unfold fX10_makeStroke_J52; exact (okF_ite (fun c_53 => hok) (fun c_53 => (okX10_latch (okX7_keepOpen (okF_sC rfl (okF_sC rfl hok))))))
theorem okX10_makeStroke {n : Nat} {x : FS} (hok : okF x) : okF (fX10_makeStroke n x) := by unfold fX10_makeStroke; exact (okF_ite (fun c_43 => (okX10_makeStroke_J52 (okX7_countStroke (okX6_carryStroke (okF_sC rfl (okX4_add hok)))))) (fun c_43 => (okX10_makeStroke_J52 (okX10_latch (okX7_countStroke (okX6_carryStroke (okF_sC rfl (okX4_add hok))))))))

def fX10_deliver_L50 (gd : Nat → Nat → Int32) (n : Nat) : Nat → FS → Int32 → Int32 → Int32 → FS × Int32
  | 0, y, v3, v4, v5 => (y, 0)
  | k9 + 1, y, v3, v4, v5 => if v3 ≤ v5 then ((y, v4)) else (if (y.2.1 0 6) = 7 then (if (y.2.1 0 10) = 0 then (if (y.2.1 12 2) < (dRow gd (y.2.1 4 0).toNatClampNeg 8) then (fX10_deliver_L50 gd n k9 (fX10_makeStroke n y) v3 (v4 + 1) (v5 + 1)) else (fX10_deliver_L50 gd n k9 (fX10_latch n 4 y) v3 v4 (v5 + 1))) else ((y, v4))) else ((y, v4)))
def fX10_deliver (gd : Nat → Nat → Int32) (n : Nat) (x : FS) : FS × Int32 := fX10_deliver_L50 gd n (mu32 0 (((fX7_strokesDue x).2) + (if (x.2.1 6 2) < (dRow gd (x.2.1 4 0).toNatClampNeg 10) then (x.2.1 6 2) else (dRow gd (x.2.1 4 0).toNatClampNeg 10))) + 1) (sC (fX7_strokesDue x).1 6 2 (((fX7_strokesDue x).1.2.1 6 2) - (if (x.2.1 6 2) < (dRow gd (x.2.1 4 0).toNatClampNeg 10) then (x.2.1 6 2) else (dRow gd (x.2.1 4 0).toNatClampNeg 10)))) (((fX7_strokesDue x).2) + (if (x.2.1 6 2) < (dRow gd (x.2.1 4 0).toNatClampNeg 10) then (x.2.1 6 2) else (dRow gd (x.2.1 4 0).toNatClampNeg 10))) 0 0
set_option maxHeartbeats 4000000 in
set_option maxRecDepth 100000 in
theorem mX10_deliver (l : Launch) (E : eE) (bb : Nat) (gd : Nat → Nat → Int32) (ch : Nat → Nat → Nat → Int32) (n : Nat) (hn : n < 3) (x : FS) (hok : okF x) : Met l yX10_deliver wsX10_deliver ({ frames := 3, cells := 0, slots := 0, locals := 72 }) (gPre E (cwf E bb gd ch n x) [.ref (bb + 0), .ref (bb + 21 + 14 * n + 0)]) (gQi E (cwf E bb gd ch n) (fX10_deliver gd n x) (cA bb)) 0 0 (cA bb) := by
  refine Met.ofW (cc := cX10_deliver) (maxL := 6) (ret := (some .int)) (by decide) rfl ?_
  intro p e s m args below meth c s₁ B hml hv
  obtain ⟨rfl, hW, hK⟩ := hv
  have hx := B.exec
  have hb := B.bytes
  have hr := B.returns
  have hts := atoms_spec (ws := wsX10_deliver) B.pre
  have hown : s.vm.findClass RX10 = some m.cls := findClass_of_methodNamed B.named
  have hlocks := B.notSynchronized
  have i0 : ∀ w ∈ wsX00, w ∈ wsX10_deliver := by decide +kernel
  have i1 : ∀ w ∈ wsX10, w ∈ wsX10_deliver := by decide +kernel
  have i2 : ∀ w ∈ wsX20, w ∈ wsX10_deliver := by decide +kernel
  have i4 : ∀ w ∈ wsX40, w ∈ wsX10_deliver := by decide +kernel
  have i7 : ∀ w ∈ wsX70, w ∈ wsX10_deliver := by decide +kernel
  have kl141 := hts (.fieldLink RX10 141 "DosePump$Channel" "phase" "I") (by decide +kernel)
  have kl163 := hts (.fieldLink RX10 163 "DosePump$Channel" "program" "LDosePump$Program;") (by decide +kernel)
  have kl181 := hts (.fieldLink RX10 181 "DosePump$Channel" "boluses" "LDosePump$Boluses;") (by decide +kernel)
  have kl185 := hts (.fieldLink RX10 185 "DosePump$Boluses" "left" "I") (by decide +kernel)
  have kl188 := hts (.fieldLink RX10 188 "DosePump$Channel" "hour" "LDosePump$HourOfStrokes;") (by decide +kernel)
  have kl192 := hts (.fieldLink RX10 192 "DosePump$HourOfStrokes" "sum" "I") (by decide +kernel)
  have kl216 := hts (.fieldLink RX10 216 "DosePump$Program" "drug" "LDosePump$Drug;") (by decide +kernel)
  have kl404 := hts (.fieldLink RX10 404 "DosePump$Drug" "limit" "I") (by decide +kernel)
  have kl432 := hts (.fieldLink RX10 432 "DosePump$Drug" "pace" "I") (by decide +kernel)
  have kl443 := hts (.fieldLink RX10 443 "DosePump$Channel" "doneNow" "Z") (by decide +kernel)
  have hS : va_S (cA bb) s.heap s.heap [] := va_S.rf
  have hl := lv_entry ([.ref (bb + 0), .ref (bb + 21 + 14 * n + 0)]) (n := 6) (Nat.le_of_ble_eq_true rfl)
  rw [lg_entry_eq]
  generalize (lg_sl ([.ref (bb + 0), .ref (bb + 21 + 14 * n + 0)]) ++ List.replicate (6 - (lg_sl ([.ref (bb + 0), .ref (bb + 21 + 14 * n + 0)])).length) Slot.unset).toArray = ls at hl ⊢
  have hl : lv_has ls 6 [(0, .ref (bb + 0)), (1, .ref (bb + 21 + 14 * n + 0))] := hl
  have J50 : ∀ (k8 : Nat) (H : Heap) (locs : List Loc) (ls : Array Slot) (y : FS) (v3 : Int32) (v4 : Int32) (v5 : Int32), cwf E bb gd ch n y H → va_S (cA bb) s.heap H locs → lv_has ls 6 [(0, .ref (bb + 0)), (1, .ref (bb + 21 + 14 * n + 0)), (3, .int (v3)), (4, .int (v4)), (5, .int (v5))] → okF y → mu32 v5 v3 < k8 → fX10_deliver gd n x = fX10_deliver_L50 gd n k8 y v3 v4 v5 → W p l e (headSpec wsX10_deliver { frames := 3, cells := 0, slots := 0, locals := 72 }).room s m ([.ref (bb + 0), .ref (bb + 21 + 14 * n + 0)] : List Value).toArray below meth c H locs 0 0 (MQ below (gQi E (cwf E bb gd ch n) (fX10_deliver gd n x) (cA bb)) ([.ref (bb + 0), .ref (bb + 21 + 14 * n + 0)] : List Value).toArray s 0 0 (cA bb)) (F0 m 50 ls []) := by
    intro k8
    induction k8 with
    | zero =>
      intro H locs ls y v3 v4 v5 hW hS hl hok hmu hf
      exact absurd hmu (by omega)
    | succ k9 ih =>
      intro H locs ls y v3 v4 v5 hW hS hl hok hmu hf
      replace hf : fX10_deliver gd n x = (if v3 ≤ v5 then ((y, v4)) else (if (y.2.1 0 6) = 7 then (if (y.2.1 0 10) = 0 then (if (y.2.1 12 2) < (dRow gd (y.2.1 4 0).toNatClampNeg 8) then (fX10_deliver_L50 gd n k9 (fX10_makeStroke n y) v3 (v4 + 1) (v5 + 1)) else (fX10_deliver_L50 gd n k9 (fX10_latch n 4 y) v3 v4 (v5 + 1))) else ((y, v4))) else ((y, v4)))) := hf
      refine lv_iload hx hb dX10_deliver_50 (lv_at hl 4 rfl) ?_
      refine lv_iload_n hx hb dX10_deliver_52 rfl (lv_at hl 2 rfl) ?_
      refine lv_icmp_ge (tgt := 115) hx hb dX10_deliver_53 (by decide) (fun c_53 => ?_) (fun c_53 => ?_)
      · have hf_53 := hf.trans (if_pos c_53)
        refine lv_iload hx hb dX10_deliver_115 (lv_at hl 3 rfl) ?_
        exact gx_iret hx hb hr rfl hlocks hK hf_53 hW hS dX10_deliver_117
      · have hf_53 := hf.trans (if_neg c_53)
        refine lv_aload_n hx hb dX10_deliver_56 rfl (lv_at hl 1 rfl) ?_
        refine fx_get (ci := 1) (v := .int (y.2.1 0 6)) hx hb hts i1 hown hK (cwf_C (o := 0) hW hn (by decide)) rfl 6 (by decide) kl141 rfl dX10_deliver_57 ?_
        refine lv_bipush (v := 7) hx hb dX10_deliver_60 (by decide) ?_
        refine lv_icmp_ne (tgt := 115) hx hb dX10_deliver_62 (by decide) (fun c_62 => ?_) (fun c_62 => ?_)
        · have hf_62 := hf_53.trans (if_neg c_62)
          refine lv_iload hx hb dX10_deliver_115 (lv_at hl 3 rfl) ?_
          exact gx_iret hx hb hr rfl hlocks hK hf_62 hW hS dX10_deliver_117
        · have hf_62 := hf_53.trans (if_pos c_62)
          refine lv_aload_n hx hb dX10_deliver_65 rfl (lv_at hl 1 rfl) ?_
          refine fx_get (ci := 1) (v := .int (y.2.1 0 10)) hx hb hts i1 hown hK (cwf_C (o := 0) hW hn (by decide)) rfl 10 (by decide) kl443 rfl dX10_deliver_66 ?_
          refine lv_if_ne (tgt := 115) hx hb dX10_deliver_69 (by decide) (fun c_69 => ?_) (fun c_69 => ?_)
          · have hf_69 := hf_62.trans (if_neg c_69)
            refine lv_iload hx hb dX10_deliver_115 (lv_at hl 3 rfl) ?_
            exact gx_iret hx hb hr rfl hlocks hK hf_69 hW hS dX10_deliver_117
          · have hf_69 := hf_62.trans (if_pos c_69)
            refine lv_aload_n hx hb dX10_deliver_72 rfl (lv_at hl 1 rfl) ?_
            refine fx_get (ci := 1) (v := .ref (bb + 21 + 14 * n + 12)) hx hb hts i1 hown hK (cwf_C (o := 0) hW hn (by decide)) rfl 5 (by decide) kl188 rfl dX10_deliver_73 ?_
            refine fx_get (ci := 4) (v := .int (y.2.1 12 2)) hx hb hts i4 hown hK (cwf_C (o := 12) hW hn (by decide)) rfl 2 (by decide) kl192 rfl dX10_deliver_76 ?_
            refine lv_aload_n hx hb dX10_deliver_79 rfl (lv_at hl 1 rfl) ?_
            refine fx_get (ci := 1) (v := .ref (bb + 21 + 14 * n + 4)) hx hb hts i1 hown hK (cwf_C (o := 0) hW hn (by decide)) rfl 2 (by decide) kl163 rfl dX10_deliver_80 ?_
            refine fx_get (ci := 7) (v := .ref (dAd bb (y.2.1 4 0).toNatClampNeg)) hx hb hts i7 hown hK (cwf_C (o := 4) hW hn (by decide)) rfl 0 (by decide) kl216 rfl dX10_deliver_83 ?_
            refine fx_get (ci := 2) (v := .int (dRow gd (y.2.1 4 0).toNatClampNeg 8)) hx hb hts i2 hown hK (cwf_D hW hok.2.2.2.2.2.2) rfl 8 (by decide) kl404 rfl dX10_deliver_86 ?_
            refine lv_icmp_lt (tgt := 101) hx hb dX10_deliver_89 (by decide) (fun c_89 => ?_) (fun c_89 => ?_)
            · have hf_89 := hf_69.trans (if_pos c_89)
              refine lv_aload_n hx hb dX10_deliver_101 rfl (lv_at hl 0 rfl) ?_
              refine lv_aload_n hx hb dX10_deliver_102 rfl (lv_at hl 1 rfl) ?_
              refine gx_v (rest := []) ⟨hx, hb, hml, hown, hts⟩ (mX10_makeStroke l E bb gd ch n hn y hok) (cwV 1 hts gX10_deliver_X10_makeStroke rfl rfl rfl (by decide +kernel) ⟨Nat.le_of_ble_eq_true rfl, Nat.le_of_ble_eq_true rfl⟩) hW hK (fx_recv hK (cwf_P (o := 0) hW (by decide)) rfl) rfl hl.1 rfl (Nat.le_of_ble_eq_true rfl) dX10_deliver_103 ⟨Nat.le_of_ble_eq_true rfl, Nat.le_of_ble_eq_true rfl⟩ hS (fun _ h => h) (fun u2 H locs e2 hW hS => ?_)
              have e2 : fX10_makeStroke n y = u2 := e2
              try rw [e2] at hf_89
              have hk2 : okF u2 := e2 ▸ (okX10_makeStroke hok)
              refine lv_iinc (v := v4 + 1) (lv' := [(4, .int (v4 + 1)), (0, .ref (bb + 0)), (1, .ref (bb + 21 + 14 * n + 0)), (3, .int (v3)), (5, .int (v5))]) hx hb dX10_deliver_106 hl (k := 3) rfl (by first | rfl | decide) (by decide) rfl (fun ls hl => ?_)
              refine lv_iinc (v := v5 + 1) (lv' := [(5, .int (v5 + 1)), (4, .int (v4 + 1)), (0, .ref (bb + 0)), (1, .ref (bb + 21 + 14 * n + 0)), (3, .int (v3))]) hx hb dX10_deliver_109 hl (k := 4) rfl (by first | rfl | decide) (by decide) rfl (fun ls hl => ?_)
              refine lv_goto (tgt := 50) hx hb dX10_deliver_112 (by decide) ?_
              exact ih _ _ _ u2 v3 (v4 + 1) (v5 + 1) hW hS (lv_sub hl [2, 3, 4, 1, 0] rfl) hk2 (mu32_step c_53 hmu) hf_89
            · have hf_89 := hf_69.trans (if_neg c_89)
              refine lv_aload_n hx hb dX10_deliver_92 rfl (lv_at hl 0 rfl) ?_
              refine lv_aload_n hx hb dX10_deliver_93 rfl (lv_at hl 1 rfl) ?_
              refine lv_iconst (v := 4) hx hb dX10_deliver_94 (by decide) ?_
              refine gx_v (rest := []) ⟨hx, hb, hml, hown, hts⟩ (mX10_latch l E bb gd ch n hn y 4) (cwV 2 hts gX10_deliver_X10_latch rfl rfl rfl (by decide +kernel) ⟨Nat.le_of_ble_eq_true rfl, Nat.le_of_ble_eq_true rfl⟩) hW hK (fx_recv hK (cwf_P (o := 0) hW (by decide)) rfl) rfl hl.1 rfl (Nat.le_of_ble_eq_true rfl) dX10_deliver_95 ⟨Nat.le_of_ble_eq_true rfl, Nat.le_of_ble_eq_true rfl⟩ hS (fun _ h => h) (fun u3 H locs e3 hW hS => ?_)
              have e3 : fX10_latch n 4 y = u3 := e3
              try rw [e3] at hf_89
              have hk3 : okF u3 := e3 ▸ (okX10_latch hok)
              refine lv_goto (tgt := 109) hx hb dX10_deliver_98 (by decide) ?_
              refine lv_iinc (v := v5 + 1) (lv' := [(5, .int (v5 + 1)), (0, .ref (bb + 0)), (1, .ref (bb + 21 + 14 * n + 0)), (3, .int (v3)), (4, .int (v4))]) hx hb dX10_deliver_109 hl (k := 4) rfl (by first | rfl | decide) (by decide) rfl (fun ls hl => ?_)
              refine lv_goto (tgt := 50) hx hb dX10_deliver_112 (by decide) ?_
              exact ih _ _ _ u3 v3 v4 (v5 + 1) hW hS (lv_sub hl [1, 2, 3, 4, 0] rfl) hk3 (mu32_step c_53 hmu) hf_89
  have hf : fX10_deliver gd n x = (fX10_deliver_L50 gd n (mu32 0 (((fX7_strokesDue x).2) + (if (x.2.1 6 2) < (dRow gd (x.2.1 4 0).toNatClampNeg 10) then (x.2.1 6 2) else (dRow gd (x.2.1 4 0).toNatClampNeg 10))) + 1) (sC (fX7_strokesDue x).1 6 2 (((fX7_strokesDue x).1.2.1 6 2) - (if (x.2.1 6 2) < (dRow gd (x.2.1 4 0).toNatClampNeg 10) then (x.2.1 6 2) else (dRow gd (x.2.1 4 0).toNatClampNeg 10)))) (((fX7_strokesDue x).2) + (if (x.2.1 6 2) < (dRow gd (x.2.1 4 0).toNatClampNeg 10) then (x.2.1 6 2) else (dRow gd (x.2.1 4 0).toNatClampNeg 10))) 0 0) := rfl
  refine lv_aload_n hx hb dX10_deliver_0 rfl (lv_at hl 1 rfl) ?_
  refine fx_get (ci := 1) (v := .ref (bb + 21 + 14 * n + 4)) hx hb hts i1 hown hK (cwf_C (o := 0) hW hn (by decide)) rfl 2 (by decide) kl163 rfl dX10_deliver_1 ?_
  refine fx_get (ci := 7) (v := .ref (dAd bb (x.2.1 4 0).toNatClampNeg)) hx hb hts i7 hown hK (cwf_C (o := 4) hW hn (by decide)) rfl 0 (by decide) kl216 rfl dX10_deliver_4 ?_
  refine fx_get (ci := 2) (v := .int (dRow gd (x.2.1 4 0).toNatClampNeg 10)) hx hb hts i2 hown hK (cwf_D hW hok.2.2.2.2.2.2) rfl 10 (by decide) kl432 rfl dX10_deliver_7 ?_
  refine lv_aload_n hx hb dX10_deliver_10 rfl (lv_at hl 1 rfl) ?_
  refine fx_get (ci := 1) (v := .ref (bb + 21 + 14 * n + 6)) hx hb hts i1 hown hK (cwf_C (o := 0) hW hn (by decide)) rfl 3 (by decide) kl181 rfl dX10_deliver_11 ?_
  refine fx_get (ci := 0) (v := .int (x.2.1 6 2)) hx hb hts i0 hown hK (cwf_C (o := 6) hW hn (by decide)) rfl 2 (by decide) kl185 rfl dX10_deliver_14 ?_
  refine va_mmin hx hb (hml.trans hl.1.symm) hown (hts (.methodLink RX10 435 Lib.Math.min.name) (by decide +kernel)) (hts (.static Lib.Math.min.name) (by decide +kernel)) (hts (.initialized "java/lang/Math") (by decide +kernel)) (hts (.code Lib.Math.min.name Lib.Math.min.code 2 (some .int)) (by decide +kernel)) (Nat.le_of_ble_eq_true rfl) (Nat.le_of_ble_eq_true rfl) (Nat.le_of_ble_eq_true rfl) (Nat.le_of_ble_eq_true rfl) dX10_deliver_17 ?_
  refine lv_istore_n (lv' := [(2, .int (if (x.2.1 6 2) < (dRow gd (x.2.1 4 0).toNatClampNeg 10) then (x.2.1 6 2) else (dRow gd (x.2.1 4 0).toNatClampNeg 10))), (0, .ref (bb + 0)), (1, .ref (bb + 21 + 14 * n + 0))]) hx hb dX10_deliver_20 rfl hl (by decide) rfl (fun ls hl => ?_)
  refine lv_aload_n hx hb dX10_deliver_21 rfl (lv_at hl 2 rfl) ?_
  refine fx_get (ci := 1) (v := .ref (bb + 21 + 14 * n + 4)) hx hb hts i1 hown hK (cwf_C (o := 0) hW hn (by decide)) rfl 2 (by decide) kl163 rfl dX10_deliver_22 ?_
  refine gx_i (rest := []) ⟨hx, hb, hml, hown, hts⟩ (mX7_strokesDue l E bb gd ch n hn x) (cwV 0 hts gX10_deliver_X7_strokesDue rfl rfl rfl (by decide +kernel) ⟨Nat.le_of_ble_eq_true rfl, Nat.le_of_ble_eq_true rfl⟩) hW hK (fx_recv hK (cwf_C (o := 4) hW hn (by decide)) rfl) rfl hl.1 rfl (Nat.le_of_ble_eq_true rfl) dX10_deliver_25 ⟨Nat.le_of_ble_eq_true rfl, Nat.le_of_ble_eq_true rfl⟩ hS (fun _ h => h) (fun u1 r1 H locs e1 e1r hW hS => ?_)
  have e1 : (fX7_strokesDue x).1 = u1 := e1
  have e1r : (fX7_strokesDue x).2 = r1 := e1r
  try rw [e1] at hf
  try rw [e1r] at hf
  have hk1 : okF u1 := e1 ▸ (okX7_strokesDue hok)
  refine lv_iload_n hx hb dX10_deliver_28 rfl (lv_at hl 0 rfl) ?_
  refine lv_iadd hx hb dX10_deliver_29 ?_
  refine lv_istore_n (lv' := [(3, .int (r1 + (if (x.2.1 6 2) < (dRow gd (x.2.1 4 0).toNatClampNeg 10) then (x.2.1 6 2) else (dRow gd (x.2.1 4 0).toNatClampNeg 10)))), (2, .int (if (x.2.1 6 2) < (dRow gd (x.2.1 4 0).toNatClampNeg 10) then (x.2.1 6 2) else (dRow gd (x.2.1 4 0).toNatClampNeg 10))), (0, .ref (bb + 0)), (1, .ref (bb + 21 + 14 * n + 0))]) hx hb dX10_deliver_30 rfl hl (by decide) rfl (fun ls hl => ?_)
  refine lv_aload_n hx hb dX10_deliver_31 rfl (lv_at hl 3 rfl) ?_
  refine fx_get (ci := 1) (v := .ref (bb + 21 + 14 * n + 6)) hx hb hts i1 hown hK (cwf_C (o := 0) hW hn (by decide)) rfl 3 (by decide) kl181 rfl dX10_deliver_32 ?_
  refine lv_dup hx hb dX10_deliver_35 rfl ?_
  refine fx_get (ci := 0) (v := .int (u1.2.1 6 2)) hx hb hts i0 hown hK (cwf_C (o := 6) hW hn (by decide)) rfl 2 (by decide) kl185 rfl dX10_deliver_36 ?_
  refine lv_iload_n hx hb dX10_deliver_39 rfl (lv_at hl 1 rfl) ?_
  refine lv_isub hx hb dX10_deliver_40 ?_
  refine fx_put (ci := 0) (v := .int ((u1.2.1 6 2) - (if (x.2.1 6 2) < (dRow gd (x.2.1 4 0).toNatClampNeg 10) then (x.2.1 6 2) else (dRow gd (x.2.1 4 0).toNatClampNeg 10)))) hx hb hts i0 tyX0_ok nmX0 hown hK (cwf_C (o := 6) hW hn (by decide)) (cA_C hn (by decide)) hS rfl 2 (by decide) kl185 rfl rfl rfl (Nat.le_of_ble_eq_true rfl) dX10_deliver_41 (fun H locs hat hne hS => ?_)
  have hW : cwf E bb gd ch n (sC u1 6 2 ((u1.2.1 6 2) - (if (x.2.1 6 2) < (dRow gd (x.2.1 4 0).toNatClampNeg 10) then (x.2.1 6 2) else (dRow gd (x.2.1 4 0).toNatClampNeg 10)))) H := cwf_sC (o := 6) (k := 2) (v := (u1.2.1 6 2) - (if (x.2.1 6 2) < (dRow gd (x.2.1 4 0).toNatClampNeg 10) then (x.2.1 6 2) else (dRow gd (x.2.1 4 0).toNatClampNeg 10))) hW hn (by decide) hat hne
  refine lv_iconst (v := 0) hx hb dX10_deliver_44 (by decide) ?_
  refine lv_istore (lv' := [(4, .int (0)), (3, .int (r1 + (if (x.2.1 6 2) < (dRow gd (x.2.1 4 0).toNatClampNeg 10) then (x.2.1 6 2) else (dRow gd (x.2.1 4 0).toNatClampNeg 10)))), (2, .int (if (x.2.1 6 2) < (dRow gd (x.2.1 4 0).toNatClampNeg 10) then (x.2.1 6 2) else (dRow gd (x.2.1 4 0).toNatClampNeg 10))), (0, .ref (bb + 0)), (1, .ref (bb + 21 + 14 * n + 0))]) hx hb dX10_deliver_45 hl (by decide) rfl (fun ls hl => ?_)
  refine lv_iconst (v := 0) hx hb dX10_deliver_47 (by decide) ?_
  refine lv_istore (lv' := [(5, .int (0)), (4, .int (0)), (3, .int (r1 + (if (x.2.1 6 2) < (dRow gd (x.2.1 4 0).toNatClampNeg 10) then (x.2.1 6 2) else (dRow gd (x.2.1 4 0).toNatClampNeg 10)))), (2, .int (if (x.2.1 6 2) < (dRow gd (x.2.1 4 0).toNatClampNeg 10) then (x.2.1 6 2) else (dRow gd (x.2.1 4 0).toNatClampNeg 10))), (0, .ref (bb + 0)), (1, .ref (bb + 21 + 14 * n + 0))]) hx hb dX10_deliver_48 hl (by decide) rfl (fun ls hl => ?_)
  exact J50 _ _ _ _ (sC u1 6 2 ((u1.2.1 6 2) - (if (x.2.1 6 2) < (dRow gd (x.2.1 4 0).toNatClampNeg 10) then (x.2.1 6 2) else (dRow gd (x.2.1 4 0).toNatClampNeg 10)))) (r1 + (if (x.2.1 6 2) < (dRow gd (x.2.1 4 0).toNatClampNeg 10) then (x.2.1 6 2) else (dRow gd (x.2.1 4 0).toNatClampNeg 10))) 0 0 hW hS (lv_sub hl [4, 5, 2, 1, 0] rfl) hk1 (Nat.lt_succ_self _) hf
theorem okX10_deliver_L50 {gd : Nat → Nat → Int32} {n : Nat} : ∀ (k8 : Nat) (y : FS) (v3 : Int32) (v4 : Int32) (v5 : Int32), okF y → okF (fX10_deliver_L50 gd n k8 y v3 v4 v5).1 := by
  intro k8
  induction k8 with
  | zero => intro y v3 v4 v5 hok; exact hok
  | succ k9 ih => intro y v3 v4 v5 hok; unfold fX10_deliver_L50; exact (okF_ite1 (fun c_53 => hok) (fun c_53 => (okF_ite1 (fun c_62 => (okF_ite1 (fun c_69 => (okF_ite1 (fun c_89 => (ih _ _ _ _ (okX10_makeStroke hok))) (fun c_89 => (ih _ _ _ _ (okX10_latch hok))))) (fun c_69 => hok))) (fun c_62 => hok))))
theorem okX10_deliver {gd : Nat → Nat → Int32} {n : Nat} {x : FS} (hok : okF x) : okF (fX10_deliver gd n x).1 := by unfold fX10_deliver; exact (okX10_deliver_L50 _ _ _ _ _ (okF_sC rfl (okX7_strokesDue hok)))

def fX10_passEntry (n : Nat) (x : FS) : FS := if ((x.2.1 1 6) + 1) < 60 then ((sC x 1 6 ((x.2.1 1 6) + 1))) else ((fX10_dropEntry n (sC x 1 6 ((x.2.1 1 6) + 1))))
set_option maxHeartbeats 4000000 in
set_option maxRecDepth 100000 in
theorem mX10_passEntry (l : Launch) (E : eE) (bb : Nat) (gd : Nat → Nat → Int32) (ch : Nat → Nat → Nat → Int32) (n : Nat) (hn : n < 3) (x : FS) : Met l yX10_passEntry wsX10_passEntry ({ frames := 3, cells := 0, slots := 0, locals := 73 }) (gPre E (cwf E bb gd ch n x) [.ref (bb + 0), .ref (bb + 21 + 14 * n + 0)]) (gQv E (cwf E bb gd ch n) (fX10_passEntry n x) (cA bb)) 0 0 (cA bb) := by
  refine Met.ofW (cc := cX10_passEntry) (maxL := 2) (ret := none) (by decide) rfl ?_
  intro p e s m args below meth c s₁ B hml hv
  obtain ⟨rfl, hW, hK⟩ := hv
  have hx := B.exec
  have hb := B.bytes
  have hr := B.returns
  have hts := atoms_spec (ws := wsX10_passEntry) B.pre
  have hown : s.vm.findClass RX10 = some m.cls := findClass_of_methodNamed B.named
  have hlocks := B.notSynchronized
  have i1 : ∀ w ∈ wsX10, w ∈ wsX10_passEntry := by decide +kernel
  have i3 : ∀ w ∈ wsX30, w ∈ wsX10_passEntry := by decide +kernel
  have kl106 := hts (.fieldLink RX10 106 "DosePump$Channel" "entry" "LDosePump$Entry;") (by decide +kernel)
  have kl110 := hts (.fieldLink RX10 110 "DosePump$Entry" "idle" "I") (by decide +kernel)
  have hS : va_S (cA bb) s.heap s.heap [] := va_S.rf
  have hl := lv_entry ([.ref (bb + 0), .ref (bb + 21 + 14 * n + 0)]) (n := 2) (Nat.le_of_ble_eq_true rfl)
  rw [lg_entry_eq]
  generalize (lg_sl ([.ref (bb + 0), .ref (bb + 21 + 14 * n + 0)]) ++ List.replicate (2 - (lg_sl ([.ref (bb + 0), .ref (bb + 21 + 14 * n + 0)])).length) Slot.unset).toArray = ls at hl ⊢
  have hl : lv_has ls 2 [(0, .ref (bb + 0)), (1, .ref (bb + 21 + 14 * n + 0))] := hl
  have hf : fX10_passEntry n x = (if ((x.2.1 1 6) + 1) < 60 then ((sC x 1 6 ((x.2.1 1 6) + 1))) else ((fX10_dropEntry n (sC x 1 6 ((x.2.1 1 6) + 1))))) := rfl
  refine lv_aload_n hx hb dX10_passEntry_0 rfl (lv_at hl 1 rfl) ?_
  refine fx_get (ci := 1) (v := .ref (bb + 21 + 14 * n + 1)) hx hb hts i1 hown hK (cwf_C (o := 0) hW hn (by decide)) rfl 1 (by decide) kl106 rfl dX10_passEntry_1 ?_
  refine lv_dup hx hb dX10_passEntry_4 rfl ?_
  refine fx_get (ci := 3) (v := .int (x.2.1 1 6)) hx hb hts i3 hown hK (cwf_C (o := 1) hW hn (by decide)) rfl 6 (by decide) kl110 rfl dX10_passEntry_5 ?_
  refine lv_iconst (v := 1) hx hb dX10_passEntry_8 (by decide) ?_
  refine lv_iadd hx hb dX10_passEntry_9 ?_
  refine fx_put (ci := 3) (v := .int ((x.2.1 1 6) + 1)) hx hb hts i3 tyX3_ok nmX3 hown hK (cwf_C (o := 1) hW hn (by decide)) (cA_C hn (by decide)) hS rfl 6 (by decide) kl110 rfl rfl rfl (Nat.le_of_ble_eq_true rfl) dX10_passEntry_10 (fun H locs hat hne hS => ?_)
  have hW : cwf E bb gd ch n (sC x 1 6 ((x.2.1 1 6) + 1)) H := cwf_sC (o := 1) (k := 6) (v := (x.2.1 1 6) + 1) hW hn (by decide) hat hne
  refine lv_aload_n hx hb dX10_passEntry_13 rfl (lv_at hl 1 rfl) ?_
  refine fx_get (ci := 1) (v := .ref (bb + 21 + 14 * n + 1)) hx hb hts i1 hown hK (cwf_C (o := 0) hW hn (by decide)) rfl 1 (by decide) kl106 rfl dX10_passEntry_14 ?_
  refine fx_get (ci := 3) (v := .int ((x.2.1 1 6) + 1)) hx hb hts i3 hown hK (cwf_C (o := 1) hW hn (by decide)) rfl 6 (by decide) kl110 rfl dX10_passEntry_17 ?_
  refine lv_bipush (v := 60) hx hb dX10_passEntry_20 (by decide) ?_
  refine lv_icmp_lt (tgt := 30) hx hb dX10_passEntry_22 (by decide) (fun c_22 => ?_) (fun c_22 => ?_)
  · have hf_22 := hf.trans (if_pos c_22)
    exact gx_vret hx hb hr hlocks hK hf_22 hW hS dX10_passEntry_30
  · have hf_22 := hf.trans (if_neg c_22)
    refine lv_aload_n hx hb dX10_passEntry_25 rfl (lv_at hl 0 rfl) ?_
    refine lv_aload_n hx hb dX10_passEntry_26 rfl (lv_at hl 1 rfl) ?_
    refine gx_v (rest := []) ⟨hx, hb, hml, hown, hts⟩ (mX10_dropEntry l E bb gd ch n hn (sC x 1 6 ((x.2.1 1 6) + 1))) (cwV 1 hts gX10_passEntry_X10_dropEntry rfl rfl rfl (by decide +kernel) ⟨Nat.le_of_ble_eq_true rfl, Nat.le_of_ble_eq_true rfl⟩) hW hK (fx_recv hK (cwf_P (o := 0) hW (by decide)) rfl) rfl hl.1 rfl (Nat.le_of_ble_eq_true rfl) dX10_passEntry_27 ⟨Nat.le_of_ble_eq_true rfl, Nat.le_of_ble_eq_true rfl⟩ hS (fun _ h => h) (fun u1 H locs e1 hW hS => ?_)
    have e1 : fX10_dropEntry n (sC x 1 6 ((x.2.1 1 6) + 1)) = u1 := e1
    try rw [e1] at hf_22
    exact gx_vret hx hb hr hlocks hK hf_22 hW hS dX10_passEntry_30
theorem okX10_passEntry {n : Nat} {x : FS} (hn : n < 3) (hok : okF x) : okF (fX10_passEntry n x) := by unfold fX10_passEntry; exact (okF_ite (fun c_22 => (okF_sC rfl hok)) (fun c_22 => (okX10_dropEntry hn (okF_sC rfl hok))))

def fX10_passChannel_J43 (gd : Nat → Nat → Int32) (n : Nat) (y : FS) (v2 : Int32) : FS × Int32 := if (fX1_hasEntry y) = 0 then ((y, v2)) else (((fX10_passEntry n y), v2))
def fX10_passChannel_J26 (gd : Nat → Nat → Int32) (n : Nat) (y : FS) (w0 : Int32) : FS × Int32 := if ((fX6_drainAndTestBlocked y).2) = 0 then (fX10_passChannel_J43 gd n (fX6_drainAndTestBlocked y).1 w0) else (fX10_passChannel_J43 gd n (fX10_latch n 1 (fX6_drainAndTestBlocked y).1) w0)
def fX10_passChannel (gd : Nat → Nat → Int32) (n : Nat) (x : FS) : FS × Int32 := if ((fX1_beginTick (x.1 0 3) x).2.1 0 6) = 7 then (fX10_passChannel_J26 gd n (fX10_deliver gd n (fX1_beginTick (x.1 0 3) x)).1 ((fX10_deliver gd n (fX1_beginTick (x.1 0 3) x)).2)) else (fX10_passChannel_J26 gd n (fX1_beginTick (x.1 0 3) x) 0)
set_option maxHeartbeats 4000000 in
set_option maxRecDepth 100000 in
theorem mX10_passChannel (l : Launch) (E : eE) (bb : Nat) (gd : Nat → Nat → Int32) (ch : Nat → Nat → Nat → Int32) (n : Nat) (hn : n < 3) (x : FS) (hok : okF x) : Met l yX10_passChannel wsX10_passChannel ({ frames := 4, cells := 0, slots := 0, locals := 97 }) (gPre E (cwf E bb gd ch n x) [.ref (bb + 0), .ref (bb + 21 + 14 * n + 0)]) (gQi E (cwf E bb gd ch n) (fX10_passChannel gd n x) (cA bb)) 0 0 (cA bb) := by
  refine Met.ofW (cc := cX10_passChannel) (maxL := 3) (ret := (some .int)) (by decide) rfl ?_
  intro p e s m args below meth c s₁ B hml hv
  obtain ⟨rfl, hW, hK⟩ := hv
  have hx := B.exec
  have hb := B.bytes
  have hr := B.returns
  have hts := atoms_spec (ws := wsX10_passChannel) B.pre
  have hown : s.vm.findClass RX10 = some m.cls := findClass_of_methodNamed B.named
  have hlocks := B.notSynchronized
  have i1 : ∀ w ∈ wsX10, w ∈ wsX10_passChannel := by decide +kernel
  have i10 : ∀ w ∈ wsX100, w ∈ wsX10_passChannel := by decide +kernel
  have kl125 := hts (.fieldLink RX10 125 "DosePump$Channel" "line" "LDosePump$Line;") (by decide +kernel)
  have kl141 := hts (.fieldLink RX10 141 "DosePump$Channel" "phase" "I") (by decide +kernel)
  have kl148 := hts (.fieldLink RX10 148 "DosePump" "time" "I") (by decide +kernel)
  have hS : va_S (cA bb) s.heap s.heap [] := va_S.rf
  have hl := lv_entry ([.ref (bb + 0), .ref (bb + 21 + 14 * n + 0)]) (n := 3) (Nat.le_of_ble_eq_true rfl)
  rw [lg_entry_eq]
  generalize (lg_sl ([.ref (bb + 0), .ref (bb + 21 + 14 * n + 0)]) ++ List.replicate (3 - (lg_sl ([.ref (bb + 0), .ref (bb + 21 + 14 * n + 0)])).length) Slot.unset).toArray = ls at hl ⊢
  have hl : lv_has ls 3 [(0, .ref (bb + 0)), (1, .ref (bb + 21 + 14 * n + 0))] := hl
  have J43 : ∀ (H : Heap) (locs : List Loc) (ls : Array Slot) (y : FS) (v2 : Int32), cwf E bb gd ch n y H → va_S (cA bb) s.heap H locs → lv_has ls 3 [(0, .ref (bb + 0)), (1, .ref (bb + 21 + 14 * n + 0)), (2, .int (v2))] → okF y → fX10_passChannel gd n x = fX10_passChannel_J43 gd n y v2 → W p l e (headSpec wsX10_passChannel { frames := 4, cells := 0, slots := 0, locals := 97 }).room s m ([.ref (bb + 0), .ref (bb + 21 + 14 * n + 0)] : List Value).toArray below meth c H locs 0 0 (MQ below (gQi E (cwf E bb gd ch n) (fX10_passChannel gd n x) (cA bb)) ([.ref (bb + 0), .ref (bb + 21 + 14 * n + 0)] : List Value).toArray s 0 0 (cA bb)) (F0 m 43 ls []) := by
    intro H locs ls y v2 hW hS hl hok hf
    replace hf : fX10_passChannel gd n x = (if (fX1_hasEntry y) = 0 then ((y, v2)) else (((fX10_passEntry n y), v2))) := hf
    refine lv_aload_n hx hb dX10_passChannel_43 rfl (lv_at hl 1 rfl) ?_
    refine gx_i (rest := []) ⟨hx, hb, hml, hown, hts⟩ (mX1_hasEntry l E bb gd ch n hn y) (cwV 0 hts gX10_passChannel_X1_hasEntry rfl rfl rfl (by decide +kernel) ⟨Nat.le_of_ble_eq_true rfl, Nat.le_of_ble_eq_true rfl⟩) hW hK (fx_recv hK (cwf_C (o := 0) hW hn (by decide)) rfl) rfl hl.1 rfl (Nat.le_of_ble_eq_true rfl) dX10_passChannel_44 ⟨Nat.le_of_ble_eq_true rfl, Nat.le_of_ble_eq_true rfl⟩ hS (fun _ h => h) (fun _ r5 H locs _ e5 hW hS => ?_)
    have e5 : fX1_hasEntry y = r5 := e5
    try rw [e5] at hf
    refine lv_if_eq (tgt := 55) hx hb dX10_passChannel_47 (by decide) (fun c_47 => ?_) (fun c_47 => ?_)
    · have hf_47 := hf.trans (if_pos c_47)
      refine lv_iload_n hx hb dX10_passChannel_55 rfl (lv_at hl 2 rfl) ?_
      exact gx_iret hx hb hr rfl hlocks hK hf_47 hW hS dX10_passChannel_56
    · have hf_47 := hf.trans (if_neg c_47)
      refine lv_aload_n hx hb dX10_passChannel_50 rfl (lv_at hl 0 rfl) ?_
      refine lv_aload_n hx hb dX10_passChannel_51 rfl (lv_at hl 1 rfl) ?_
      refine gx_v (rest := []) ⟨hx, hb, hml, hown, hts⟩ (mX10_passEntry l E bb gd ch n hn y) (cwV 1 hts gX10_passChannel_X10_passEntry rfl rfl rfl (by decide +kernel) ⟨Nat.le_of_ble_eq_true rfl, Nat.le_of_ble_eq_true rfl⟩) hW hK (fx_recv hK (cwf_P (o := 0) hW (by decide)) rfl) rfl hl.1 rfl (Nat.le_of_ble_eq_true rfl) dX10_passChannel_52 ⟨Nat.le_of_ble_eq_true rfl, Nat.le_of_ble_eq_true rfl⟩ hS (fun _ h => h) (fun u6 H locs e6 hW hS => ?_)
      have e6 : fX10_passEntry n y = u6 := e6
      try rw [e6] at hf_47
      have hk6 : okF u6 := e6 ▸ (okX10_passEntry hn hok)
      refine lv_iload_n hx hb dX10_passChannel_55 rfl (lv_at hl 2 rfl) ?_
      exact gx_iret hx hb hr rfl hlocks hK hf_47 hW hS dX10_passChannel_56
  have J26 : ∀ (H : Heap) (locs : List Loc) (ls : Array Slot) (y : FS) (w0 : Int32), cwf E bb gd ch n y H → va_S (cA bb) s.heap H locs → lv_has ls 3 [(0, .ref (bb + 0)), (1, .ref (bb + 21 + 14 * n + 0))] → okF y → fX10_passChannel gd n x = fX10_passChannel_J26 gd n y w0 → W p l e (headSpec wsX10_passChannel { frames := 4, cells := 0, slots := 0, locals := 97 }).room s m ([.ref (bb + 0), .ref (bb + 21 + 14 * n + 0)] : List Value).toArray below meth c H locs 0 0 (MQ below (gQi E (cwf E bb gd ch n) (fX10_passChannel gd n x) (cA bb)) ([.ref (bb + 0), .ref (bb + 21 + 14 * n + 0)] : List Value).toArray s 0 0 (cA bb)) (F0 m 26 ls [.int (w0)]) := by
    intro H locs ls y w0 hW hS hl hok hf
    replace hf : fX10_passChannel gd n x = (if ((fX6_drainAndTestBlocked y).2) = 0 then (fX10_passChannel_J43 gd n (fX6_drainAndTestBlocked y).1 w0) else (fX10_passChannel_J43 gd n (fX10_latch n 1 (fX6_drainAndTestBlocked y).1) w0)) := hf
    refine lv_istore_n (lv' := [(2, .int (w0)), (0, .ref (bb + 0)), (1, .ref (bb + 21 + 14 * n + 0))]) hx hb dX10_passChannel_26 rfl hl (by decide) rfl (fun ls hl => ?_)
    refine lv_aload_n hx hb dX10_passChannel_27 rfl (lv_at hl 2 rfl) ?_
    refine fx_get (ci := 1) (v := .ref (bb + 21 + 14 * n + 9)) hx hb hts i1 hown hK (cwf_C (o := 0) hW hn (by decide)) rfl 4 (by decide) kl125 rfl dX10_passChannel_28 ?_
    refine gx_i (rest := []) ⟨hx, hb, hml, hown, hts⟩ (mX6_drainAndTestBlocked l E bb gd ch n hn y) (cwV 0 hts gX10_passChannel_X6_drainAndTestBlocked rfl rfl rfl (by decide +kernel) ⟨Nat.le_of_ble_eq_true rfl, Nat.le_of_ble_eq_true rfl⟩) hW hK (fx_recv hK (cwf_C (o := 9) hW hn (by decide)) rfl) rfl hl.1 rfl (Nat.le_of_ble_eq_true rfl) dX10_passChannel_31 ⟨Nat.le_of_ble_eq_true rfl, Nat.le_of_ble_eq_true rfl⟩ hS (fun _ h => h) (fun u3 r3 H locs e3 e3r hW hS => ?_)
    have e3 : (fX6_drainAndTestBlocked y).1 = u3 := e3
    have e3r : (fX6_drainAndTestBlocked y).2 = r3 := e3r
    try rw [e3] at hf
    try rw [e3r] at hf
    have hk3 : okF u3 := e3 ▸ (okX6_drainAndTestBlocked hok)
    refine lv_if_eq (tgt := 43) hx hb dX10_passChannel_34 (by decide) (fun c_34 => ?_) (fun c_34 => ?_)
    · have hf_34 := hf.trans (if_pos c_34)
      exact J43 _ _ _ u3 w0 hW hS (lv_sub hl [1, 2, 0] rfl) hk3 hf_34
    · have hf_34 := hf.trans (if_neg c_34)
      refine lv_aload_n hx hb dX10_passChannel_37 rfl (lv_at hl 1 rfl) ?_
      refine lv_aload_n hx hb dX10_passChannel_38 rfl (lv_at hl 2 rfl) ?_
      refine lv_iconst (v := 1) hx hb dX10_passChannel_39 (by decide) ?_
      refine gx_v (rest := []) ⟨hx, hb, hml, hown, hts⟩ (mX10_latch l E bb gd ch n hn u3 1) (cwV 2 hts gX10_passChannel_X10_latch rfl rfl rfl (by decide +kernel) ⟨Nat.le_of_ble_eq_true rfl, Nat.le_of_ble_eq_true rfl⟩) hW hK (fx_recv hK (cwf_P (o := 0) hW (by decide)) rfl) rfl hl.1 rfl (Nat.le_of_ble_eq_true rfl) dX10_passChannel_40 ⟨Nat.le_of_ble_eq_true rfl, Nat.le_of_ble_eq_true rfl⟩ hS (fun _ h => h) (fun u4 H locs e4 hW hS => ?_)
      have e4 : fX10_latch n 1 u3 = u4 := e4
      try rw [e4] at hf_34
      have hk4 : okF u4 := e4 ▸ (okX10_latch hk3)
      exact J43 _ _ _ u4 w0 hW hS (lv_sub hl [1, 2, 0] rfl) hk4 hf_34
  have hf : fX10_passChannel gd n x = (if ((fX1_beginTick (x.1 0 3) x).2.1 0 6) = 7 then (fX10_passChannel_J26 gd n (fX10_deliver gd n (fX1_beginTick (x.1 0 3) x)).1 ((fX10_deliver gd n (fX1_beginTick (x.1 0 3) x)).2)) else (fX10_passChannel_J26 gd n (fX1_beginTick (x.1 0 3) x) 0)) := rfl
  refine lv_aload_n hx hb dX10_passChannel_0 rfl (lv_at hl 1 rfl) ?_
  refine lv_aload_n hx hb dX10_passChannel_1 rfl (lv_at hl 0 rfl) ?_
  refine fx_get (ci := 10) (v := .int (x.1 0 3)) hx hb hts i10 hown hK (cwf_P (o := 0) hW (by decide)) rfl 3 (by decide) kl148 rfl dX10_passChannel_2 ?_
  refine gx_v (rest := []) ⟨hx, hb, hml, hown, hts⟩ (mX1_beginTick l E bb gd ch n hn x (x.1 0 3) hok) (cwV 1 hts gX10_passChannel_X1_beginTick rfl rfl rfl (by decide +kernel) ⟨Nat.le_of_ble_eq_true rfl, Nat.le_of_ble_eq_true rfl⟩) hW hK (fx_recv hK (cwf_C (o := 0) hW hn (by decide)) rfl) rfl hl.1 rfl (Nat.le_of_ble_eq_true rfl) dX10_passChannel_5 ⟨Nat.le_of_ble_eq_true rfl, Nat.le_of_ble_eq_true rfl⟩ hS (fun _ h => h) (fun u1 H locs e1 hW hS => ?_)
  have e1 : fX1_beginTick (x.1 0 3) x = u1 := e1
  try rw [e1] at hf
  have hk1 : okF u1 := e1 ▸ (okX1_beginTick hok)
  refine lv_aload_n hx hb dX10_passChannel_8 rfl (lv_at hl 1 rfl) ?_
  refine fx_get (ci := 1) (v := .int (u1.2.1 0 6)) hx hb hts i1 hown hK (cwf_C (o := 0) hW hn (by decide)) rfl 6 (by decide) kl141 rfl dX10_passChannel_9 ?_
  refine lv_bipush (v := 7) hx hb dX10_passChannel_12 (by decide) ?_
  refine lv_icmp_ne (tgt := 25) hx hb dX10_passChannel_14 (by decide) (fun c_14 => ?_) (fun c_14 => ?_)
  · have hf_14 := hf.trans (if_neg c_14)
    refine lv_iconst (v := 0) hx hb dX10_passChannel_25 (by decide) ?_
    exact J26 _ _ _ u1 0 hW hS (lv_sub hl [0, 1] rfl) hk1 hf_14
  · have hf_14 := hf.trans (if_pos c_14)
    refine lv_aload_n hx hb dX10_passChannel_17 rfl (lv_at hl 0 rfl) ?_
    refine lv_aload_n hx hb dX10_passChannel_18 rfl (lv_at hl 1 rfl) ?_
    refine gx_i (rest := []) ⟨hx, hb, hml, hown, hts⟩ (mX10_deliver l E bb gd ch n hn u1 hk1) (cwV 1 hts gX10_passChannel_X10_deliver rfl rfl rfl (by decide +kernel) ⟨Nat.le_of_ble_eq_true rfl, Nat.le_of_ble_eq_true rfl⟩) hW hK (fx_recv hK (cwf_P (o := 0) hW (by decide)) rfl) rfl hl.1 rfl (Nat.le_of_ble_eq_true rfl) dX10_passChannel_19 ⟨Nat.le_of_ble_eq_true rfl, Nat.le_of_ble_eq_true rfl⟩ hS (fun _ h => h) (fun u2 r2 H locs e2 e2r hW hS => ?_)
    have e2 : (fX10_deliver gd n u1).1 = u2 := e2
    have e2r : (fX10_deliver gd n u1).2 = r2 := e2r
    try rw [e2] at hf_14
    try rw [e2r] at hf_14
    have hk2 : okF u2 := e2 ▸ (okX10_deliver hk1)
    refine lv_goto (tgt := 26) hx hb dX10_passChannel_22 (by decide) ?_
    exact J26 _ _ _ u2 r2 hW hS (lv_sub hl [0, 1] rfl) hk2 hf_14
theorem okX10_passChannel_J43 {gd : Nat → Nat → Int32} {n : Nat} {y : FS} {v2 : Int32} (hn : n < 3) (hok : okF y) : okF (fX10_passChannel_J43 gd n y v2).1 := by unfold fX10_passChannel_J43; exact (okF_ite1 (fun c_47 => hok) (fun c_47 => (okX10_passEntry hn hok)))
theorem okX10_passChannel_J26 {gd : Nat → Nat → Int32} {n : Nat} {y : FS} {w0 : Int32} (hn : n < 3) (hok : okF y) : okF (fX10_passChannel_J26 gd n y w0).1 := by unfold fX10_passChannel_J26; exact (okF_ite1 (fun c_34 => (okX10_passChannel_J43 hn (okX6_drainAndTestBlocked hok))) (fun c_34 => (okX10_passChannel_J43 hn (okX10_latch (okX6_drainAndTestBlocked hok)))))
theorem okX10_passChannel {gd : Nat → Nat → Int32} {n : Nat} {x : FS} (hn : n < 3) (hok : okF x) : okF (fX10_passChannel gd n x).1 := by unfold fX10_passChannel; exact (okF_ite1 (fun c_14 => (okX10_passChannel_J26 hn (okX10_deliver (okX1_beginTick hok)))) (fun c_14 => (okX10_passChannel_J26 hn (okX1_beginTick hok))))

def fX10_keepsEntryAlive (p1 : Int32) (x : FS) : Int32 := if p1 = 16 then (0) else (if p1 = 18 then (0) else (if p1 = 19 then (0) else (if p1 = 20 then (0) else (1))))
set_option maxHeartbeats 4000000 in
set_option maxRecDepth 100000 in
theorem mX10_keepsEntryAlive (l : Launch) (E : eE) (bb : Nat) (gd : Nat → Nat → Int32) (ch : Nat → Nat → Nat → Int32) (n : Nat) (hn : n < 3) (x : FS) (p1 : Int32) : Met l yX10_keepsEntryAlive wsX10_keepsEntryAlive ({ frames := 0, cells := 0, slots := 0, locals := 0 }) (gPre E (cwf E bb gd ch n x) [.int (p1)]) (gQi E (fun _ : Unit => cwf E bb gd ch n x) ((), fX10_keepsEntryAlive p1 x) (cA bb)) 0 0 (cA bb) := by
  refine Met.ofW (cc := cX10_keepsEntryAlive) (maxL := 1) (ret := (some .boolean)) (by decide) rfl ?_
  intro p e s m args below meth c s₁ B hml hv
  obtain ⟨rfl, hW, hK⟩ := hv
  have hx := B.exec
  have hb := B.bytes
  have hr := B.returns
  have hts := atoms_spec (ws := wsX10_keepsEntryAlive) B.pre
  have hown : s.vm.findClass RX10 = some m.cls := findClass_of_methodNamed B.named
  have hlocks := B.notSynchronized
  have hS : va_S (cA bb) s.heap s.heap [] := va_S.rf
  have hl := lv_entry ([.int (p1)]) (n := 1) (Nat.le_of_ble_eq_true rfl)
  rw [lg_entry_eq]
  generalize (lg_sl ([.int (p1)]) ++ List.replicate (1 - (lg_sl ([.int (p1)])).length) Slot.unset).toArray = ls at hl ⊢
  have hl : lv_has ls 1 [(0, .int (p1))] := hl
  have hf : fX10_keepsEntryAlive p1 x = (if p1 = 16 then (0) else (if p1 = 18 then (0) else (if p1 = 19 then (0) else (if p1 = 20 then (0) else (1))))) := rfl
  refine lv_iload_n hx hb dX10_keepsEntryAlive_0 rfl (lv_at hl 0 rfl) ?_
  refine lv_bipush (v := 16) hx hb dX10_keepsEntryAlive_1 (by decide) ?_
  refine lv_icmp_eq (tgt := 28) hx hb dX10_keepsEntryAlive_3 (by decide) (fun c_3 => ?_) (fun c_3 => ?_)
  · have hf_3 := hf.trans (if_pos c_3)
    refine lv_iconst (v := 0) hx hb dX10_keepsEntryAlive_28 (by decide) ?_
    exact gx_iret hx hb hr (by decide) hlocks hK (congrArg (Prod.mk ()) hf_3) (u := ()) (v := 0) hW hS dX10_keepsEntryAlive_29
  · have hf_3 := hf.trans (if_neg c_3)
    refine lv_iload_n hx hb dX10_keepsEntryAlive_6 rfl (lv_at hl 0 rfl) ?_
    refine lv_bipush (v := 18) hx hb dX10_keepsEntryAlive_7 (by decide) ?_
    refine lv_icmp_eq (tgt := 28) hx hb dX10_keepsEntryAlive_9 (by decide) (fun c_9 => ?_) (fun c_9 => ?_)
    · have hf_9 := hf_3.trans (if_pos c_9)
      refine lv_iconst (v := 0) hx hb dX10_keepsEntryAlive_28 (by decide) ?_
      exact gx_iret hx hb hr (by decide) hlocks hK (congrArg (Prod.mk ()) hf_9) (u := ()) (v := 0) hW hS dX10_keepsEntryAlive_29
    · have hf_9 := hf_3.trans (if_neg c_9)
      refine lv_iload_n hx hb dX10_keepsEntryAlive_12 rfl (lv_at hl 0 rfl) ?_
      refine lv_bipush (v := 19) hx hb dX10_keepsEntryAlive_13 (by decide) ?_
      refine lv_icmp_eq (tgt := 28) hx hb dX10_keepsEntryAlive_15 (by decide) (fun c_15 => ?_) (fun c_15 => ?_)
      · have hf_15 := hf_9.trans (if_pos c_15)
        refine lv_iconst (v := 0) hx hb dX10_keepsEntryAlive_28 (by decide) ?_
        exact gx_iret hx hb hr (by decide) hlocks hK (congrArg (Prod.mk ()) hf_15) (u := ()) (v := 0) hW hS dX10_keepsEntryAlive_29
      · have hf_15 := hf_9.trans (if_neg c_15)
        refine lv_iload_n hx hb dX10_keepsEntryAlive_18 rfl (lv_at hl 0 rfl) ?_
        refine lv_bipush (v := 20) hx hb dX10_keepsEntryAlive_19 (by decide) ?_
        refine lv_icmp_eq (tgt := 28) hx hb dX10_keepsEntryAlive_21 (by decide) (fun c_21 => ?_) (fun c_21 => ?_)
        · have hf_21 := hf_15.trans (if_pos c_21)
          refine lv_iconst (v := 0) hx hb dX10_keepsEntryAlive_28 (by decide) ?_
          exact gx_iret hx hb hr (by decide) hlocks hK (congrArg (Prod.mk ()) hf_21) (u := ()) (v := 0) hW hS dX10_keepsEntryAlive_29
        · have hf_21 := hf_15.trans (if_neg c_21)
          refine lv_iconst (v := 1) hx hb dX10_keepsEntryAlive_24 (by decide) ?_
          refine lv_goto (tgt := 29) hx hb dX10_keepsEntryAlive_25 (by decide) ?_
          exact gx_iret hx hb hr (by decide) hlocks hK (congrArg (Prod.mk ()) hf_21) (u := ()) (v := 1) hW hS dX10_keepsEntryAlive_29
