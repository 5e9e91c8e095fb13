/-! the reference: strokes -/
def fX11_isUsed_L4 (p1 : Int32) : Nat → RS → Int32 → Int32 → Int32
  | 0, x, v2, v3 => 0
  | k9 + 1, x, v2, v3 => if (3 : Int32) ≤ v3 then (v2) else (if (x.1 15 v3.toNatClampNeg) = p1 then (fX11_isUsed_L4 p1 k9 x (v2 ||| 1) (v3 + 1)) else (if (x.1 13 v3.toNatClampNeg) < 2 then (fX11_isUsed_L4 p1 k9 x (v2 ||| 0) (v3 + 1)) else (if (5 : Int32) < (x.1 13 v3.toNatClampNeg) then (fX11_isUsed_L4 p1 k9 x (v2 ||| 0) (v3 + 1)) else (if (x.1 38 v3.toNatClampNeg) = p1 then (fX11_isUsed_L4 p1 k9 x (v2 ||| 1) (v3 + 1)) else (fX11_isUsed_L4 p1 k9 x (v2 ||| 0) (v3 + 1))))))
def fX11_isUsed (p1 : Int32) (x : RS) : Int32 := fX11_isUsed_L4 p1 (mu32 0 3 + 1) x 0 0
set_option maxHeartbeats 4000000 in
set_option maxRecDepth 100000 in
theorem mX11_isUsed (l : Launch) (E : eE) (rr : Nat) (x : RS) (p1 : Int32) : Met l yX11_isUsed wsX11_isUsed ({ frames := 0, cells := 0, slots := 0, locals := 0 }) (gPre E (rw_ E rr x) [.ref (rr + 0), .int (p1)]) (gQi E (fun _ : Unit => rw_ E rr x) ((), fX11_isUsed p1 x) (rA rr)) 0 0 (rA rr) := by
  refine Met.ofW (cc := cX11_isUsed) (maxL := 4) (ret := (some .boolean)) (by decide) rfl ?_
  intro p e s m args below meth c s₁ B hml hv
  obtain ⟨rfl, hW, hK⟩ := hv
  have hx := B.exec
  have hb := B.bytes
  have hr := B.returns
  have hts := atoms_spec (ws := wsX11_isUsed) B.pre
  have hown : s.vm.findClass RX11 = some m.cls := findClass_of_methodNamed B.named
  have hlocks := B.notSynchronized
  have i11 : ∀ w ∈ wsX110, w ∈ wsX11_isUsed := by decide +kernel
  have kl47 := hts (.fieldLink RX11 47 "DosePumpModel" "phase" "[I") (by decide +kernel)
  have kl53 := hts (.fieldLink RX11 53 "DosePumpModel" "program" "[I") (by decide +kernel)
  have kl122 := hts (.fieldLink RX11 122 "DosePumpModel" "entryDrug" "[I") (by decide +kernel)
  have hS : va_S (rA rr) s.heap s.heap [] := va_S.rf
  have hl := lv_entry ([.ref (rr + 0), .int (p1)]) (n := 4) (Nat.le_of_ble_eq_true rfl)
  rw [lg_entry_eq]
  generalize (lg_sl ([.ref (rr + 0), .int (p1)]) ++ List.replicate (4 - (lg_sl ([.ref (rr + 0), .int (p1)])).length) Slot.unset).toArray = ls at hl ⊢
  have hl : lv_has ls 4 [(0, .ref (rr + 0)), (1, .int (p1))] := hl
  have J4 : ∀ (k8 : Nat) (H : Heap) (locs : List Loc) (ls : Array Slot) (v2 : Int32) (v3 : Int32), rw_ E rr x H → va_S (rA rr) s.heap H locs → lv_has ls 4 [(0, .ref (rr + 0)), (1, .int (p1)), (2, .int (v2)), (3, .int (v3))] → mu32 v3 3 < k8 ∧ 0 ≤ v3.toInt ∧ (v2 = 0 ∨ v2 = 1) → fX11_isUsed p1 x = fX11_isUsed_L4 p1 k8 x v2 v3 → W p l e (headSpec wsX11_isUsed { frames := 0, cells := 0, slots := 0, locals := 0 }).room s m ([.ref (rr + 0), .int (p1)] : List Value).toArray below meth c H locs 0 0 (MQ below (gQi E (fun _ : Unit => rw_ E rr x) ((), fX11_isUsed p1 x) (rA rr)) ([.ref (rr + 0), .int (p1)] : List Value).toArray s 0 0 (rA rr)) (F0 m 4 ls []) := by
    intro k8
    induction k8 with
    | zero =>
      intro H locs ls v2 v3 hW hS hl hmu hf
      exact absurd hmu (by omega)
    | succ k9 ih =>
      intro H locs ls v2 v3 hW hS hl hmu hf
      replace hf : fX11_isUsed p1 x = (if (3 : Int32) ≤ v3 then (v2) else (if (x.1 15 v3.toNatClampNeg) = p1 then (fX11_isUsed_L4 p1 k9 x (v2 ||| 1) (v3 + 1)) else (if (x.1 13 v3.toNatClampNeg) < 2 then (fX11_isUsed_L4 p1 k9 x (v2 ||| 0) (v3 + 1)) else (if (5 : Int32) < (x.1 13 v3.toNatClampNeg) then (fX11_isUsed_L4 p1 k9 x (v2 ||| 0) (v3 + 1)) else (if (x.1 38 v3.toNatClampNeg) = p1 then (fX11_isUsed_L4 p1 k9 x (v2 ||| 1) (v3 + 1)) else (fX11_isUsed_L4 p1 k9 x (v2 ||| 0) (v3 + 1))))))) := hf
      refine lv_iload_n hx hb dX11_isUsed_4 rfl (lv_at hl 3 rfl) ?_
      refine lv_iconst (v := 3) hx hb dX11_isUsed_5 (by decide) ?_
      refine lv_icmp_ge (tgt := 63) hx hb dX11_isUsed_6 (by decide) (fun c_6 => ?_) (fun c_6 => ?_)
      · have hf_6 := hf.trans (if_pos c_6)
        refine lv_iload_n hx hb dX11_isUsed_63 rfl (lv_at hl 2 rfl) ?_
        exact gx_iret hx hb hr (nar_bo hmu.2.2) hlocks hK (congrArg (Prod.mk ()) hf_6) (u := ()) (v := v2) hW hS dX11_isUsed_64
      · have hf_6 := hf.trans (if_neg c_6)
        refine lv_iload_n hx hb dX11_isUsed_9 rfl (lv_at hl 2 rfl) ?_
        refine lv_aload_n hx hb dX11_isUsed_10 rfl (lv_at hl 0 rfl) ?_
        refine fx_get (ci := 11) (v := .ref (rr + 15)) hx hb hts i11 hown hK (rwc_0 hW) rfl 15 (by decide) kl53 rfl dX11_isUsed_11 ?_
        refine lv_iload_n hx hb dX11_isUsed_14 rfl (lv_at hl 3 rfl) ?_
        refine fx_ild hx hb hK 0 (rwc_15 hW) rfl (vi_c3 hmu.2.1 c_6) dX11_isUsed_15 ?_
        refine lv_iload_n hx hb dX11_isUsed_16 rfl (lv_at hl 1 rfl) ?_
        refine lv_icmp_eq (tgt := 50) hx hb dX11_isUsed_17 (by decide) (fun c_17 => ?_) (fun c_17 => ?_)
        · have hf_17 := hf_6.trans (if_pos c_17)
          refine lv_iconst (v := 1) hx hb dX11_isUsed_50 (by decide) ?_
          refine lv_goto (tgt := 55) hx hb dX11_isUsed_51 (by decide) ?_
          refine lv_ior hx hb dX11_isUsed_55 ?_
          refine lv_istore_n (lv' := [(2, .int (v2 ||| 1)), (0, .ref (rr + 0)), (1, .int (p1)), (3, .int (v3))]) hx hb dX11_isUsed_56 rfl hl (by decide) rfl (fun ls hl => ?_)
          refine lv_iinc (v := v3 + 1) (lv' := [(3, .int (v3 + 1)), (2, .int (v2 ||| 1)), (0, .ref (rr + 0)), (1, .int (p1))]) hx hb dX11_isUsed_57 hl (k := 3) rfl (by first | rfl | decide) (by decide) rfl (fun ls hl => ?_)
          refine lv_goto (tgt := 4) hx hb dX11_isUsed_60 (by decide) ?_
          exact ih _ _ _ (v2 ||| 1) (v3 + 1) hW hS (lv_sub hl [2, 3, 1, 0] rfl) ⟨mu32_step c_6 hmu.1, vi_c3s hmu.2.1 c_6, (by first | exact bo_or1 hmu.2.2 | exact bo_or0 hmu.2.2)⟩ hf_17
        · have hf_17 := hf_6.trans (if_neg c_17)
          refine lv_aload_n hx hb dX11_isUsed_20 rfl (lv_at hl 0 rfl) ?_
          refine fx_get (ci := 11) (v := .ref (rr + 13)) hx hb hts i11 hown hK (rwc_0 hW) rfl 13 (by decide) kl47 rfl dX11_isUsed_21 ?_
          refine lv_iload_n hx hb dX11_isUsed_24 rfl (lv_at hl 3 rfl) ?_
          refine fx_ild hx hb hK 0 (rwc_13 hW) rfl (vi_c3 hmu.2.1 c_6) dX11_isUsed_25 ?_
          refine lv_iconst (v := 2) hx hb dX11_isUsed_26 (by decide) ?_
          refine lv_icmp_lt (tgt := 54) hx hb dX11_isUsed_27 (by decide) (fun c_27 => ?_) (fun c_27 => ?_)
          · have hf_27 := hf_17.trans (if_pos c_27)
            refine lv_iconst (v := 0) hx hb dX11_isUsed_54 (by decide) ?_
            refine lv_ior hx hb dX11_isUsed_55 ?_
            refine lv_istore_n (lv' := [(2, .int (v2 ||| 0)), (0, .ref (rr + 0)), (1, .int (p1)), (3, .int (v3))]) hx hb dX11_isUsed_56 rfl hl (by decide) rfl (fun ls hl => ?_)
            refine lv_iinc (v := v3 + 1) (lv' := [(3, .int (v3 + 1)), (2, .int (v2 ||| 0)), (0, .ref (rr + 0)), (1, .int (p1))]) hx hb dX11_isUsed_57 hl (k := 3) rfl (by first | rfl | decide) (by decide) rfl (fun ls hl => ?_)
            refine lv_goto (tgt := 4) hx hb dX11_isUsed_60 (by decide) ?_
            exact ih _ _ _ (v2 ||| 0) (v3 + 1) hW hS (lv_sub hl [2, 3, 1, 0] rfl) ⟨mu32_step c_6 hmu.1, vi_c3s hmu.2.1 c_6, (by first | exact bo_or1 hmu.2.2 | exact bo_or0 hmu.2.2)⟩ hf_27
          · have hf_27 := hf_17.trans (if_neg c_27)
            refine lv_aload_n hx hb dX11_isUsed_30 rfl (lv_at hl 0 rfl) ?_
            refine fx_get (ci := 11) (v := .ref (rr + 13)) hx hb hts i11 hown hK (rwc_0 hW) rfl 13 (by decide) kl47 rfl dX11_isUsed_31 ?_
            refine lv_iload_n hx hb dX11_isUsed_34 rfl (lv_at hl 3 rfl) ?_
            refine fx_ild hx hb hK 0 (rwc_13 hW) rfl (vi_c3 hmu.2.1 c_6) dX11_isUsed_35 ?_
            refine lv_iconst (v := 5) hx hb dX11_isUsed_36 (by decide) ?_
            refine lv_icmp_gt (tgt := 54) hx hb dX11_isUsed_37 (by decide) (fun c_37 => ?_) (fun c_37 => ?_)
            · have hf_37 := hf_27.trans (if_pos c_37)
              refine lv_iconst (v := 0) hx hb dX11_isUsed_54 (by decide) ?_
              refine lv_ior hx hb dX11_isUsed_55 ?_
              refine lv_istore_n (lv' := [(2, .int (v2 ||| 0)), (0, .ref (rr + 0)), (1, .int (p1)), (3, .int (v3))]) hx hb dX11_isUsed_56 rfl hl (by decide) rfl (fun ls hl => ?_)
              refine lv_iinc (v := v3 + 1) (lv' := [(3, .int (v3 + 1)), (2, .int (v2 ||| 0)), (0, .ref (rr + 0)), (1, .int (p1))]) hx hb dX11_isUsed_57 hl (k := 3) rfl (by first | rfl | decide) (by decide) rfl (fun ls hl => ?_)
              refine lv_goto (tgt := 4) hx hb dX11_isUsed_60 (by decide) ?_
              exact ih _ _ _ (v2 ||| 0) (v3 + 1) hW hS (lv_sub hl [2, 3, 1, 0] rfl) ⟨mu32_step c_6 hmu.1, vi_c3s hmu.2.1 c_6, (by first | exact bo_or1 hmu.2.2 | exact bo_or0 hmu.2.2)⟩ hf_37
            · have hf_37 := hf_27.trans (if_neg c_37)
              refine lv_aload_n hx hb dX11_isUsed_40 rfl (lv_at hl 0 rfl) ?_
              refine fx_get (ci := 11) (v := .ref (rr + 38)) hx hb hts i11 hown hK (rwc_0 hW) rfl 38 (by decide) kl122 rfl dX11_isUsed_41 ?_
              refine lv_iload_n hx hb dX11_isUsed_44 rfl (lv_at hl 3 rfl) ?_
              refine fx_ild hx hb hK 0 (rwc_38 hW) rfl (vi_c3 hmu.2.1 c_6) dX11_isUsed_45 ?_
              refine lv_iload_n hx hb dX11_isUsed_46 rfl (lv_at hl 1 rfl) ?_
              refine lv_icmp_ne (tgt := 54) hx hb dX11_isUsed_47 (by decide) (fun c_47 => ?_) (fun c_47 => ?_)
              · have hf_47 := hf_37.trans (if_neg c_47)
                refine lv_iconst (v := 0) hx hb dX11_isUsed_54 (by decide) ?_
                refine lv_ior hx hb dX11_isUsed_55 ?_
                refine lv_istore_n (lv' := [(2, .int (v2 ||| 0)), (0, .ref (rr + 0)), (1, .int (p1)), (3, .int (v3))]) hx hb dX11_isUsed_56 rfl hl (by decide) rfl (fun ls hl => ?_)
                refine lv_iinc (v := v3 + 1) (lv' := [(3, .int (v3 + 1)), (2, .int (v2 ||| 0)), (0, .ref (rr + 0)), (1, .int (p1))]) hx hb dX11_isUsed_57 hl (k := 3) rfl (by first | rfl | decide) (by decide) rfl (fun ls hl => ?_)
                refine lv_goto (tgt := 4) hx hb dX11_isUsed_60 (by decide) ?_
                exact ih _ _ _ (v2 ||| 0) (v3 + 1) hW hS (lv_sub hl [2, 3, 1, 0] rfl) ⟨mu32_step c_6 hmu.1, vi_c3s hmu.2.1 c_6, (by first | exact bo_or1 hmu.2.2 | exact bo_or0 hmu.2.2)⟩ hf_47
              · have hf_47 := hf_37.trans (if_pos c_47)
                refine lv_iconst (v := 1) hx hb dX11_isUsed_50 (by decide) ?_
                refine lv_goto (tgt := 55) hx hb dX11_isUsed_51 (by decide) ?_
                refine lv_ior hx hb dX11_isUsed_55 ?_
                refine lv_istore_n (lv' := [(2, .int (v2 ||| 1)), (0, .ref (rr + 0)), (1, .int (p1)), (3, .int (v3))]) hx hb dX11_isUsed_56 rfl hl (by decide) rfl (fun ls hl => ?_)
                refine lv_iinc (v := v3 + 1) (lv' := [(3, .int (v3 + 1)), (2, .int (v2 ||| 1)), (0, .ref (rr + 0)), (1, .int (p1))]) hx hb dX11_isUsed_57 hl (k := 3) rfl (by first | rfl | decide) (by decide) rfl (fun ls hl => ?_)
                refine lv_goto (tgt := 4) hx hb dX11_isUsed_60 (by decide) ?_
                exact ih _ _ _ (v2 ||| 1) (v3 + 1) hW hS (lv_sub hl [2, 3, 1, 0] rfl) ⟨mu32_step c_6 hmu.1, vi_c3s hmu.2.1 c_6, (by first | exact bo_or1 hmu.2.2 | exact bo_or0 hmu.2.2)⟩ hf_47
  have hf : fX11_isUsed p1 x = (fX11_isUsed_L4 p1 (mu32 0 3 + 1) x 0 0) := rfl
  refine lv_iconst (v := 0) hx hb dX11_isUsed_0 (by decide) ?_
  refine lv_istore_n (lv' := [(2, .int (0)), (0, .ref (rr + 0)), (1, .int (p1))]) hx hb dX11_isUsed_1 rfl hl (by decide) rfl (fun ls hl => ?_)
  refine lv_iconst (v := 0) hx hb dX11_isUsed_2 (by decide) ?_
  refine lv_istore_n (lv' := [(3, .int (0)), (2, .int (0)), (0, .ref (rr + 0)), (1, .int (p1))]) hx hb dX11_isUsed_3 rfl hl (by decide) rfl (fun ls hl => ?_)
  exact J4 _ _ _ _ 0 0 hW hS (lv_sub hl [2, 3, 1, 0] rfl) ⟨Nat.lt_succ_self _, Int.le_refl 0, Or.inl rfl⟩ hf

def fX11_mayTake (p1 : Int32) (p2 : Int32) (x : RS) : Int32 := if p2 = 0 then (if (x.1 23 p1.toNatClampNeg) = 0 then (1) else (0)) else if p2 = 1 then (1) else if p2 = 2 then (if (x.1 24 p1.toNatClampNeg) = 0 then (1) else (0)) else if p2 = 3 then (if (x.1 0 46) < 200 then (0) else (1)) else if p2 = 4 then (if (x.1 8 ((x.1 15 p1.toNatClampNeg).toNatClampNeg)) ≤ (x.1 35 p1.toNatClampNeg) then (0) else (1)) else if p2 = 5 then (1) else if p2 = 6 then (if (x.1 0 47) = 0 then (if (x.1 0 46) < 3600 then (0) else (1)) else (1)) else (1)
set_option maxHeartbeats 4000000 in
set_option maxRecDepth 100000 in
theorem mX11_mayTake (l : Launch) (E : eE) (rr : Nat) (x : RS) (p1 : Int32) (p2 : Int32) (hc : vp_in p1 3) (h4 : p2 = 4 → vp_in (x.1 15 p1.toNatClampNeg) 16) (tg : Nat) (bg : Nat) (hok : okR tg bg x) : Met l yX11_mayTake wsX11_mayTake ({ frames := 0, cells := 0, slots := 0, locals := 0 }) (gPre E (rw_ E rr x) [.ref (rr + 0), .int (p1), .int (p2)]) (gQi E (fun _ : Unit => rw_ E rr x) ((), fX11_mayTake p1 p2 x) (rA rr)) 0 0 (rA rr) := by
  refine Met.ofW (cc := cX11_mayTake) (maxL := 3) (ret := (some .boolean)) (by decide) rfl ?_
  intro p e s m args below meth c s₁ B hml hv
  obtain ⟨rfl, hW, hK⟩ := hv
  have hx := B.exec
  have hb := B.bytes
  have hr := B.returns
  have hts := atoms_spec (ws := wsX11_mayTake) B.pre
  have hown : s.vm.findClass RX11 = some m.cls := findClass_of_methodNamed B.named
  have hlocks := B.notSynchronized
  have i11 : ∀ w ∈ wsX110, w ∈ wsX11_mayTake := by decide +kernel
  have kl32 := hts (.fieldLink RX11 32 "DosePumpModel" "limit" "[I") (by decide +kernel)
  have kl53 := hts (.fieldLink RX11 53 "DosePumpModel" "program" "[I") (by decide +kernel)
  have kl77 := hts (.fieldLink RX11 77 "DosePumpModel" "air" "[Z") (by decide +kernel)
  have kl80 := hts (.fieldLink RX11 80 "DosePumpModel" "open" "[Z") (by decide +kernel)
  have kl113 := hts (.fieldLink RX11 113 "DosePumpModel" "inHour" "[I") (by decide +kernel)
  have kl144 := hts (.fieldLink RX11 144 "DosePumpModel" "charge" "I") (by decide +kernel)
  have kl148 := hts (.fieldLink RX11 148 "DosePumpModel" "mains" "Z") (by decide +kernel)
  have hS : va_S (rA rr) s.heap s.heap [] := va_S.rf
  have hl := lv_entry ([.ref (rr + 0), .int (p1), .int (p2)]) (n := 3) (Nat.le_of_ble_eq_true rfl)
  rw [lg_entry_eq]
  generalize (lg_sl ([.ref (rr + 0), .int (p1), .int (p2)]) ++ List.replicate (3 - (lg_sl ([.ref (rr + 0), .int (p1), .int (p2)])).length) Slot.unset).toArray = ls at hl ⊢
  have hl : lv_has ls 3 [(0, .ref (rr + 0)), (1, .int (p1)), (2, .int (p2))] := hl
  have hf : fX11_mayTake p1 p2 x = (if p2 = 0 then (if (x.1 23 p1.toNatClampNeg) = 0 then (1) else (0)) else if p2 = 1 then (1) else if p2 = 2 then (if (x.1 24 p1.toNatClampNeg) = 0 then (1) else (0)) else if p2 = 3 then (if (x.1 0 46) < 200 then (0) else (1)) else if p2 = 4 then (if (x.1 8 ((x.1 15 p1.toNatClampNeg).toNatClampNeg)) ≤ (x.1 35 p1.toNatClampNeg) then (0) else (1)) else if p2 = 5 then (1) else if p2 = 6 then (if (x.1 0 47) = 0 then (if (x.1 0 46) < 3600 then (0) else (1)) else (1)) else (1)) := rfl
  refine lv_iload_n hx hb dX11_mayTake_0 rfl (lv_at hl 2 rfl) ?_
  by_cases c_1_0 : p2 = 0
  · have hf_1_0 := hf.trans (if_pos c_1_0)
    refine gx_tab (tgt := 44) hx hb c_1_0 dX11_mayTake_1 (by decide) (by decide) rfl (by decide) ?_
    refine lv_aload_n hx hb dX11_mayTake_44 rfl (lv_at hl 0 rfl) ?_
    refine fx_get (ci := 11) (v := .ref (rr + 23)) hx hb hts i11 hown hK (rwc_0 hW) rfl 23 (by decide) kl77 rfl dX11_mayTake_45 ?_
    refine lv_iload_n hx hb dX11_mayTake_48 rfl (lv_at hl 1 rfl) ?_
    refine fx_zld hx hb hK 1 (rwc_23 hW) rfl hc dX11_mayTake_49 ?_
    refine lv_if_ne (tgt := 57) hx hb dX11_mayTake_50 (by decide) (fun c_50 => ?_) (fun c_50 => ?_)
    · have hf_50 := hf_1_0.trans (if_neg c_50)
      refine lv_iconst (v := 0) hx hb dX11_mayTake_57 (by decide) ?_
      exact gx_iret hx hb hr (by decide) hlocks hK (congrArg (Prod.mk ()) hf_50) (u := ()) (v := 0) hW hS dX11_mayTake_58
    · have hf_50 := hf_1_0.trans (if_pos c_50)
      refine lv_iconst (v := 1) hx hb dX11_mayTake_53 (by decide) ?_
      refine lv_goto (tgt := 58) hx hb dX11_mayTake_54 (by decide) ?_
      exact gx_iret hx hb hr (by decide) hlocks hK (congrArg (Prod.mk ()) hf_50) (u := ()) (v := 1) hW hS dX11_mayTake_58
  have hn_1_0 := hf.trans (if_neg c_1_0)
  by_cases c_1_1 : p2 = 1
  · have hf_1_1 := hn_1_0.trans (if_pos c_1_1)
    refine gx_tab (tgt := 139) hx hb c_1_1 dX11_mayTake_1 (by decide) (by decide) rfl (by decide) ?_
    refine lv_iconst (v := 1) hx hb dX11_mayTake_139 (by decide) ?_
    exact gx_iret hx hb hr (by decide) hlocks hK (congrArg (Prod.mk ()) hf_1_1) (u := ()) (v := 1) hW hS dX11_mayTake_140
  have hn_1_1 := hn_1_0.trans (if_neg c_1_1)
  by_cases c_1_2 : p2 = 2
  · have hf_1_2 := hn_1_1.trans (if_pos c_1_2)
    refine gx_tab (tgt := 59) hx hb c_1_2 dX11_mayTake_1 (by decide) (by decide) rfl (by decide) ?_
    refine lv_aload_n hx hb dX11_mayTake_59 rfl (lv_at hl 0 rfl) ?_
    refine fx_get (ci := 11) (v := .ref (rr + 24)) hx hb hts i11 hown hK (rwc_0 hW) rfl 24 (by decide) kl80 rfl dX11_mayTake_60 ?_
    refine lv_iload_n hx hb dX11_mayTake_63 rfl (lv_at hl 1 rfl) ?_
    refine fx_zld hx hb hK 1 (rwc_24 hW) rfl hc dX11_mayTake_64 ?_
    refine lv_if_ne (tgt := 72) hx hb dX11_mayTake_65 (by decide) (fun c_65 => ?_) (fun c_65 => ?_)
    · have hf_65 := hf_1_2.trans (if_neg c_65)
      refine lv_iconst (v := 0) hx hb dX11_mayTake_72 (by decide) ?_
      exact gx_iret hx hb hr (by decide) hlocks hK (congrArg (Prod.mk ()) hf_65) (u := ()) (v := 0) hW hS dX11_mayTake_73
    · have hf_65 := hf_1_2.trans (if_pos c_65)
      refine lv_iconst (v := 1) hx hb dX11_mayTake_68 (by decide) ?_
      refine lv_goto (tgt := 73) hx hb dX11_mayTake_69 (by decide) ?_
      exact gx_iret hx hb hr (by decide) hlocks hK (congrArg (Prod.mk ()) hf_65) (u := ()) (v := 1) hW hS dX11_mayTake_73
  have hn_1_2 := hn_1_1.trans (if_neg c_1_2)
  by_cases c_1_3 : p2 = 3
  · have hf_1_3 := hn_1_2.trans (if_pos c_1_3)
    refine gx_tab (tgt := 74) hx hb c_1_3 dX11_mayTake_1 (by decide) (by decide) rfl (by decide) ?_
    refine lv_aload_n hx hb dX11_mayTake_74 rfl (lv_at hl 0 rfl) ?_
    refine fx_get (ci := 11) (v := .int (x.1 0 46)) hx hb hts i11 hown hK (rwc_0 hW) rfl 46 (by decide) kl144 rfl dX11_mayTake_75 ?_
    refine lv_sipush (v := 200) hx hb dX11_mayTake_78 (by decide) ?_
    refine lv_icmp_lt (tgt := 88) hx hb dX11_mayTake_81 (by decide) (fun c_81 => ?_) (fun c_81 => ?_)
    · have hf_81 := hf_1_3.trans (if_pos c_81)
      refine lv_iconst (v := 0) hx hb dX11_mayTake_88 (by decide) ?_
      exact gx_iret hx hb hr (by decide) hlocks hK (congrArg (Prod.mk ()) hf_81) (u := ()) (v := 0) hW hS dX11_mayTake_89
    · have hf_81 := hf_1_3.trans (if_neg c_81)
      refine lv_iconst (v := 1) hx hb dX11_mayTake_84 (by decide) ?_
      refine lv_goto (tgt := 89) hx hb dX11_mayTake_85 (by decide) ?_
      exact gx_iret hx hb hr (by decide) hlocks hK (congrArg (Prod.mk ()) hf_81) (u := ()) (v := 1) hW hS dX11_mayTake_89
  have hn_1_3 := hn_1_2.trans (if_neg c_1_3)
  by_cases c_1_4 : p2 = 4
  · have hf_1_4 := hn_1_3.trans (if_pos c_1_4)
    refine gx_tab (tgt := 90) hx hb c_1_4 dX11_mayTake_1 (by decide) (by decide) rfl (by decide) ?_
    refine lv_aload_n hx hb dX11_mayTake_90 rfl (lv_at hl 0 rfl) ?_
    refine fx_get (ci := 11) (v := .ref (rr + 35)) hx hb hts i11 hown hK (rwc_0 hW) rfl 35 (by decide) kl113 rfl dX11_mayTake_91 ?_
    refine lv_iload_n hx hb dX11_mayTake_94 rfl (lv_at hl 1 rfl) ?_
    refine fx_ild hx hb hK 0 (rwc_35 hW) rfl hc dX11_mayTake_95 ?_
    refine lv_aload_n hx hb dX11_mayTake_96 rfl (lv_at hl 0 rfl) ?_
    refine fx_get (ci := 11) (v := .ref (rr + 8)) hx hb hts i11 hown hK (rwc_0 hW) rfl 8 (by decide) kl32 rfl dX11_mayTake_97 ?_
    refine lv_aload_n hx hb dX11_mayTake_100 rfl (lv_at hl 0 rfl) ?_
    refine fx_get (ci := 11) (v := .ref (rr + 15)) hx hb hts i11 hown hK (rwc_0 hW) rfl 15 (by decide) kl53 rfl dX11_mayTake_101 ?_
    refine lv_iload_n hx hb dX11_mayTake_104 rfl (lv_at hl 1 rfl) ?_
    refine fx_ild hx hb hK 0 (rwc_15 hW) rfl hc dX11_mayTake_105 ?_
    refine fx_ild hx hb hK 0 (rwc_8 hW) rfl (h4 c_1_4) dX11_mayTake_106 ?_
    refine lv_icmp_ge (tgt := 114) hx hb dX11_mayTake_107 (by decide) (fun c_107 => ?_) (fun c_107 => ?_)
    · have hf_107 := hf_1_4.trans (if_pos c_107)
      refine lv_iconst (v := 0) hx hb dX11_mayTake_114 (by decide) ?_
      exact gx_iret hx hb hr (by decide) hlocks hK (congrArg (Prod.mk ()) hf_107) (u := ()) (v := 0) hW hS dX11_mayTake_115
    · have hf_107 := hf_1_4.trans (if_neg c_107)
      refine lv_iconst (v := 1) hx hb dX11_mayTake_110 (by decide) ?_
      refine lv_goto (tgt := 115) hx hb dX11_mayTake_111 (by decide) ?_
      exact gx_iret hx hb hr (by decide) hlocks hK (congrArg (Prod.mk ()) hf_107) (u := ()) (v := 1) hW hS dX11_mayTake_115
  have hn_1_4 := hn_1_3.trans (if_neg c_1_4)
  by_cases c_1_5 : p2 = 5
  · have hf_1_5 := hn_1_4.trans (if_pos c_1_5)
    refine gx_tab (tgt := 139) hx hb c_1_5 dX11_mayTake_1 (by decide) (by decide) rfl (by decide) ?_
    refine lv_iconst (v := 1) hx hb dX11_mayTake_139 (by decide) ?_
    exact gx_iret hx hb hr (by decide) hlocks hK (congrArg (Prod.mk ()) hf_1_5) (u := ()) (v := 1) hW hS dX11_mayTake_140
  have hn_1_5 := hn_1_4.trans (if_neg c_1_5)
  by_cases c_1_6 : p2 = 6
  · have hf_1_6 := hn_1_5.trans (if_pos c_1_6)
    refine gx_tab (tgt := 116) hx hb c_1_6 dX11_mayTake_1 (by decide) (by decide) rfl (by decide) ?_
    refine lv_aload_n hx hb dX11_mayTake_116 rfl (lv_at hl 0 rfl) ?_
    refine fx_get (ci := 11) (v := .int (x.1 0 47)) hx hb hts i11 hown hK (rwc_0 hW) rfl 47 (by decide) kl148 rfl dX11_mayTake_117 ?_
    refine lv_if_ne (tgt := 133) hx hb dX11_mayTake_120 (by decide) (fun c_120 => ?_) (fun c_120 => ?_)
    · have hf_120 := hf_1_6.trans (if_neg c_120)
      refine lv_iconst (v := 1) hx hb dX11_mayTake_133 (by decide) ?_
      refine lv_goto (tgt := 138) hx hb dX11_mayTake_134 (by decide) ?_
      exact gx_iret hx hb hr (by decide) hlocks hK (congrArg (Prod.mk ()) hf_120) (u := ()) (v := 1) hW hS dX11_mayTake_138
    · have hf_120 := hf_1_6.trans (if_pos c_120)
      refine lv_aload_n hx hb dX11_mayTake_123 rfl (lv_at hl 0 rfl) ?_
      refine fx_get (ci := 11) (v := .int (x.1 0 46)) hx hb hts i11 hown hK (rwc_0 hW) rfl 46 (by decide) kl144 rfl dX11_mayTake_124 ?_
      refine lv_sipush (v := 3600) hx hb dX11_mayTake_127 (by decide) ?_
      refine lv_icmp_lt (tgt := 137) hx hb dX11_mayTake_130 (by decide) (fun c_130 => ?_) (fun c_130 => ?_)
      · have hf_130 := hf_120.trans (if_pos c_130)
        refine lv_iconst (v := 0) hx hb dX11_mayTake_137 (by decide) ?_
        exact gx_iret hx hb hr (by decide) hlocks hK (congrArg (Prod.mk ()) hf_130) (u := ()) (v := 0) hW hS dX11_mayTake_138
      · have hf_130 := hf_120.trans (if_neg c_130)
        refine lv_iconst (v := 1) hx hb dX11_mayTake_133 (by decide) ?_
        refine lv_goto (tgt := 138) hx hb dX11_mayTake_134 (by decide) ?_
        exact gx_iret hx hb hr (by decide) hlocks hK (congrArg (Prod.mk ()) hf_130) (u := ()) (v := 1) hW hS dX11_mayTake_138
  have hn_1_6 := hn_1_5.trans (if_neg c_1_6)
  refine lv_tableOut (tgt := 139) hx hb dX11_mayTake_1 (by have e0 := sw_ne (k := 0) 0 rfl c_1_0; have e1 := sw_ne (k := 1) 1 rfl c_1_1; have e2 := sw_ne (k := 2) 2 rfl c_1_2; have e3 := sw_ne (k := 3) 3 rfl c_1_3; have e4 := sw_ne (k := 4) 4 rfl c_1_4; have e5 := sw_ne (k := 5) 5 rfl c_1_5; have e6 := sw_ne (k := 6) 6 rfl c_1_6; omega) (by decide) ?_
  refine lv_iconst (v := 1) hx hb dX11_mayTake_139 (by decide) ?_
  exact gx_iret hx hb hr (by decide) hlocks hK (congrArg (Prod.mk ()) hn_1_6) (u := ()) (v := 1) hW hS dX11_mayTake_140

def fX11_stroke_J209 (p1 : Int32) (p2 : Int32) (y : RS) (v3 : Int32) : RS := if v3 = 0 then (y) else ((fX11_latch p1 5 (sR (sR (sR (sR y 30 p1.toNatClampNeg (1)) 17 p1.toNatClampNeg (-1)) 20 p1.toNatClampNeg (0)) 16 p1.toNatClampNeg ((fX11_least (y.1 16 p1.toNatClampNeg) 10 (sR (sR (sR y 30 p1.toNatClampNeg (1)) 17 p1.toNatClampNeg (-1)) 20 p1.toNatClampNeg (0)))))))
def fX11_stroke_J203 (p1 : Int32) (p2 : Int32) (y : RS) (v3 : Int32) : RS := fX11_stroke_J209 p1 p2 (fX11_latch p1 0 y) v3
def fX11_stroke_J182 (p1 : Int32) (p2 : Int32) (y : RS) (v3 : Int32) : RS := if (5 : Int32) ≤ (y.1 27 p1.toNatClampNeg) then (fX11_stroke_J203 p1 p2 y v3) else (if (y.1 37 p1.toNatClampNeg) < 60 then (fX11_stroke_J209 p1 p2 y v3) else (fX11_stroke_J203 p1 p2 y v3))
def fX11_stroke_J162 (p1 : Int32) (p2 : Int32) (y : RS) (w0 : Int32) : RS := if (y.1 17 p1.toNatClampNeg) ≤ 0 then (fX11_stroke_J182 p1 p2 y w0) else (fX11_stroke_J182 p1 p2 (sR y 17 p1.toNatClampNeg ((y.1 17 p1.toNatClampNeg) - 1)) w0)
def fX11_stroke_J147 (p1 : Int32) (p2 : Int32) (y : RS) : RS := if (y.1 17 p1.toNatClampNeg) = 1 then (fX11_stroke_J162 p1 p2 y 1) else (fX11_stroke_J162 p1 p2 y 0)
def fX11_stroke_J104 (p1 : Int32) (p2 : Int32) (y : RS) (w0 : Int32) : RS := if (y.1 23 p1.toNatClampNeg) = 0 then (fX11_stroke_J147 p1 p2 (sR y 27 p1.toNatClampNeg (w0))) else (fX11_stroke_J147 p1 p2 (sR (sR (sR y 27 p1.toNatClampNeg (w0)) 34 ((((900 : Int32) * p1) + ((y.1 0 45) - (y.1 0 45) / 900 * 900)).toNatClampNeg) ((y.1 34 ((((900 : Int32) * p1) + ((y.1 0 45) - (y.1 0 45) / 900 * 900)).toNatClampNeg)) + 1)) 37 p1.toNatClampNeg ((y.1 37 p1.toNatClampNeg) + 1)))
def fX11_stroke_J67 (p1 : Int32) (p2 : Int32) (y : RS) : RS := if (y.1 23 p1.toNatClampNeg) = 0 then (fX11_stroke_J104 p1 p2 (sR y 25 p1.toNatClampNeg ((y.1 25 p1.toNatClampNeg) + 6)) 0) else (fX11_stroke_J104 p1 p2 (sR y 25 p1.toNatClampNeg ((y.1 25 p1.toNatClampNeg) + 6)) ((y.1 27 p1.toNatClampNeg) + 1))
def fX11_stroke (p1 : Int32) (p2 : Int32) (x : RS) : RS := if p2 = 0 then (fX11_stroke_J67 p1 p2 (sR (sR (sR (sR x 18 p1.toNatClampNeg ((x.1 18 p1.toNatClampNeg) + 1)) 31 p1.toNatClampNeg ((x.1 31 p1.toNatClampNeg) + 1)) 35 p1.toNatClampNeg ((x.1 35 p1.toNatClampNeg) + 1)) 32 ((((3600 : Int32) * p1) + ((x.1 0 45) - (x.1 0 45) / 3600 * 3600)).toNatClampNeg) ((x.1 32 ((((3600 : Int32) * p1) + ((x.1 0 45) - (x.1 0 45) / 3600 * 3600)).toNatClampNeg)) + 1))) else (fX11_stroke_J67 p1 p2 (sR (sR (sR (sR (sR x 18 p1.toNatClampNeg ((x.1 18 p1.toNatClampNeg) + 1)) 31 p1.toNatClampNeg ((x.1 31 p1.toNatClampNeg) + 1)) 35 p1.toNatClampNeg ((x.1 35 p1.toNatClampNeg) + 1)) 32 ((((3600 : Int32) * p1) + ((x.1 0 45) - (x.1 0 45) / 3600 * 3600)).toNatClampNeg) ((x.1 32 ((((3600 : Int32) * p1) + ((x.1 0 45) - (x.1 0 45) / 3600 * 3600)).toNatClampNeg)) + 1)) 20 p1.toNatClampNeg ((x.1 20 p1.toNatClampNeg) - 1)))
set_option maxHeartbeats 4000000 in
set_option maxRecDepth 100000 in
theorem mX11_stroke (l : Launch) (E : eE) (rr : Nat) (x : RS) (p1 : Int32) (p2 : Int32) (hc : vp_in p1 3) (tg : Nat) (bg : Nat) (hok : okR tg bg x) : Met l yX11_stroke wsX11_stroke ({ frames := 3, cells := 0, slots := 0, locals := 69 }) (gPre E (rw_ E rr x) [.ref (rr + 0), .int (p1), .int (p2)]) (gQv E (rw_ E rr) (fX11_stroke p1 p2 x) (rA rr)) 0 0 (rA rr) := by
  refine Met.ofW (cc := cX11_stroke) (maxL := 4) (ret := none) (by decide) rfl ?_
  intro p e s m args below meth c s₁ B hml hv
  obtain ⟨rfl, hW, hK⟩ := hv
  have hx := B.exec
  have hb := B.bytes
  have hr := B.returns
  have hts := atoms_spec (ws := wsX11_stroke) B.pre
  have hown : s.vm.findClass RX11 = some m.cls := findClass_of_methodNamed B.named
  have hlocks := B.notSynchronized
  have i11 : ∀ w ∈ wsX110, w ∈ wsX11_stroke := by decide +kernel
  have kl56 := hts (.fieldLink RX11 56 "DosePumpModel" "rate" "[I") (by decide +kernel)
  have kl59 := hts (.fieldLink RX11 59 "DosePumpModel" "left" "[I") (by decide +kernel)
  have kl62 := hts (.fieldLink RX11 62 "DosePumpModel" "made" "[I") (by decide +kernel)
  have kl68 := hts (.fieldLink RX11 68 "DosePumpModel" "bolusLeft" "[I") (by decide +kernel)
  have kl77 := hts (.fieldLink RX11 77 "DosePumpModel" "air" "[Z") (by decide +kernel)
  have kl83 := hts (.fieldLink RX11 83 "DosePumpModel" "pressure" "[I") (by decide +kernel)
  have kl89 := hts (.fieldLink RX11 89 "DosePumpModel" "bubble" "[I") (by decide +kernel)
  have kl98 := hts (.fieldLink RX11 98 "DosePumpModel" "done" "[Z") (by decide +kernel)
  have kl101 := hts (.fieldLink RX11 101 "DosePumpModel" "all" "[I") (by decide +kernel)
  have kl104 := hts (.fieldLink RX11 104 "DosePumpModel" "strokes" "[I") (by decide +kernel)
  have kl110 := hts (.fieldLink RX11 110 "DosePumpModel" "airs" "[I") (by decide +kernel)
  have kl113 := hts (.fieldLink RX11 113 "DosePumpModel" "inHour" "[I") (by decide +kernel)
  have kl119 := hts (.fieldLink RX11 119 "DosePumpModel" "airsNow" "[I") (by decide +kernel)
  have kl167 := hts (.fieldLink RX11 167 "DosePumpModel" "time" "I") (by decide +kernel)
  have hS : va_S (rA rr) s.heap s.heap [] := va_S.rf
  have hl := lv_entry ([.ref (rr + 0), .int (p1), .int (p2)]) (n := 4) (Nat.le_of_ble_eq_true rfl)
  rw [lg_entry_eq]
  generalize (lg_sl ([.ref (rr + 0), .int (p1), .int (p2)]) ++ List.replicate (4 - (lg_sl ([.ref (rr + 0), .int (p1), .int (p2)])).length) Slot.unset).toArray = ls at hl ⊢
  have hl : lv_has ls 4 [(0, .ref (rr + 0)), (1, .int (p1)), (2, .int (p2))] := hl
  have J209 : ∀ (H : Heap) (locs : List Loc) (ls : Array Slot) (y : RS) (v3 : Int32), rw_ E rr y H → va_S (rA rr) s.heap H locs → lv_has ls 4 [(0, .ref (rr + 0)), (1, .int (p1)), (3, .int (v3))] → okR tg bg y → fX11_stroke p1 p2 x = fX11_stroke_J209 p1 p2 y v3 → W p l e (headSpec wsX11_stroke { frames := 3, cells := 0, slots := 0, locals := 69 }).room s m ([.ref (rr + 0), .int (p1), .int (p2)] : List Value).toArray below meth c H locs 0 0 (MQ below (gQv E (rw_ E rr) (fX11_stroke p1 p2 x) (rA rr)) ([.ref (rr + 0), .int (p1), .int (p2)] : List Value).toArray s 0 0 (rA rr)) (F0 m 209 ls []) := by
    intro H locs ls y v3 hW hS hl hok hf
    replace hf : fX11_stroke p1 p2 x = (if v3 = 0 then (y) else ((fX11_latch p1 5 (sR (sR (sR (sR y 30 p1.toNatClampNeg (1)) 17 p1.toNatClampNeg (-1)) 20 p1.toNatClampNeg (0)) 16 p1.toNatClampNeg ((fX11_least (y.1 16 p1.toNatClampNeg) 10 (sR (sR (sR y 30 p1.toNatClampNeg (1)) 17 p1.toNatClampNeg (-1)) 20 p1.toNatClampNeg (0)))))))) := hf
    refine lv_iload_n hx hb dX11_stroke_209 rfl (lv_at hl 2 rfl) ?_
    refine lv_if_ne (tgt := 214) hx hb dX11_stroke_210 (by decide) (fun c_210 => ?_) (fun c_210 => ?_)
    · have hf_210 := hf.trans (if_neg c_210)
      refine lv_aload_n hx hb dX11_stroke_214 rfl (lv_at hl 0 rfl) ?_
      refine fx_get (ci := 11) (v := .ref (rr + 30)) hx hb hts i11 hown hK (rwc_0 hW) rfl 30 (by decide) kl98 rfl dX11_stroke_215 ?_
      refine lv_iload_n hx hb dX11_stroke_218 rfl (lv_at hl 1 rfl) ?_
      refine lv_iconst (v := 1) hx hb dX11_stroke_219 (by decide) ?_
      refine fx_zst hx hb hK 1 (rwc_30 hW) (rA_o (o := 30) (by decide)) hS rfl (by decide) hc dX11_stroke_220 (fun H locs hat hne hS => ?_)
      have hW : rw_ E rr (sR y 30 p1.toNatClampNeg (1)) H := rws_30 (k := p1.toNatClampNeg) (v := 1) hW hat hne
      refine lv_aload_n hx hb dX11_stroke_221 rfl (lv_at hl 0 rfl) ?_
      refine fx_get (ci := 11) (v := .ref (rr + 17)) hx hb hts i11 hown hK (rwc_0 hW) rfl 17 (by decide) kl59 rfl dX11_stroke_222 ?_
      refine lv_iload_n hx hb dX11_stroke_225 rfl (lv_at hl 1 rfl) ?_
      refine lv_iconst (v := -1) hx hb dX11_stroke_226 (by decide) ?_
      refine fx_ist hx hb hK 0 (rwc_17 hW) (rA_o (o := 17) (by decide)) hS rfl hc dX11_stroke_227 (fun H locs hat hne hS => ?_)
      have hW : rw_ E rr (sR (sR y 30 p1.toNatClampNeg (1)) 17 p1.toNatClampNeg (-1)) H := rws_17 (k := p1.toNatClampNeg) (v := -1) hW hat hne
      refine lv_aload_n hx hb dX11_stroke_228 rfl (lv_at hl 0 rfl) ?_
      refine fx_get (ci := 11) (v := .ref (rr + 20)) hx hb hts i11 hown hK (rwc_0 hW) rfl 20 (by decide) kl68 rfl dX11_stroke_229 ?_
      refine lv_iload_n hx hb dX11_stroke_232 rfl (lv_at hl 1 rfl) ?_
      refine lv_iconst (v := 0) hx hb dX11_stroke_233 (by decide) ?_
      refine fx_ist hx hb hK 0 (rwc_20 hW) (rA_o (o := 20) (by decide)) hS rfl hc dX11_stroke_234 (fun H locs hat hne hS => ?_)
      have hW : rw_ E rr (sR (sR (sR y 30 p1.toNatClampNeg (1)) 17 p1.toNatClampNeg (-1)) 20 p1.toNatClampNeg (0)) H := rws_20 (k := p1.toNatClampNeg) (v := 0) hW hat hne
      refine lv_aload_n hx hb dX11_stroke_235 rfl (lv_at hl 0 rfl) ?_
      refine fx_get (ci := 11) (v := .ref (rr + 16)) hx hb hts i11 hown hK (rwc_0 hW) rfl 16 (by decide) kl56 rfl dX11_stroke_236 ?_
      refine lv_iload_n hx hb dX11_stroke_239 rfl (lv_at hl 1 rfl) ?_
      refine lv_aload_n hx hb dX11_stroke_240 rfl (lv_at hl 0 rfl) ?_
      refine fx_get (ci := 11) (v := .ref (rr + 16)) hx hb hts i11 hown hK (rwc_0 hW) rfl 16 (by decide) kl56 rfl dX11_stroke_241 ?_
      refine lv_iload_n hx hb dX11_stroke_244 rfl (lv_at hl 1 rfl) ?_
      refine fx_ild hx hb hK 0 (rwc_16 hW) rfl hc dX11_stroke_245 ?_
      refine lv_bipush (v := 10) hx hb dX11_stroke_246 (by decide) ?_
      refine gx_si (rest := [.int (p1), .ref (rr + 16)]) ⟨hx, hb, hml, hown, hts⟩ (mX11_least l E rr (sR (sR (sR y 30 p1.toNatClampNeg (1)) 17 p1.toNatClampNeg (-1)) 20 p1.toNatClampNeg (0)) (y.1 16 p1.toNatClampNeg) 10) (va_cwS 2 hts gX11_stroke_X11_least rfl rfl rfl (by decide +kernel) ⟨Nat.le_of_ble_eq_true rfl, Nat.le_of_ble_eq_true rfl⟩) hW hK rfl hl.1 rfl (Nat.le_of_ble_eq_true rfl) dX11_stroke_248 ⟨Nat.le_of_ble_eq_true rfl, Nat.le_of_ble_eq_true rfl⟩ hS (fun _ h => h) (fun _ r2 H locs _ e2 hW hS => ?_)
      have e2 : fX11_least (y.1 16 p1.toNatClampNeg) 10 (sR (sR (sR y 30 p1.toNatClampNeg (1)) 17 p1.toNatClampNeg (-1)) 20 p1.toNatClampNeg (0)) = r2 := e2
      try rw [e2] at hf_210
      refine fx_ist hx hb hK 0 (rwc_16 hW) (rA_o (o := 16) (by decide)) hS rfl hc dX11_stroke_251 (fun H locs hat hne hS => ?_)
      have hW : rw_ E rr (sR (sR (sR (sR y 30 p1.toNatClampNeg (1)) 17 p1.toNatClampNeg (-1)) 20 p1.toNatClampNeg (0)) 16 p1.toNatClampNeg (r2)) H := rws_16 (k := p1.toNatClampNeg) (v := r2) hW hat hne
      refine lv_aload_n hx hb dX11_stroke_252 rfl (lv_at hl 0 rfl) ?_
      refine lv_iload_n hx hb dX11_stroke_253 rfl (lv_at hl 1 rfl) ?_
      refine lv_iconst (v := 5) hx hb dX11_stroke_254 (by decide) ?_
      refine gx_v (rest := []) ⟨hx, hb, hml, hown, hts⟩ (mX11_latch l E rr (sR (sR (sR (sR y 30 p1.toNatClampNeg (1)) 17 p1.toNatClampNeg (-1)) 20 p1.toNatClampNeg (0)) 16 p1.toNatClampNeg (r2)) p1 5 hc (by unfold vp_in; decide) (fun h => absurd h (by decide)) _ _ hok) (cwV 2 hts gX11_stroke_X11_latch rfl rfl rfl (by decide +kernel) ⟨Nat.le_of_ble_eq_true rfl, Nat.le_of_ble_eq_true rfl⟩) hW hK (fx_recv hK (rwc_0 hW) rfl) rfl hl.1 rfl (Nat.le_of_ble_eq_true rfl) dX11_stroke_255 ⟨Nat.le_of_ble_eq_true rfl, Nat.le_of_ble_eq_true rfl⟩ hS (fun _ h => h) (fun u3 H locs e3 hW hS => ?_)
      have e3 : fX11_latch p1 5 (sR (sR (sR (sR y 30 p1.toNatClampNeg (1)) 17 p1.toNatClampNeg (-1)) 20 p1.toNatClampNeg (0)) 16 p1.toNatClampNeg (r2)) = u3 := e3
      try rw [e3] at hf_210
      have hk3 : okR tg bg u3 := e3 ▸ (okX11_latch hc (by unfold vp_in; decide) (fun h => absurd h (by decide)) hok)
      exact gx_vret hx hb hr hlocks hK hf_210 hW hS dX11_stroke_258
    · have hf_210 := hf.trans (if_pos c_210)
      exact gx_vret hx hb hr hlocks hK hf_210 hW hS dX11_stroke_213
  have J203 : ∀ (H : Heap) (locs : List Loc) (ls : Array Slot) (y : RS) (v3 : Int32), rw_ E rr y H → va_S (rA rr) s.heap H locs → lv_has ls 4 [(0, .ref (rr + 0)), (1, .int (p1)), (3, .int (v3))] → okR tg bg y → fX11_stroke p1 p2 x = fX11_stroke_J203 p1 p2 y v3 → W p l e (headSpec wsX11_stroke { frames := 3, cells := 0, slots := 0, locals := 69 }).room s m ([.ref (rr + 0), .int (p1), .int (p2)] : List Value).toArray below meth c H locs 0 0 (MQ below (gQv E (rw_ E rr) (fX11_stroke p1 p2 x) (rA rr)) ([.ref (rr + 0), .int (p1), .int (p2)] : List Value).toArray s 0 0 (rA rr)) (F0 m 203 ls []) := by
    intro H locs ls y v3 hW hS hl hok hf
    replace hf : fX11_stroke p1 p2 x = (fX11_stroke_J209 p1 p2 (fX11_latch p1 0 y) v3) := hf
    refine lv_aload_n hx hb dX11_stroke_203 rfl (lv_at hl 0 rfl) ?_
    refine lv_iload_n hx hb dX11_stroke_204 rfl (lv_at hl 1 rfl) ?_
    refine lv_iconst (v := 0) hx hb dX11_stroke_205 (by decide) ?_
    refine gx_v (rest := []) ⟨hx, hb, hml, hown, hts⟩ (mX11_latch l E rr y p1 0 hc (by unfold vp_in; decide) (fun h => absurd h (by decide)) _ _ hok) (cwV 2 hts gX11_stroke_X11_latch rfl rfl rfl (by decide +kernel) ⟨Nat.le_of_ble_eq_true rfl, Nat.le_of_ble_eq_true rfl⟩) hW hK (fx_recv hK (rwc_0 hW) rfl) rfl hl.1 rfl (Nat.le_of_ble_eq_true rfl) dX11_stroke_206 ⟨Nat.le_of_ble_eq_true rfl, Nat.le_of_ble_eq_true rfl⟩ hS (fun _ h => h) (fun u1 H locs e1 hW hS => ?_)
    have e1 : fX11_latch p1 0 y = u1 := e1
    try rw [e1] at hf
    have hk1 : okR tg bg u1 := e1 ▸ (okX11_latch hc (by unfold vp_in; decide) (fun h => absurd h (by decide)) hok)
    exact J209 _ _ _ u1 v3 hW hS (lv_sub hl [0, 1, 2] rfl) hk1 hf
  have J182 : ∀ (H : Heap) (locs : List Loc) (ls : Array Slot) (y : RS) (v3 : Int32), rw_ E rr y H → va_S (rA rr) s.heap H locs → lv_has ls 4 [(0, .ref (rr + 0)), (1, .int (p1)), (3, .int (v3))] → okR tg bg y → fX11_stroke p1 p2 x = fX11_stroke_J182 p1 p2 y v3 → W p l e (headSpec wsX11_stroke { frames := 3, cells := 0, slots := 0, locals := 69 }).room s m ([.ref (rr + 0), .int (p1), .int (p2)] : List Value).toArray below meth c H locs 0 0 (MQ below (gQv E (rw_ E rr) (fX11_stroke p1 p2 x) (rA rr)) ([.ref (rr + 0), .int (p1), .int (p2)] : List Value).toArray s 0 0 (rA rr)) (F0 m 182 ls []) := by
    intro H locs ls y v3 hW hS hl hok hf
    replace hf : fX11_stroke p1 p2 x = (if (5 : Int32) ≤ (y.1 27 p1.toNatClampNeg) then (fX11_stroke_J203 p1 p2 y v3) else (if (y.1 37 p1.toNatClampNeg) < 60 then (fX11_stroke_J209 p1 p2 y v3) else (fX11_stroke_J203 p1 p2 y v3))) := hf
    refine lv_aload_n hx hb dX11_stroke_182 rfl (lv_at hl 0 rfl) ?_
    refine fx_get (ci := 11) (v := .ref (rr + 27)) hx hb hts i11 hown hK (rwc_0 hW) rfl 27 (by decide) kl89 rfl dX11_stroke_183 ?_
    refine lv_iload_n hx hb dX11_stroke_186 rfl (lv_at hl 1 rfl) ?_
    refine fx_ild hx hb hK 0 (rwc_27 hW) rfl hc dX11_stroke_187 ?_
    refine lv_iconst (v := 5) hx hb dX11_stroke_188 (by decide) ?_
    refine lv_icmp_ge (tgt := 203) hx hb dX11_stroke_189 (by decide) (fun c_189 => ?_) (fun c_189 => ?_)
    · have hf_189 := hf.trans (if_pos c_189)
      exact J203 _ _ _ y v3 hW hS (lv_sub hl [0, 1, 2] rfl) hok hf_189
    · have hf_189 := hf.trans (if_neg c_189)
      refine lv_aload_n hx hb dX11_stroke_192 rfl (lv_at hl 0 rfl) ?_
      refine fx_get (ci := 11) (v := .ref (rr + 37)) hx hb hts i11 hown hK (rwc_0 hW) rfl 37 (by decide) kl119 rfl dX11_stroke_193 ?_
      refine lv_iload_n hx hb dX11_stroke_196 rfl (lv_at hl 1 rfl) ?_
      refine fx_ild hx hb hK 0 (rwc_37 hW) rfl hc dX11_stroke_197 ?_
      refine lv_bipush (v := 60) hx hb dX11_stroke_198 (by decide) ?_
      refine lv_icmp_lt (tgt := 209) hx hb dX11_stroke_200 (by decide) (fun c_200 => ?_) (fun c_200 => ?_)
      · have hf_200 := hf_189.trans (if_pos c_200)
        exact J209 _ _ _ y v3 hW hS (lv_sub hl [0, 1, 2] rfl) hok hf_200
      · have hf_200 := hf_189.trans (if_neg c_200)
        exact J203 _ _ _ y v3 hW hS (lv_sub hl [0, 1, 2] rfl) hok hf_200
  have J162 : ∀ (H : Heap) (locs : List Loc) (ls : Array Slot) (y : RS) (w0 : Int32), rw_ E rr y H → va_S (rA rr) s.heap H locs → lv_has ls 4 [(0, .ref (rr + 0)), (1, .int (p1))] → okR tg bg y → fX11_stroke p1 p2 x = fX11_stroke_J162 p1 p2 y w0 → W p l e (headSpec wsX11_stroke { frames := 3, cells := 0, slots := 0, locals := 69 }).room s m ([.ref (rr + 0), .int (p1), .int (p2)] : List Value).toArray below meth c H locs 0 0 (MQ below (gQv E (rw_ E rr) (fX11_stroke p1 p2 x) (rA rr)) ([.ref (rr + 0), .int (p1), .int (p2)] : List Value).toArray s 0 0 (rA rr)) (F0 m 162 ls [.int (w0)]) := by
    intro H locs ls y w0 hW hS hl hok hf
    replace hf : fX11_stroke p1 p2 x = (if (y.1 17 p1.toNatClampNeg) ≤ 0 then (fX11_stroke_J182 p1 p2 y w0) else (fX11_stroke_J182 p1 p2 (sR y 17 p1.toNatClampNeg ((y.1 17 p1.toNatClampNeg) - 1)) w0)) := hf
    refine lv_istore_n (lv' := [(3, .int (w0)), (0, .ref (rr + 0)), (1, .int (p1))]) hx hb dX11_stroke_162 rfl hl (by decide) rfl (fun ls hl => ?_)
    refine lv_aload_n hx hb dX11_stroke_163 rfl (lv_at hl 1 rfl) ?_
    refine fx_get (ci := 11) (v := .ref (rr + 17)) hx hb hts i11 hown hK (rwc_0 hW) rfl 17 (by decide) kl59 rfl dX11_stroke_164 ?_
    refine lv_iload_n hx hb dX11_stroke_167 rfl (lv_at hl 2 rfl) ?_
    refine fx_ild hx hb hK 0 (rwc_17 hW) rfl hc dX11_stroke_168 ?_
    refine lv_if_le (tgt := 182) hx hb dX11_stroke_169 (by decide) (fun c_169 => ?_) (fun c_169 => ?_)
    · have hf_169 := hf.trans (if_pos c_169)
      exact J182 _ _ _ y w0 hW hS (lv_sub hl [1, 2, 0] rfl) hok hf_169
    · have hf_169 := hf.trans (if_neg c_169)
      refine lv_aload_n hx hb dX11_stroke_172 rfl (lv_at hl 1 rfl) ?_
      refine fx_get (ci := 11) (v := .ref (rr + 17)) hx hb hts i11 hown hK (rwc_0 hW) rfl 17 (by decide) kl59 rfl dX11_stroke_173 ?_
      refine lv_iload_n hx hb dX11_stroke_176 rfl (lv_at hl 2 rfl) ?_
      refine lv_dup2_11 hx hb dX11_stroke_177 rfl rfl ?_
      refine fx_ild hx hb hK 0 (rwc_17 hW) rfl hc dX11_stroke_178 ?_
      refine lv_iconst (v := 1) hx hb dX11_stroke_179 (by decide) ?_
      refine lv_isub hx hb dX11_stroke_180 ?_
      refine fx_ist hx hb hK 0 (rwc_17 hW) (rA_o (o := 17) (by decide)) hS rfl hc dX11_stroke_181 (fun H locs hat hne hS => ?_)
      have hW : rw_ E rr (sR y 17 p1.toNatClampNeg ((y.1 17 p1.toNatClampNeg) - 1)) H := rws_17 (k := p1.toNatClampNeg) (v := (y.1 17 p1.toNatClampNeg) - 1) hW hat hne
      exact J182 _ _ _ (sR y 17 p1.toNatClampNeg ((y.1 17 p1.toNatClampNeg) - 1)) w0 hW hS (lv_sub hl [1, 2, 0] rfl) hok hf_169
  have J147 : ∀ (H : Heap) (locs : List Loc) (ls : Array Slot) (y : RS), rw_ E rr y H → va_S (rA rr) s.heap H locs → lv_has ls 4 [(0, .ref (rr + 0)), (1, .int (p1))] → okR tg bg y → fX11_stroke p1 p2 x = fX11_stroke_J147 p1 p2 y → W p l e (headSpec wsX11_stroke { frames := 3, cells := 0, slots := 0, locals := 69 }).room s m ([.ref (rr + 0), .int (p1), .int (p2)] : List Value).toArray below meth c H locs 0 0 (MQ below (gQv E (rw_ E rr) (fX11_stroke p1 p2 x) (rA rr)) ([.ref (rr + 0), .int (p1), .int (p2)] : List Value).toArray s 0 0 (rA rr)) (F0 m 147 ls []) := by
    intro H locs ls y hW hS hl hok hf
    replace hf : fX11_stroke p1 p2 x = (if (y.1 17 p1.toNatClampNeg) = 1 then (fX11_stroke_J162 p1 p2 y 1) else (fX11_stroke_J162 p1 p2 y 0)) := hf
    refine lv_aload_n hx hb dX11_stroke_147 rfl (lv_at hl 0 rfl) ?_
    refine fx_get (ci := 11) (v := .ref (rr + 17)) hx hb hts i11 hown hK (rwc_0 hW) rfl 17 (by decide) kl59 rfl dX11_stroke_148 ?_
    refine lv_iload_n hx hb dX11_stroke_151 rfl (lv_at hl 1 rfl) ?_
    refine fx_ild hx hb hK 0 (rwc_17 hW) rfl hc dX11_stroke_152 ?_
    refine lv_iconst (v := 1) hx hb dX11_stroke_153 (by decide) ?_
    refine lv_icmp_ne (tgt := 161) hx hb dX11_stroke_154 (by decide) (fun c_154 => ?_) (fun c_154 => ?_)
    · have hf_154 := hf.trans (if_neg c_154)
      refine lv_iconst (v := 0) hx hb dX11_stroke_161 (by decide) ?_
      exact J162 _ _ _ y 0 hW hS (lv_sub hl [0, 1] rfl) hok hf_154
    · have hf_154 := hf.trans (if_pos c_154)
      refine lv_iconst (v := 1) hx hb dX11_stroke_157 (by decide) ?_
      refine lv_goto (tgt := 162) hx hb dX11_stroke_158 (by decide) ?_
      exact J162 _ _ _ y 1 hW hS (lv_sub hl [0, 1] rfl) hok hf_154
  have J104 : ∀ (H : Heap) (locs : List Loc) (ls : Array Slot) (y : RS) (w0 : Int32), rw_ E rr y H → va_S (rA rr) s.heap H locs → lv_has ls 4 [(0, .ref (rr + 0)), (1, .int (p1))] → okR tg bg y → fX11_stroke p1 p2 x = fX11_stroke_J104 p1 p2 y w0 → W p l e (headSpec wsX11_stroke { frames := 3, cells := 0, slots := 0, locals := 69 }).room s m ([.ref (rr + 0), .int (p1), .int (p2)] : List Value).toArray below meth c H locs 0 0 (MQ below (gQv E (rw_ E rr) (fX11_stroke p1 p2 x) (rA rr)) ([.ref (rr + 0), .int (p1), .int (p2)] : List Value).toArray s 0 0 (rA rr)) (F0 m 104 ls [.int (w0), .int (p1), .ref (rr + 27)]) := by
    intro H locs ls y w0 hW hS hl hok hf
    replace hf : fX11_stroke p1 p2 x = (if (y.1 23 p1.toNatClampNeg) = 0 then (fX11_stroke_J147 p1 p2 (sR y 27 p1.toNatClampNeg (w0))) else (fX11_stroke_J147 p1 p2 (sR (sR (sR y 27 p1.toNatClampNeg (w0)) 34 ((((900 : Int32) * p1) + ((y.1 0 45) - (y.1 0 45) / 900 * 900)).toNatClampNeg) ((y.1 34 ((((900 : Int32) * p1) + ((y.1 0 45) - (y.1 0 45) / 900 * 900)).toNatClampNeg)) + 1)) 37 p1.toNatClampNeg ((y.1 37 p1.toNatClampNeg) + 1)))) := hf
    refine fx_ist hx hb hK 0 (rwc_27 hW) (rA_o (o := 27) (by decide)) hS rfl hc dX11_stroke_104 (fun H locs hat hne hS => ?_)
    have hW : rw_ E rr (sR y 27 p1.toNatClampNeg (w0)) H := rws_27 (k := p1.toNatClampNeg) (v := w0) hW hat hne
    refine lv_aload_n hx hb dX11_stroke_105 rfl (lv_at hl 0 rfl) ?_
    refine fx_get (ci := 11) (v := .ref (rr + 23)) hx hb hts i11 hown hK (rwc_0 hW) rfl 23 (by decide) kl77 rfl dX11_stroke_106 ?_
    refine lv_iload_n hx hb dX11_stroke_109 rfl (lv_at hl 1 rfl) ?_
    refine fx_zld hx hb hK 1 (rwc_23 hW) rfl hc dX11_stroke_110 ?_
    refine lv_if_eq (tgt := 147) hx hb dX11_stroke_111 (by decide) (fun c_111 => ?_) (fun c_111 => ?_)
    · have hf_111 := hf.trans (if_pos c_111)
      exact J147 _ _ _ (sR y 27 p1.toNatClampNeg (w0)) hW hS (lv_sub hl [0, 1] rfl) hok hf_111
    · have hf_111 := hf.trans (if_neg c_111)
      refine lv_aload_n hx hb dX11_stroke_114 rfl (lv_at hl 0 rfl) ?_
      refine fx_get (ci := 11) (v := .ref (rr + 34)) hx hb hts i11 hown hK (rwc_0 hW) rfl 34 (by decide) kl110 rfl dX11_stroke_115 ?_
      refine lv_sipush (v := 900) hx hb dX11_stroke_118 (by decide) ?_
      refine lv_iload_n hx hb dX11_stroke_121 rfl (lv_at hl 1 rfl) ?_
      refine lv_imul hx hb dX11_stroke_122 ?_
      refine lv_aload_n hx hb dX11_stroke_123 rfl (lv_at hl 0 rfl) ?_
      refine fx_get (ci := 11) (v := .int (y.1 0 45)) hx hb hts i11 hown hK (rwc_0 hW) rfl 45 (by decide) kl167 rfl dX11_stroke_124 ?_
      refine lv_sipush (v := 900) hx hb dX11_stroke_127 (by decide) ?_
      refine lv_irem hx hb dX11_stroke_130 (by decide) ?_
      refine lv_iadd hx hb dX11_stroke_131 ?_
      refine lv_dup2_11 hx hb dX11_stroke_132 rfl rfl ?_
      refine fx_ild hx hb hK 0 (rwc_34 hW) rfl (vi_ar hc hok.1.1) dX11_stroke_133 ?_
      refine lv_iconst (v := 1) hx hb dX11_stroke_134 (by decide) ?_
      refine lv_iadd hx hb dX11_stroke_135 ?_
      refine fx_ist hx hb hK 0 (rwc_34 hW) (rA_o (o := 34) (by decide)) hS rfl (vi_ar hc hok.1.1) dX11_stroke_136 (fun H locs hat hne hS => ?_)
      have hW : rw_ E rr (sR (sR y 27 p1.toNatClampNeg (w0)) 34 ((((900 : Int32) * p1) + ((y.1 0 45) - (y.1 0 45) / 900 * 900)).toNatClampNeg) ((y.1 34 ((((900 : Int32) * p1) + ((y.1 0 45) - (y.1 0 45) / 900 * 900)).toNatClampNeg)) + 1)) H := rws_34 (k := ((((900 : Int32) * p1) + ((y.1 0 45) - (y.1 0 45) / 900 * 900)).toNatClampNeg)) (v := (y.1 34 ((((900 : Int32) * p1) + ((y.1 0 45) - (y.1 0 45) / 900 * 900)).toNatClampNeg)) + 1) hW hat hne
      refine lv_aload_n hx hb dX11_stroke_137 rfl (lv_at hl 0 rfl) ?_
      refine fx_get (ci := 11) (v := .ref (rr + 37)) hx hb hts i11 hown hK (rwc_0 hW) rfl 37 (by decide) kl119 rfl dX11_stroke_138 ?_
      refine lv_iload_n hx hb dX11_stroke_141 rfl (lv_at hl 1 rfl) ?_
      refine lv_dup2_11 hx hb dX11_stroke_142 rfl rfl ?_
      refine fx_ild hx hb hK 0 (rwc_37 hW) rfl hc dX11_stroke_143 ?_
      refine lv_iconst (v := 1) hx hb dX11_stroke_144 (by decide) ?_
      refine lv_iadd hx hb dX11_stroke_145 ?_
      refine fx_ist hx hb hK 0 (rwc_37 hW) (rA_o (o := 37) (by decide)) hS rfl hc dX11_stroke_146 (fun H locs hat hne hS => ?_)
      have hW : rw_ E rr (sR (sR (sR y 27 p1.toNatClampNeg (w0)) 34 ((((900 : Int32) * p1) + ((y.1 0 45) - (y.1 0 45) / 900 * 900)).toNatClampNeg) ((y.1 34 ((((900 : Int32) * p1) + ((y.1 0 45) - (y.1 0 45) / 900 * 900)).toNatClampNeg)) + 1)) 37 p1.toNatClampNeg ((y.1 37 p1.toNatClampNeg) + 1)) H := rws_37 (k := p1.toNatClampNeg) (v := (y.1 37 p1.toNatClampNeg) + 1) hW hat hne
      exact J147 _ _ _ (sR (sR (sR y 27 p1.toNatClampNeg (w0)) 34 ((((900 : Int32) * p1) + ((y.1 0 45) - (y.1 0 45) / 900 * 900)).toNatClampNeg) ((y.1 34 ((((900 : Int32) * p1) + ((y.1 0 45) - (y.1 0 45) / 900 * 900)).toNatClampNeg)) + 1)) 37 p1.toNatClampNeg ((y.1 37 p1.toNatClampNeg) + 1)) hW hS (lv_sub hl [0, 1] rfl) hok hf_111
  have J67 : ∀ (H : Heap) (locs : List Loc) (ls : Array Slot) (y : RS), rw_ E rr y H → va_S (rA rr) s.heap H locs → lv_has ls 4 [(0, .ref (rr + 0)), (1, .int (p1))] → okR tg bg y → fX11_stroke p1 p2 x = fX11_stroke_J67 p1 p2 y → W p l e (headSpec wsX11_stroke { frames := 3, cells := 0, slots := 0, locals := 69 }).room s m ([.ref (rr + 0), .int (p1), .int (p2)] : List Value).toArray below meth c H locs 0 0 (MQ below (gQv E (rw_ E rr) (fX11_stroke p1 p2 x) (rA rr)) ([.ref (rr + 0), .int (p1), .int (p2)] : List Value).toArray s 0 0 (rA rr)) (F0 m 67 ls []) := by
    intro H locs ls y hW hS hl hok hf
    replace hf : fX11_stroke p1 p2 x = (if (y.1 23 p1.toNatClampNeg) = 0 then (fX11_stroke_J104 p1 p2 (sR y 25 p1.toNatClampNeg ((y.1 25 p1.toNatClampNeg) + 6)) 0) else (fX11_stroke_J104 p1 p2 (sR y 25 p1.toNatClampNeg ((y.1 25 p1.toNatClampNeg) + 6)) ((y.1 27 p1.toNatClampNeg) + 1))) := hf
    refine lv_aload_n hx hb dX11_stroke_67 rfl (lv_at hl 0 rfl) ?_
    refine fx_get (ci := 11) (v := .ref (rr + 25)) hx hb hts i11 hown hK (rwc_0 hW) rfl 25 (by decide) kl83 rfl dX11_stroke_68 ?_
    refine lv_iload_n hx hb dX11_stroke_71 rfl (lv_at hl 1 rfl) ?_
    refine lv_dup2_11 hx hb dX11_stroke_72 rfl rfl ?_
    refine fx_ild hx hb hK 0 (rwc_25 hW) rfl hc dX11_stroke_73 ?_
    refine lv_bipush (v := 6) hx hb dX11_stroke_74 (by decide) ?_
    refine lv_iadd hx hb dX11_stroke_76 ?_
    refine fx_ist hx hb hK 0 (rwc_25 hW) (rA_o (o := 25) (by decide)) hS rfl hc dX11_stroke_77 (fun H locs hat hne hS => ?_)
    have hW : rw_ E rr (sR y 25 p1.toNatClampNeg ((y.1 25 p1.toNatClampNeg) + 6)) H := rws_25 (k := p1.toNatClampNeg) (v := (y.1 25 p1.toNatClampNeg) + 6) hW hat hne
    refine lv_aload_n hx hb dX11_stroke_78 rfl (lv_at hl 0 rfl) ?_
    refine fx_get (ci := 11) (v := .ref (rr + 27)) hx hb hts i11 hown hK (rwc_0 hW) rfl 27 (by decide) kl89 rfl dX11_stroke_79 ?_
    refine lv_iload_n hx hb dX11_stroke_82 rfl (lv_at hl 1 rfl) ?_
    refine lv_aload_n hx hb dX11_stroke_83 rfl (lv_at hl 0 rfl) ?_
    refine fx_get (ci := 11) (v := .ref (rr + 23)) hx hb hts i11 hown hK (rwc_0 hW) rfl 23 (by decide) kl77 rfl dX11_stroke_84 ?_
    refine lv_iload_n hx hb dX11_stroke_87 rfl (lv_at hl 1 rfl) ?_
    refine fx_zld hx hb hK 1 (rwc_23 hW) rfl hc dX11_stroke_88 ?_
    refine lv_if_eq (tgt := 103) hx hb dX11_stroke_89 (by decide) (fun c_89 => ?_) (fun c_89 => ?_)
    · have hf_89 := hf.trans (if_pos c_89)
      refine lv_iconst (v := 0) hx hb dX11_stroke_103 (by decide) ?_
      exact J104 _ _ _ (sR y 25 p1.toNatClampNeg ((y.1 25 p1.toNatClampNeg) + 6)) 0 hW hS (lv_sub hl [0, 1] rfl) hok hf_89
    · have hf_89 := hf.trans (if_neg c_89)
      refine lv_aload_n hx hb dX11_stroke_92 rfl (lv_at hl 0 rfl) ?_
      refine fx_get (ci := 11) (v := .ref (rr + 27)) hx hb hts i11 hown hK (rwc_0 hW) rfl 27 (by decide) kl89 rfl dX11_stroke_93 ?_
      refine lv_iload_n hx hb dX11_stroke_96 rfl (lv_at hl 1 rfl) ?_
      refine fx_ild hx hb hK 0 (rwc_27 hW) rfl hc dX11_stroke_97 ?_
      refine lv_iconst (v := 1) hx hb dX11_stroke_98 (by decide) ?_
      refine lv_iadd hx hb dX11_stroke_99 ?_
      refine lv_goto (tgt := 104) hx hb dX11_stroke_100 (by decide) ?_
      exact J104 _ _ _ (sR y 25 p1.toNatClampNeg ((y.1 25 p1.toNatClampNeg) + 6)) ((y.1 27 p1.toNatClampNeg) + 1) hW hS (lv_sub hl [0, 1] rfl) hok hf_89
  have hf : fX11_stroke p1 p2 x = (if p2 = 0 then (fX11_stroke_J67 p1 p2 (sR (sR (sR (sR x 18 p1.toNatClampNeg ((x.1 18 p1.toNatClampNeg) + 1)) 31 p1.toNatClampNeg ((x.1 31 p1.toNatClampNeg) + 1)) 35 p1.toNatClampNeg ((x.1 35 p1.toNatClampNeg) + 1)) 32 ((((3600 : Int32) * p1) + ((x.1 0 45) - (x.1 0 45) / 3600 * 3600)).toNatClampNeg) ((x.1 32 ((((3600 : Int32) * p1) + ((x.1 0 45) - (x.1 0 45) / 3600 * 3600)).toNatClampNeg)) + 1))) else (fX11_stroke_J67 p1 p2 (sR (sR (sR (sR (sR x 18 p1.toNatClampNeg ((x.1 18 p1.toNatClampNeg) + 1)) 31 p1.toNatClampNeg ((x.1 31 p1.toNatClampNeg) + 1)) 35 p1.toNatClampNeg ((x.1 35 p1.toNatClampNeg) + 1)) 32 ((((3600 : Int32) * p1) + ((x.1 0 45) - (x.1 0 45) / 3600 * 3600)).toNatClampNeg) ((x.1 32 ((((3600 : Int32) * p1) + ((x.1 0 45) - (x.1 0 45) / 3600 * 3600)).toNatClampNeg)) + 1)) 20 p1.toNatClampNeg ((x.1 20 p1.toNatClampNeg) - 1)))) := rfl
  refine lv_aload_n hx hb dX11_stroke_0 rfl (lv_at hl 0 rfl) ?_
  refine fx_get (ci := 11) (v := .ref (rr + 18)) hx hb hts i11 hown hK (rwc_0 hW) rfl 18 (by decide) kl62 rfl dX11_stroke_1 ?_
  refine lv_iload_n hx hb dX11_stroke_4 rfl (lv_at hl 1 rfl) ?_
  refine lv_dup2_11 hx hb dX11_stroke_5 rfl rfl ?_
  refine fx_ild hx hb hK 0 (rwc_18 hW) rfl hc dX11_stroke_6 ?_
  refine lv_iconst (v := 1) hx hb dX11_stroke_7 (by decide) ?_
  refine lv_iadd hx hb dX11_stroke_8 ?_
  refine fx_ist hx hb hK 0 (rwc_18 hW) (rA_o (o := 18) (by decide)) hS rfl hc dX11_stroke_9 (fun H locs hat hne hS => ?_)
  have hW : rw_ E rr (sR x 18 p1.toNatClampNeg ((x.1 18 p1.toNatClampNeg) + 1)) H := rws_18 (k := p1.toNatClampNeg) (v := (x.1 18 p1.toNatClampNeg) + 1) hW hat hne
  refine lv_aload_n hx hb dX11_stroke_10 rfl (lv_at hl 0 rfl) ?_
  refine fx_get (ci := 11) (v := .ref (rr + 31)) hx hb hts i11 hown hK (rwc_0 hW) rfl 31 (by decide) kl101 rfl dX11_stroke_11 ?_
  refine lv_iload_n hx hb dX11_stroke_14 rfl (lv_at hl 1 rfl) ?_
  refine lv_dup2_11 hx hb dX11_stroke_15 rfl rfl ?_
  refine fx_ild hx hb hK 0 (rwc_31 hW) rfl hc dX11_stroke_16 ?_
  refine lv_iconst (v := 1) hx hb dX11_stroke_17 (by decide) ?_
  refine lv_iadd hx hb dX11_stroke_18 ?_
  refine fx_ist hx hb hK 0 (rwc_31 hW) (rA_o (o := 31) (by decide)) hS rfl hc dX11_stroke_19 (fun H locs hat hne hS => ?_)
  have hW : rw_ E rr (sR (sR x 18 p1.toNatClampNeg ((x.1 18 p1.toNatClampNeg) + 1)) 31 p1.toNatClampNeg ((x.1 31 p1.toNatClampNeg) + 1)) H := rws_31 (k := p1.toNatClampNeg) (v := (x.1 31 p1.toNatClampNeg) + 1) hW hat hne
  refine lv_aload_n hx hb dX11_stroke_20 rfl (lv_at hl 0 rfl) ?_
  refine fx_get (ci := 11) (v := .ref (rr + 35)) hx hb hts i11 hown hK (rwc_0 hW) rfl 35 (by decide) kl113 rfl dX11_stroke_21 ?_
  refine lv_iload_n hx hb dX11_stroke_24 rfl (lv_at hl 1 rfl) ?_
  refine lv_dup2_11 hx hb dX11_stroke_25 rfl rfl ?_
  refine fx_ild hx hb hK 0 (rwc_35 hW) rfl hc dX11_stroke_26 ?_
  refine lv_iconst (v := 1) hx hb dX11_stroke_27 (by decide) ?_
  refine lv_iadd hx hb dX11_stroke_28 ?_
  refine fx_ist hx hb hK 0 (rwc_35 hW) (rA_o (o := 35) (by decide)) hS rfl hc dX11_stroke_29 (fun H locs hat hne hS => ?_)
  have hW : rw_ E rr (sR (sR (sR x 18 p1.toNatClampNeg ((x.1 18 p1.toNatClampNeg) + 1)) 31 p1.toNatClampNeg ((x.1 31 p1.toNatClampNeg) + 1)) 35 p1.toNatClampNeg ((x.1 35 p1.toNatClampNeg) + 1)) H := rws_35 (k := p1.toNatClampNeg) (v := (x.1 35 p1.toNatClampNeg) + 1) hW hat hne
  refine lv_aload_n hx hb dX11_stroke_30 rfl (lv_at hl 0 rfl) ?_
  refine fx_get (ci := 11) (v := .ref (rr + 32)) hx hb hts i11 hown hK (rwc_0 hW) rfl 32 (by decide) kl104 rfl dX11_stroke_31 ?_
  refine lv_sipush (v := 3600) hx hb dX11_stroke_34 (by decide) ?_
  refine lv_iload_n hx hb dX11_stroke_37 rfl (lv_at hl 1 rfl) ?_
  refine lv_imul hx hb dX11_stroke_38 ?_
  refine lv_aload_n hx hb dX11_stroke_39 rfl (lv_at hl 0 rfl) ?_
  refine fx_get (ci := 11) (v := .int (x.1 0 45)) hx hb hts i11 hown hK (rwc_0 hW) rfl 45 (by decide) kl167 rfl dX11_stroke_40 ?_
  refine lv_sipush (v := 3600) hx hb dX11_stroke_43 (by decide) ?_
  refine lv_irem hx hb dX11_stroke_46 (by decide) ?_
  refine lv_iadd hx hb dX11_stroke_47 ?_
  refine lv_dup2_11 hx hb dX11_stroke_48 rfl rfl ?_
  refine fx_ild hx hb hK 0 (rwc_32 hW) rfl (vi_hr hc hok.1.1) dX11_stroke_49 ?_
  refine lv_iconst (v := 1) hx hb dX11_stroke_50 (by decide) ?_
  refine lv_iadd hx hb dX11_stroke_51 ?_
  refine fx_ist hx hb hK 0 (rwc_32 hW) (rA_o (o := 32) (by decide)) hS rfl (vi_hr hc hok.1.1) dX11_stroke_52 (fun H locs hat hne hS => ?_)
  have hW : rw_ E rr (sR (sR (sR (sR x 18 p1.toNatClampNeg ((x.1 18 p1.toNatClampNeg) + 1)) 31 p1.toNatClampNeg ((x.1 31 p1.toNatClampNeg) + 1)) 35 p1.toNatClampNeg ((x.1 35 p1.toNatClampNeg) + 1)) 32 ((((3600 : Int32) * p1) + ((x.1 0 45) - (x.1 0 45) / 3600 * 3600)).toNatClampNeg) ((x.1 32 ((((3600 : Int32) * p1) + ((x.1 0 45) - (x.1 0 45) / 3600 * 3600)).toNatClampNeg)) + 1)) H := rws_32 (k := ((((3600 : Int32) * p1) + ((x.1 0 45) - (x.1 0 45) / 3600 * 3600)).toNatClampNeg)) (v := (x.1 32 ((((3600 : Int32) * p1) + ((x.1 0 45) - (x.1 0 45) / 3600 * 3600)).toNatClampNeg)) + 1) hW hat hne
  refine lv_iload_n hx hb dX11_stroke_53 rfl (lv_at hl 2 rfl) ?_
  refine lv_if_eq (tgt := 67) hx hb dX11_stroke_54 (by decide) (fun c_54 => ?_) (fun c_54 => ?_)
  · have hf_54 := hf.trans (if_pos c_54)
    exact J67 _ _ _ (sR (sR (sR (sR x 18 p1.toNatClampNeg ((x.1 18 p1.toNatClampNeg) + 1)) 31 p1.toNatClampNeg ((x.1 31 p1.toNatClampNeg) + 1)) 35 p1.toNatClampNeg ((x.1 35 p1.toNatClampNeg) + 1)) 32 ((((3600 : Int32) * p1) + ((x.1 0 45) - (x.1 0 45) / 3600 * 3600)).toNatClampNeg) ((x.1 32 ((((3600 : Int32) * p1) + ((x.1 0 45) - (x.1 0 45) / 3600 * 3600)).toNatClampNeg)) + 1)) hW hS (lv_sub hl [0, 1] rfl) hok hf_54
  · have hf_54 := hf.trans (if_neg c_54)
    refine lv_aload_n hx hb dX11_stroke_57 rfl (lv_at hl 0 rfl) ?_
    refine fx_get (ci := 11) (v := .ref (rr + 20)) hx hb hts i11 hown hK (rwc_0 hW) rfl 20 (by decide) kl68 rfl dX11_stroke_58 ?_
    refine lv_iload_n hx hb dX11_stroke_61 rfl (lv_at hl 1 rfl) ?_
    refine lv_dup2_11 hx hb dX11_stroke_62 rfl rfl ?_
    refine fx_ild hx hb hK 0 (rwc_20 hW) rfl hc dX11_stroke_63 ?_
    refine lv_iconst (v := 1) hx hb dX11_stroke_64 (by decide) ?_
    refine lv_isub hx hb dX11_stroke_65 ?_
    refine fx_ist hx hb hK 0 (rwc_20 hW) (rA_o (o := 20) (by decide)) hS rfl hc dX11_stroke_66 (fun H locs hat hne hS => ?_)
    have hW : rw_ E rr (sR (sR (sR (sR (sR x 18 p1.toNatClampNeg ((x.1 18 p1.toNatClampNeg) + 1)) 31 p1.toNatClampNeg ((x.1 31 p1.toNatClampNeg) + 1)) 35 p1.toNatClampNeg ((x.1 35 p1.toNatClampNeg) + 1)) 32 ((((3600 : Int32) * p1) + ((x.1 0 45) - (x.1 0 45) / 3600 * 3600)).toNatClampNeg) ((x.1 32 ((((3600 : Int32) * p1) + ((x.1 0 45) - (x.1 0 45) / 3600 * 3600)).toNatClampNeg)) + 1)) 20 p1.toNatClampNeg ((x.1 20 p1.toNatClampNeg) - 1)) H := rws_20 (k := p1.toNatClampNeg) (v := (x.1 20 p1.toNatClampNeg) - 1) hW hat hne
    exact J67 _ _ _ (sR (sR (sR (sR (sR x 18 p1.toNatClampNeg ((x.1 18 p1.toNatClampNeg) + 1)) 31 p1.toNatClampNeg ((x.1 31 p1.toNatClampNeg) + 1)) 35 p1.toNatClampNeg ((x.1 35 p1.toNatClampNeg) + 1)) 32 ((((3600 : Int32) * p1) + ((x.1 0 45) - (x.1 0 45) / 3600 * 3600)).toNatClampNeg) ((x.1 32 ((((3600 : Int32) * p1) + ((x.1 0 45) - (x.1 0 45) / 3600 * 3600)).toNatClampNeg)) + 1)) 20 p1.toNatClampNeg ((x.1 20 p1.toNatClampNeg) - 1)) hW hS (lv_sub hl [0, 1] rfl) hok hf_54
theorem okX11_stroke_J209 {tg bg : Nat} {p1 : Int32} {p2 : Int32} {y : RS} {v3 : Int32} (hc : vp_in p1 3) (hok : okR tg bg y) : okR tg bg (fX11_stroke_J209 p1 p2 y v3) := by unfold fX11_stroke_J209; exact (okR_ite (fun c_210 => hok) (fun c_210 => (okX11_latch hc (by unfold vp_in; decide) (fun h => absurd h (by decide)) (okR_sR rfl (okR_sR rfl (okR_sR rfl (okR_sR rfl hok)))))))
theorem okX11_stroke_J203 {tg bg : Nat} {p1 : Int32} {p2 : Int32} {y : RS} {v3 : Int32} (hc : vp_in p1 3) (hok : okR tg bg y) : okR tg bg (fX11_stroke_J203 p1 p2 y v3) := by unfold fX11_stroke_J203; exact (okX11_stroke_J209 hc (okX11_latch hc (by unfold vp_in; decide) (fun h => absurd h (by decide)) hok))
theorem okX11_stroke_J182 {tg bg : Nat} {p1 : Int32} {p2 : Int32} {y : RS} {v3 : Int32} (hc : vp_in p1 3) (hok : okR tg bg y) : okR tg bg (fX11_stroke_J182 p1 p2 y v3) := by unfold fX11_stroke_J182; exact (okR_ite (fun c_189 => (okX11_stroke_J203 hc hok)) (fun c_189 => (okR_ite (fun c_200 => (okX11_stroke_J209 hc hok)) (fun c_200 => (okX11_stroke_J203 hc hok)))))
theorem okX11_stroke_J162 {tg bg : Nat} {p1 : Int32} {p2 : Int32} {y : RS} {w0 : Int32} (hc : vp_in p1 3) (hok : okR tg bg y) : okR tg bg (fX11_stroke_J162 p1 p2 y w0) := by unfold fX11_stroke_J162; exact (okR_ite (fun c_169 => (okX11_stroke_J182 hc hok)) (fun c_169 => (okX11_stroke_J182 hc (okR_sR rfl hok))))
theorem okX11_stroke_J147 {tg bg : Nat} {p1 : Int32} {p2 : Int32} {y : RS} (hc : vp_in p1 3) (hok : okR tg bg y) : okR tg bg (fX11_stroke_J147 p1 p2 y) := by unfold fX11_stroke_J147; exact (okR_ite (fun c_154 => (okX11_stroke_J162 hc hok)) (fun c_154 => (okX11_stroke_J162 hc hok)))
theorem okX11_stroke_J104 {tg bg : Nat} {p1 : Int32} {p2 : Int32} {y : RS} {w0 : Int32} (hc : vp_in p1 3) (hok : okR tg bg y) : okR tg bg (fX11_stroke_J104 p1 p2 y w0) := by unfold fX11_stroke_J104; exact (okR_ite (fun c_111 => (okX11_stroke_J147 hc (okR_sR rfl hok))) (fun c_111 => (okX11_stroke_J147 hc (okR_sR rfl (okR_sR rfl (okR_sR rfl hok))))))
theorem okX11_stroke_J67 {tg bg : Nat} {p1 : Int32} {p2 : Int32} {y : RS} (hc : vp_in p1 3) (hok : okR tg bg y) : okR tg bg (fX11_stroke_J67 p1 p2 y) := by unfold fX11_stroke_J67; exact (okR_ite (fun c_89 => (okX11_stroke_J104 hc (okR_sR rfl hok))) (fun c_89 => (okX11_stroke_J104 hc (okR_sR rfl hok))))
theorem okX11_stroke {tg bg : Nat} {p1 : Int32} {p2 : Int32} {x : RS} (hc : vp_in p1 3) (hok : okR tg bg x) : okR tg bg (fX11_stroke p1 p2 x) := by unfold fX11_stroke; exact (okR_ite (fun c_54 => (okX11_stroke_J67 hc (okR_sR rfl (okR_sR rfl (okR_sR rfl (okR_sR rfl hok)))))) (fun c_54 => (okX11_stroke_J67 hc (okR_sR rfl (okR_sR rfl (okR_sR rfl (okR_sR rfl (okR_sR rfl hok))))))))

def fX11_deliver_L78 (p1 : Int32) : Nat → RS → Int32 → Int32 → Int32 → Int32 → RS × Int32
  | 0, y, v2, v3, v4, v5 => (y, 0)
  | k9 + 1, y, v2, v3, v4, v5 => if (v2 + v3) ≤ v5 then ((y, v4)) else (if (y.1 13 p1.toNatClampNeg) = 7 then (if (y.1 30 p1.toNatClampNeg) = 0 then (if (y.1 35 p1.toNatClampNeg) < (y.1 8 ((y.1 15 p1.toNatClampNeg).toNatClampNeg)) then (if v5 < v2 then (fX11_deliver_L78 p1 k9 (fX11_stroke p1 0 y) v2 v3 (v4 + 1) (v5 + 1)) else (fX11_deliver_L78 p1 k9 (fX11_stroke p1 1 y) v2 v3 (v4 + 1) (v5 + 1))) else (fX11_deliver_L78 p1 k9 (fX11_latch p1 4 y) v2 v3 v4 (v5 + 1))) else ((y, v4))) else ((y, v4)))
def fX11_deliver_J68 (p1 : Int32) (y : RS) (v2 : Int32) (w0 : Int32) (w1 : Int32) : RS × Int32 := fX11_deliver_L78 p1 (mu32 0 (v2 + (fX11_least w1 w0 y)) + 1) y v2 (fX11_least w1 w0 y) 0 0
def fX11_deliver (p1 : Int32) (x : RS) : RS × Int32 := if (x.1 20 p1.toNatClampNeg) ≤ 0 then (fX11_deliver_J68 p1 (sR (sR x 19 p1.toNatClampNeg ((x.1 19 p1.toNatClampNeg) + (x.1 16 p1.toNatClampNeg))) 19 p1.toNatClampNeg (((sR x 19 p1.toNatClampNeg ((x.1 19 p1.toNatClampNeg) + (x.1 16 p1.toNatClampNeg))).1 19 p1.toNatClampNeg) - ((sR x 19 p1.toNatClampNeg ((x.1 19 p1.toNatClampNeg) + (x.1 16 p1.toNatClampNeg))).1 19 p1.toNatClampNeg) / 360 * 360)) (((sR x 19 p1.toNatClampNeg ((x.1 19 p1.toNatClampNeg) + (x.1 16 p1.toNatClampNeg))).1 19 p1.toNatClampNeg) / 360) 0 (x.1 20 p1.toNatClampNeg)) else (fX11_deliver_J68 p1 (sR (sR x 19 p1.toNatClampNeg ((x.1 19 p1.toNatClampNeg) + (x.1 16 p1.toNatClampNeg))) 19 p1.toNatClampNeg (((sR x 19 p1.toNatClampNeg ((x.1 19 p1.toNatClampNeg) + (x.1 16 p1.toNatClampNeg))).1 19 p1.toNatClampNeg) - ((sR x 19 p1.toNatClampNeg ((x.1 19 p1.toNatClampNeg) + (x.1 16 p1.toNatClampNeg))).1 19 p1.toNatClampNeg) / 360 * 360)) (((sR x 19 p1.toNatClampNeg ((x.1 19 p1.toNatClampNeg) + (x.1 16 p1.toNatClampNeg))).1 19 p1.toNatClampNeg) / 360) (x.1 10 ((x.1 15 p1.toNatClampNeg).toNatClampNeg)) (x.1 20 p1.toNatClampNeg))
set_option maxHeartbeats 4000000 in
set_option maxRecDepth 100000 in
theorem mX11_deliver (l : Launch) (E : eE) (rr : Nat) (x : RS) (p1 : Int32) (hc : vp_in p1 3) (h7 : x.1 13 p1.toNatClampNeg = 7) (tg : Nat) (bg : Nat) (hok : okR tg bg x) : Met l yX11_deliver wsX11_deliver ({ frames := 4, cells := 0, slots := 0, locals := 92 }) (gPre E (rw_ E rr x) [.ref (rr + 0), .int (p1)]) (gQi E (rw_ E rr) (fX11_deliver p1 x) (rA rr)) 0 0 (rA rr) := by
  refine Met.ofW (cc := cX11_deliver) (maxL := 6) (ret := (some .int)) (by decide) rfl ?_
  intro p e s m args below meth c s₁ B hml hv
  obtain ⟨rfl, hW, hK⟩ := hv
  have hx := B.exec
  have hb := B.bytes
  have hr := B.returns
  have hts := atoms_spec (ws := wsX11_deliver) B.pre
  have hown : s.vm.findClass RX11 = some m.cls := findClass_of_methodNamed B.named
  have hlocks := B.notSynchronized
  have i11 : ∀ w ∈ wsX110, w ∈ wsX11_deliver := by decide +kernel
  have kl32 := hts (.fieldLink RX11 32 "DosePumpModel" "limit" "[I") (by decide +kernel)
  have kl38 := hts (.fieldLink RX11 38 "DosePumpModel" "pace" "[I") (by decide +kernel)
  have kl47 := hts (.fieldLink RX11 47 "DosePumpModel" "phase" "[I") (by decide +kernel)
  have kl53 := hts (.fieldLink RX11 53 "DosePumpModel" "program" "[I") (by decide +kernel)
  have kl56 := hts (.fieldLink RX11 56 "DosePumpModel" "rate" "[I") (by decide +kernel)
  have kl65 := hts (.fieldLink RX11 65 "DosePumpModel" "debt" "[I") (by decide +kernel)
  have kl68 := hts (.fieldLink RX11 68 "DosePumpModel" "bolusLeft" "[I") (by decide +kernel)
  have kl98 := hts (.fieldLink RX11 98 "DosePumpModel" "done" "[Z") (by decide +kernel)
  have kl113 := hts (.fieldLink RX11 113 "DosePumpModel" "inHour" "[I") (by decide +kernel)
  have hS : va_S (rA rr) s.heap s.heap [] := va_S.rf
  have hl := lv_entry ([.ref (rr + 0), .int (p1)]) (n := 6) (Nat.le_of_ble_eq_true rfl)
  rw [lg_entry_eq]
  generalize (lg_sl ([.ref (rr + 0), .int (p1)]) ++ List.replicate (6 - (lg_sl ([.ref (rr + 0), .int (p1)])).length) Slot.unset).toArray = ls at hl ⊢
  have hl : lv_has ls 6 [(0, .ref (rr + 0)), (1, .int (p1))] := hl
  have J78 : ∀ (k8 : Nat) (H : Heap) (locs : List Loc) (ls : Array Slot) (y : RS) (v2 : Int32) (v3 : Int32) (v4 : Int32) (v5 : Int32), rw_ E rr y H → va_S (rA rr) s.heap H locs → lv_has ls 6 [(0, .ref (rr + 0)), (1, .int (p1)), (2, .int (v2)), (3, .int (v3)), (4, .int (v4)), (5, .int (v5))] → okR tg bg y → mu32 v5 (v2 + v3) < k8 → fX11_deliver p1 x = fX11_deliver_L78 p1 k8 y v2 v3 v4 v5 → W p l e (headSpec wsX11_deliver { frames := 4, cells := 0, slots := 0, locals := 92 }).room s m ([.ref (rr + 0), .int (p1)] : List Value).toArray below meth c H locs 0 0 (MQ below (gQi E (rw_ E rr) (fX11_deliver p1 x) (rA rr)) ([.ref (rr + 0), .int (p1)] : List Value).toArray s 0 0 (rA rr)) (F0 m 78 ls []) := by
    intro k8
    induction k8 with
    | zero =>
      intro H locs ls y v2 v3 v4 v5 hW hS hl hok hmu hf
      exact absurd hmu (by omega)
    | succ k9 ih =>
      intro H locs ls y v2 v3 v4 v5 hW hS hl hok hmu hf
      replace hf : fX11_deliver p1 x = (if (v2 + v3) ≤ v5 then ((y, v4)) else (if (y.1 13 p1.toNatClampNeg) = 7 then (if (y.1 30 p1.toNatClampNeg) = 0 then (if (y.1 35 p1.toNatClampNeg) < (y.1 8 ((y.1 15 p1.toNatClampNeg).toNatClampNeg)) then (if v5 < v2 then (fX11_deliver_L78 p1 k9 (fX11_stroke p1 0 y) v2 v3 (v4 + 1) (v5 + 1)) else (fX11_deliver_L78 p1 k9 (fX11_stroke p1 1 y) v2 v3 (v4 + 1) (v5 + 1))) else (fX11_deliver_L78 p1 k9 (fX11_latch p1 4 y) v2 v3 v4 (v5 + 1))) else ((y, v4))) else ((y, v4)))) := hf
      refine lv_iload hx hb dX11_deliver_78 (lv_at hl 5 rfl) ?_
      refine lv_iload_n hx hb dX11_deliver_80 rfl (lv_at hl 2 rfl) ?_
      refine lv_iload_n hx hb dX11_deliver_81 rfl (lv_at hl 3 rfl) ?_
      refine lv_iadd hx hb dX11_deliver_82 ?_
      refine lv_icmp_ge (tgt := 160) hx hb dX11_deliver_83 (by decide) (fun c_83 => ?_) (fun c_83 => ?_)
      · have hf_83 := hf.trans (if_pos c_83)
        refine lv_iload hx hb dX11_deliver_160 (lv_at hl 4 rfl) ?_
        exact gx_iret hx hb hr rfl hlocks hK hf_83 hW hS dX11_deliver_162
      · have hf_83 := hf.trans (if_neg c_83)
        refine lv_aload_n hx hb dX11_deliver_86 rfl (lv_at hl 0 rfl) ?_
        refine fx_get (ci := 11) (v := .ref (rr + 13)) hx hb hts i11 hown hK (rwc_0 hW) rfl 13 (by decide) kl47 rfl dX11_deliver_87 ?_
        refine lv_iload_n hx hb dX11_deliver_90 rfl (lv_at hl 1 rfl) ?_
        refine fx_ild hx hb hK 0 (rwc_13 hW) rfl hc dX11_deliver_91 ?_
        refine lv_bipush (v := 7) hx hb dX11_deliver_92 (by decide) ?_
        refine lv_icmp_ne (tgt := 160) hx hb dX11_deliver_94 (by decide) (fun c_94 => ?_) (fun c_94 => ?_)
        · have hf_94 := hf_83.trans (if_neg c_94)
          refine lv_iload hx hb dX11_deliver_160 (lv_at hl 4 rfl) ?_
          exact gx_iret hx hb hr rfl hlocks hK hf_94 hW hS dX11_deliver_162
        · have hf_94 := hf_83.trans (if_pos c_94)
          refine lv_aload_n hx hb dX11_deliver_97 rfl (lv_at hl 0 rfl) ?_
          refine fx_get (ci := 11) (v := .ref (rr + 30)) hx hb hts i11 hown hK (rwc_0 hW) rfl 30 (by decide) kl98 rfl dX11_deliver_98 ?_
          refine lv_iload_n hx hb dX11_deliver_101 rfl (lv_at hl 1 rfl) ?_
          refine fx_zld hx hb hK 1 (rwc_30 hW) rfl hc dX11_deliver_102 ?_
          refine lv_if_ne (tgt := 160) hx hb dX11_deliver_103 (by decide) (fun c_103 => ?_) (fun c_103 => ?_)
          · have hf_103 := hf_94.trans (if_neg c_103)
            refine lv_iload hx hb dX11_deliver_160 (lv_at hl 4 rfl) ?_
            exact gx_iret hx hb hr rfl hlocks hK hf_103 hW hS dX11_deliver_162
          · have hf_103 := hf_94.trans (if_pos c_103)
            refine lv_aload_n hx hb dX11_deliver_106 rfl (lv_at hl 0 rfl) ?_
            refine fx_get (ci := 11) (v := .ref (rr + 35)) hx hb hts i11 hown hK (rwc_0 hW) rfl 35 (by decide) kl113 rfl dX11_deliver_107 ?_
            refine lv_iload_n hx hb dX11_deliver_110 rfl (lv_at hl 1 rfl) ?_
            refine fx_ild hx hb hK 0 (rwc_35 hW) rfl hc dX11_deliver_111 ?_
            refine lv_aload_n hx hb dX11_deliver_112 rfl (lv_at hl 0 rfl) ?_
            refine fx_get (ci := 11) (v := .ref (rr + 8)) hx hb hts i11 hown hK (rwc_0 hW) rfl 8 (by decide) kl32 rfl dX11_deliver_113 ?_
            refine lv_aload_n hx hb dX11_deliver_116 rfl (lv_at hl 0 rfl) ?_
            refine fx_get (ci := 11) (v := .ref (rr + 15)) hx hb hts i11 hown hK (rwc_0 hW) rfl 15 (by decide) kl53 rfl dX11_deliver_117 ?_
            refine lv_iload_n hx hb dX11_deliver_120 rfl (lv_at hl 1 rfl) ?_
            refine fx_ild hx hb hK 0 (rwc_15 hW) rfl hc dX11_deliver_121 ?_
            refine fx_ild hx hb hK 0 (rwc_8 hW) rfl (okR_pv (x := y) hok (vi_lt hc) (Or.inl (by rw [c_94]; decide))) dX11_deliver_122 ?_
            refine lv_icmp_lt (tgt := 135) hx hb dX11_deliver_123 (by decide) (fun c_123 => ?_) (fun c_123 => ?_)
            · have hf_123 := hf_103.trans (if_pos c_123)
              refine lv_aload_n hx hb dX11_deliver_135 rfl (lv_at hl 0 rfl) ?_
              refine lv_iload_n hx hb dX11_deliver_136 rfl (lv_at hl 1 rfl) ?_
              refine lv_iload hx hb dX11_deliver_137 (lv_at hl 5 rfl) ?_
              refine lv_iload_n hx hb dX11_deliver_139 rfl (lv_at hl 2 rfl) ?_
              refine lv_icmp_lt (tgt := 147) hx hb dX11_deliver_140 (by decide) (fun c_140 => ?_) (fun c_140 => ?_)
              · have hf_140 := hf_123.trans (if_pos c_140)
                refine lv_iconst (v := 0) hx hb dX11_deliver_147 (by decide) ?_
                refine gx_v (rest := []) ⟨hx, hb, hml, hown, hts⟩ (mX11_stroke l E rr y p1 0 hc _ _ hok) (cwV 2 hts gX11_deliver_X11_stroke rfl rfl rfl (by decide +kernel) ⟨Nat.le_of_ble_eq_true rfl, Nat.le_of_ble_eq_true rfl⟩) hW hK (fx_recv hK (rwc_0 hW) rfl) rfl hl.1 rfl (Nat.le_of_ble_eq_true rfl) dX11_deliver_148 ⟨Nat.le_of_ble_eq_true rfl, Nat.le_of_ble_eq_true rfl⟩ hS (fun _ h => h) (fun u2 H locs e2 hW hS => ?_)
                have e2 : fX11_stroke p1 0 y = u2 := e2
                try rw [e2] at hf_140
                have hk2 : okR tg bg u2 := e2 ▸ (okX11_stroke hc hok)
                refine lv_iinc (v := v4 + 1) (lv' := [(4, .int (v4 + 1)), (0, .ref (rr + 0)), (1, .int (p1)), (2, .int (v2)), (3, .int (v3)), (5, .int (v5))]) hx hb dX11_deliver_151 hl (k := 4) rfl (by first | rfl | decide) (by decide) rfl (fun ls hl => ?_)
                refine lv_iinc (v := v5 + 1) (lv' := [(5, .int (v5 + 1)), (4, .int (v4 + 1)), (0, .ref (rr + 0)), (1, .int (p1)), (2, .int (v2)), (3, .int (v3))]) hx hb dX11_deliver_154 hl (k := 5) rfl (by first | rfl | decide) (by decide) rfl (fun ls hl => ?_)
                refine lv_goto (tgt := 78) hx hb dX11_deliver_157 (by decide) ?_
                exact ih _ _ _ u2 v2 v3 (v4 + 1) (v5 + 1) hW hS (lv_sub hl [2, 3, 4, 5, 1, 0] rfl) hk2 (mu32_step c_83 hmu) hf_140
              · have hf_140 := hf_123.trans (if_neg c_140)
                refine lv_iconst (v := 1) hx hb dX11_deliver_143 (by decide) ?_
                refine lv_goto (tgt := 148) hx hb dX11_deliver_144 (by decide) ?_
                refine gx_v (rest := []) ⟨hx, hb, hml, hown, hts⟩ (mX11_stroke l E rr y p1 1 hc _ _ hok) (cwV 2 hts gX11_deliver_X11_stroke rfl rfl rfl (by decide +kernel) ⟨Nat.le_of_ble_eq_true rfl, Nat.le_of_ble_eq_true rfl⟩) hW hK (fx_recv hK (rwc_0 hW) rfl) rfl hl.1 rfl (Nat.le_of_ble_eq_true rfl) dX11_deliver_148 ⟨Nat.le_of_ble_eq_true rfl, Nat.le_of_ble_eq_true rfl⟩ hS (fun _ h => h) (fun u3 H locs e3 hW hS => ?_)
                have e3 : fX11_stroke p1 1 y = u3 := e3
                try rw [e3] at hf_140
                have hk3 : okR tg bg u3 := e3 ▸ (okX11_stroke hc hok)
                refine lv_iinc (v := v4 + 1) (lv' := [(4, .int (v4 + 1)), (0, .ref (rr + 0)), (1, .int (p1)), (2, .int (v2)), (3, .int (v3)), (5, .int (v5))]) hx hb dX11_deliver_151 hl (k := 4) rfl (by first | rfl | decide) (by decide) rfl (fun ls hl => ?_)
                refine lv_iinc (v := v5 + 1) (lv' := [(5, .int (v5 + 1)), (4, .int (v4 + 1)), (0, .ref (rr + 0)), (1, .int (p1)), (2, .int (v2)), (3, .int (v3))]) hx hb dX11_deliver_154 hl (k := 5) rfl (by first | rfl | decide) (by decide) rfl (fun ls hl => ?_)
                refine lv_goto (tgt := 78) hx hb dX11_deliver_157 (by decide) ?_
                exact ih _ _ _ u3 v2 v3 (v4 + 1) (v5 + 1) hW hS (lv_sub hl [2, 3, 4, 5, 1, 0] rfl) hk3 (mu32_step c_83 hmu) hf_140
            · have hf_123 := hf_103.trans (if_neg c_123)
              refine lv_aload_n hx hb dX11_deliver_126 rfl (lv_at hl 0 rfl) ?_
              refine lv_iload_n hx hb dX11_deliver_127 rfl (lv_at hl 1 rfl) ?_
              refine lv_iconst (v := 4) hx hb dX11_deliver_128 (by decide) ?_
              refine gx_v (rest := []) ⟨hx, hb, hml, hown, hts⟩ (mX11_latch l E rr y p1 4 hc (by unfold vp_in; decide) (fun _ => (okR_pv (x := y) hok (vi_lt hc) (Or.inl (by rw [c_94]; decide)))) _ _ hok) (cwV 2 hts gX11_deliver_X11_latch rfl rfl rfl (by decide +kernel) ⟨Nat.le_of_ble_eq_true rfl, Nat.le_of_ble_eq_true rfl⟩) hW hK (fx_recv hK (rwc_0 hW) rfl) rfl hl.1 rfl (Nat.le_of_ble_eq_true rfl) dX11_deliver_129 ⟨Nat.le_of_ble_eq_true rfl, Nat.le_of_ble_eq_true rfl⟩ hS (fun _ h => h) (fun u4 H locs e4 hW hS => ?_)
              have e4 : fX11_latch p1 4 y = u4 := e4
              try rw [e4] at hf_123
              have hk4 : okR tg bg u4 := e4 ▸ (okX11_latch hc (by unfold vp_in; decide) (fun _ => (okR_pv (x := y) hok (vi_lt hc) (Or.inl (by rw [c_94]; decide)))) hok)
              refine lv_goto (tgt := 154) hx hb dX11_deliver_132 (by decide) ?_
              refine lv_iinc (v := v5 + 1) (lv' := [(5, .int (v5 + 1)), (0, .ref (rr + 0)), (1, .int (p1)), (2, .int (v2)), (3, .int (v3)), (4, .int (v4))]) hx hb dX11_deliver_154 hl (k := 5) rfl (by first | rfl | decide) (by decide) rfl (fun ls hl => ?_)
              refine lv_goto (tgt := 78) hx hb dX11_deliver_157 (by decide) ?_
              exact ih _ _ _ u4 v2 v3 v4 (v5 + 1) hW hS (lv_sub hl [1, 2, 3, 4, 5, 0] rfl) hk4 (mu32_step c_83 hmu) hf_123
  have J68 : ∀ (H : Heap) (locs : List Loc) (ls : Array Slot) (y : RS) (v2 : Int32) (w0 : Int32) (w1 : Int32), rw_ E rr y H → va_S (rA rr) s.heap H locs → lv_has ls 6 [(0, .ref (rr + 0)), (1, .int (p1)), (2, .int (v2))] → okR tg bg y → fX11_deliver p1 x = fX11_deliver_J68 p1 y v2 w0 w1 → W p l e (headSpec wsX11_deliver { frames := 4, cells := 0, slots := 0, locals := 92 }).room s m ([.ref (rr + 0), .int (p1)] : List Value).toArray below meth c H locs 0 0 (MQ below (gQi E (rw_ E rr) (fX11_deliver p1 x) (rA rr)) ([.ref (rr + 0), .int (p1)] : List Value).toArray s 0 0 (rA rr)) (F0 m 68 ls [.int (w0), .int (w1)]) := by
    intro H locs ls y v2 w0 w1 hW hS hl hok hf
    replace hf : fX11_deliver p1 x = (fX11_deliver_L78 p1 (mu32 0 (v2 + (fX11_least w1 w0 y)) + 1) y v2 (fX11_least w1 w0 y) 0 0) := hf
    refine gx_si (rest := []) ⟨hx, hb, hml, hown, hts⟩ (mX11_least l E rr y w1 w0) (va_cwS 2 hts gX11_deliver_X11_least rfl rfl rfl (by decide +kernel) ⟨Nat.le_of_ble_eq_true rfl, Nat.le_of_ble_eq_true rfl⟩) hW hK rfl hl.1 rfl (Nat.le_of_ble_eq_true rfl) dX11_deliver_68 ⟨Nat.le_of_ble_eq_true rfl, Nat.le_of_ble_eq_true rfl⟩ hS (fun _ h => h) (fun _ r1 H locs _ e1 hW hS => ?_)
    have e1 : fX11_least w1 w0 y = r1 := e1
    try rw [e1] at hf
    refine lv_istore_n (lv' := [(3, .int (r1)), (0, .ref (rr + 0)), (1, .int (p1)), (2, .int (v2))]) hx hb dX11_deliver_71 rfl hl (by decide) rfl (fun ls hl => ?_)
    refine lv_iconst (v := 0) hx hb dX11_deliver_72 (by decide) ?_
    refine lv_istore (lv' := [(4, .int (0)), (3, .int (r1)), (0, .ref (rr + 0)), (1, .int (p1)), (2, .int (v2))]) hx hb dX11_deliver_73 hl (by decide) rfl (fun ls hl => ?_)
    refine lv_iconst (v := 0) hx hb dX11_deliver_75 (by decide) ?_
    refine lv_istore (lv' := [(5, .int (0)), (4, .int (0)), (3, .int (r1)), (0, .ref (rr + 0)), (1, .int (p1)), (2, .int (v2))]) hx hb dX11_deliver_76 hl (by decide) rfl (fun ls hl => ?_)
    exact J78 _ _ _ _ y v2 r1 0 0 hW hS (lv_sub hl [3, 4, 5, 2, 1, 0] rfl) hok (Nat.lt_succ_self _) hf
  have hf : fX11_deliver p1 x = (if (x.1 20 p1.toNatClampNeg) ≤ 0 then (fX11_deliver_J68 p1 (sR (sR x 19 p1.toNatClampNeg ((x.1 19 p1.toNatClampNeg) + (x.1 16 p1.toNatClampNeg))) 19 p1.toNatClampNeg (((sR x 19 p1.toNatClampNeg ((x.1 19 p1.toNatClampNeg) + (x.1 16 p1.toNatClampNeg))).1 19 p1.toNatClampNeg) - ((sR x 19 p1.toNatClampNeg ((x.1 19 p1.toNatClampNeg) + (x.1 16 p1.toNatClampNeg))).1 19 p1.toNatClampNeg) / 360 * 360)) (((sR x 19 p1.toNatClampNeg ((x.1 19 p1.toNatClampNeg) + (x.1 16 p1.toNatClampNeg))).1 19 p1.toNatClampNeg) / 360) 0 (x.1 20 p1.toNatClampNeg)) else (fX11_deliver_J68 p1 (sR (sR x 19 p1.toNatClampNeg ((x.1 19 p1.toNatClampNeg) + (x.1 16 p1.toNatClampNeg))) 19 p1.toNatClampNeg (((sR x 19 p1.toNatClampNeg ((x.1 19 p1.toNatClampNeg) + (x.1 16 p1.toNatClampNeg))).1 19 p1.toNatClampNeg) - ((sR x 19 p1.toNatClampNeg ((x.1 19 p1.toNatClampNeg) + (x.1 16 p1.toNatClampNeg))).1 19 p1.toNatClampNeg) / 360 * 360)) (((sR x 19 p1.toNatClampNeg ((x.1 19 p1.toNatClampNeg) + (x.1 16 p1.toNatClampNeg))).1 19 p1.toNatClampNeg) / 360) (x.1 10 ((x.1 15 p1.toNatClampNeg).toNatClampNeg)) (x.1 20 p1.toNatClampNeg))) := rfl
  refine lv_aload_n hx hb dX11_deliver_0 rfl (lv_at hl 0 rfl) ?_
  refine fx_get (ci := 11) (v := .ref (rr + 19)) hx hb hts i11 hown hK (rwc_0 hW) rfl 19 (by decide) kl65 rfl dX11_deliver_1 ?_
  refine lv_iload_n hx hb dX11_deliver_4 rfl (lv_at hl 1 rfl) ?_
  refine lv_dup2_11 hx hb dX11_deliver_5 rfl rfl ?_
  refine fx_ild hx hb hK 0 (rwc_19 hW) rfl hc dX11_deliver_6 ?_
  refine lv_aload_n hx hb dX11_deliver_7 rfl (lv_at hl 0 rfl) ?_
  refine fx_get (ci := 11) (v := .ref (rr + 16)) hx hb hts i11 hown hK (rwc_0 hW) rfl 16 (by decide) kl56 rfl dX11_deliver_8 ?_
  refine lv_iload_n hx hb dX11_deliver_11 rfl (lv_at hl 1 rfl) ?_
  refine fx_ild hx hb hK 0 (rwc_16 hW) rfl hc dX11_deliver_12 ?_
  refine lv_iadd hx hb dX11_deliver_13 ?_
  refine fx_ist hx hb hK 0 (rwc_19 hW) (rA_o (o := 19) (by decide)) hS rfl hc dX11_deliver_14 (fun H locs hat hne hS => ?_)
  have hW : rw_ E rr (sR x 19 p1.toNatClampNeg ((x.1 19 p1.toNatClampNeg) + (x.1 16 p1.toNatClampNeg))) H := rws_19 (k := p1.toNatClampNeg) (v := (x.1 19 p1.toNatClampNeg) + (x.1 16 p1.toNatClampNeg)) hW hat hne
  refine lv_aload_n hx hb dX11_deliver_15 rfl (lv_at hl 0 rfl) ?_
  refine fx_get (ci := 11) (v := .ref (rr + 19)) hx hb hts i11 hown hK (rwc_0 hW) rfl 19 (by decide) kl65 rfl dX11_deliver_16 ?_
  refine lv_iload_n hx hb dX11_deliver_19 rfl (lv_at hl 1 rfl) ?_
  refine fx_ild hx hb hK 0 (rwc_19 hW) rfl hc dX11_deliver_20 ?_
  refine lv_sipush (v := 360) hx hb dX11_deliver_21 (by decide) ?_
  refine lv_idiv hx hb dX11_deliver_24 (by decide) ?_
  refine lv_istore_n (lv' := [(2, .int (((sR x 19 p1.toNatClampNeg ((x.1 19 p1.toNatClampNeg) + (x.1 16 p1.toNatClampNeg))).1 19 p1.toNatClampNeg) / 360)), (0, .ref (rr + 0)), (1, .int (p1))]) hx hb dX11_deliver_25 rfl hl (by decide) rfl (fun ls hl => ?_)
  refine lv_aload_n hx hb dX11_deliver_26 rfl (lv_at hl 1 rfl) ?_
  refine fx_get (ci := 11) (v := .ref (rr + 19)) hx hb hts i11 hown hK (rwc_0 hW) rfl 19 (by decide) kl65 rfl dX11_deliver_27 ?_
  refine lv_iload_n hx hb dX11_deliver_30 rfl (lv_at hl 2 rfl) ?_
  refine lv_dup2_11 hx hb dX11_deliver_31 rfl rfl ?_
  refine fx_ild hx hb hK 0 (rwc_19 hW) rfl hc dX11_deliver_32 ?_
  refine lv_sipush (v := 360) hx hb dX11_deliver_33 (by decide) ?_
  refine lv_irem hx hb dX11_deliver_36 (by decide) ?_
  refine fx_ist hx hb hK 0 (rwc_19 hW) (rA_o (o := 19) (by decide)) hS rfl hc dX11_deliver_37 (fun H locs hat hne hS => ?_)
  have hW : rw_ E rr (sR (sR x 19 p1.toNatClampNeg ((x.1 19 p1.toNatClampNeg) + (x.1 16 p1.toNatClampNeg))) 19 p1.toNatClampNeg (((sR x 19 p1.toNatClampNeg ((x.1 19 p1.toNatClampNeg) + (x.1 16 p1.toNatClampNeg))).1 19 p1.toNatClampNeg) - ((sR x 19 p1.toNatClampNeg ((x.1 19 p1.toNatClampNeg) + (x.1 16 p1.toNatClampNeg))).1 19 p1.toNatClampNeg) / 360 * 360)) H := rws_19 (k := p1.toNatClampNeg) (v := ((sR x 19 p1.toNatClampNeg ((x.1 19 p1.toNatClampNeg) + (x.1 16 p1.toNatClampNeg))).1 19 p1.toNatClampNeg) - ((sR x 19 p1.toNatClampNeg ((x.1 19 p1.toNatClampNeg) + (x.1 16 p1.toNatClampNeg))).1 19 p1.toNatClampNeg) / 360 * 360) hW hat hne
  refine lv_aload_n hx hb dX11_deliver_38 rfl (lv_at hl 1 rfl) ?_
  refine fx_get (ci := 11) (v := .ref (rr + 20)) hx hb hts i11 hown hK (rwc_0 hW) rfl 20 (by decide) kl68 rfl dX11_deliver_39 ?_
  refine lv_iload_n hx hb dX11_deliver_42 rfl (lv_at hl 2 rfl) ?_
  refine fx_ild hx hb hK 0 (rwc_20 hW) rfl hc dX11_deliver_43 ?_
  refine lv_aload_n hx hb dX11_deliver_44 rfl (lv_at hl 1 rfl) ?_
  refine fx_get (ci := 11) (v := .ref (rr + 20)) hx hb hts i11 hown hK (rwc_0 hW) rfl 20 (by decide) kl68 rfl dX11_deliver_45 ?_
  refine lv_iload_n hx hb dX11_deliver_48 rfl (lv_at hl 2 rfl) ?_
  refine fx_ild hx hb hK 0 (rwc_20 hW) rfl hc dX11_deliver_49 ?_
  refine lv_if_le (tgt := 67) hx hb dX11_deliver_50 (by decide) (fun c_50 => ?_) (fun c_50 => ?_)
  · have hf_50 := hf.trans (if_pos c_50)
    refine lv_iconst (v := 0) hx hb dX11_deliver_67 (by decide) ?_
    exact J68 _ _ _ (sR (sR x 19 p1.toNatClampNeg ((x.1 19 p1.toNatClampNeg) + (x.1 16 p1.toNatClampNeg))) 19 p1.toNatClampNeg (((sR x 19 p1.toNatClampNeg ((x.1 19 p1.toNatClampNeg) + (x.1 16 p1.toNatClampNeg))).1 19 p1.toNatClampNeg) - ((sR x 19 p1.toNatClampNeg ((x.1 19 p1.toNatClampNeg) + (x.1 16 p1.toNatClampNeg))).1 19 p1.toNatClampNeg) / 360 * 360)) (((sR x 19 p1.toNatClampNeg ((x.1 19 p1.toNatClampNeg) + (x.1 16 p1.toNatClampNeg))).1 19 p1.toNatClampNeg) / 360) 0 (x.1 20 p1.toNatClampNeg) hW hS (lv_sub hl [1, 2, 0] rfl) hok hf_50
  · have hf_50 := hf.trans (if_neg c_50)
    refine lv_aload_n hx hb dX11_deliver_53 rfl (lv_at hl 1 rfl) ?_
    refine fx_get (ci := 11) (v := .ref (rr + 10)) hx hb hts i11 hown hK (rwc_0 hW) rfl 10 (by decide) kl38 rfl dX11_deliver_54 ?_
    refine lv_aload_n hx hb dX11_deliver_57 rfl (lv_at hl 1 rfl) ?_
    refine fx_get (ci := 11) (v := .ref (rr + 15)) hx hb hts i11 hown hK (rwc_0 hW) rfl 15 (by decide) kl53 rfl dX11_deliver_58 ?_
    refine lv_iload_n hx hb dX11_deliver_61 rfl (lv_at hl 2 rfl) ?_
    refine fx_ild hx hb hK 0 (rwc_15 hW) rfl hc dX11_deliver_62 ?_
    refine fx_ild hx hb hK 0 (rwc_10 hW) rfl (okR_pv (x := x) hok (vi_lt hc) (Or.inl (by rw [h7]; decide))) dX11_deliver_63 ?_
    refine lv_goto (tgt := 68) hx hb dX11_deliver_64 (by decide) ?_
    exact J68 _ _ _ (sR (sR x 19 p1.toNatClampNeg ((x.1 19 p1.toNatClampNeg) + (x.1 16 p1.toNatClampNeg))) 19 p1.toNatClampNeg (((sR x 19 p1.toNatClampNeg ((x.1 19 p1.toNatClampNeg) + (x.1 16 p1.toNatClampNeg))).1 19 p1.toNatClampNeg) - ((sR x 19 p1.toNatClampNeg ((x.1 19 p1.toNatClampNeg) + (x.1 16 p1.toNatClampNeg))).1 19 p1.toNatClampNeg) / 360 * 360)) (((sR x 19 p1.toNatClampNeg ((x.1 19 p1.toNatClampNeg) + (x.1 16 p1.toNatClampNeg))).1 19 p1.toNatClampNeg) / 360) (x.1 10 ((x.1 15 p1.toNatClampNeg).toNatClampNeg)) (x.1 20 p1.toNatClampNeg) hW hS (lv_sub hl [1, 2, 0] rfl) hok hf_50
theorem okX11_deliver_L78 {tg bg : Nat} {p1 : Int32} (hc : vp_in p1 3) : ∀ (k8 : Nat) (y : RS) (v2 : Int32) (v3 : Int32) (v4 : Int32) (v5 : Int32), okR tg bg y → okR tg bg (fX11_deliver_L78 p1 k8 y v2 v3 v4 v5).1 := by
  intro k8
  induction k8 with
  | zero => intro y v2 v3 v4 v5 hok; exact hok
  | succ k9 ih => intro y v2 v3 v4 v5 hok; unfold fX11_deliver_L78; exact (okR_ite1 (fun c_83 => hok) (fun c_83 => (okR_ite1 (fun c_94 => (okR_ite1 (fun c_103 => (okR_ite1 (fun c_123 => (okR_ite1 (fun c_140 => (ih _ _ _ _ _ (okX11_stroke hc hok))) (fun c_140 => (ih _ _ _ _ _ (okX11_stroke hc hok))))) (fun c_123 => (ih _ _ _ _ _ (okX11_latch hc (by unfold vp_in; decide) (fun _ => (okR_pv (x := y) hok (vi_lt hc) (Or.inl (by rw [c_94]; decide)))) hok))))) (fun c_103 => hok))) (fun c_94 => hok))))
theorem okX11_deliver_J68 {tg bg : Nat} {p1 : Int32} {y : RS} {v2 : Int32} {w0 : Int32} {w1 : Int32} (hc : vp_in p1 3) (hok : okR tg bg y) : okR tg bg (fX11_deliver_J68 p1 y v2 w0 w1).1 := by unfold fX11_deliver_J68; exact (okX11_deliver_L78 hc _ _ _ _ _ _ hok)
theorem okX11_deliver {tg bg : Nat} {p1 : Int32} {x : RS} (hc : vp_in p1 3) (hok : okR tg bg x) : okR tg bg (fX11_deliver p1 x).1 := by unfold fX11_deliver; exact (okR_ite1 (fun c_50 => (okX11_deliver_J68 hc (okR_sR rfl (okR_sR rfl hok)))) (fun c_50 => (okX11_deliver_J68 hc (okR_sR rfl (okR_sR rfl hok)))))
