/-! the face: drug and more -/
def fX10_more (p1 : Int32) (p2 : Int32) (p3 : Int32) (p4 : Int32) (p5 : Int32) (p6 : Int32) (x : PS) : Nat × PS × Int32 := if (fX10_toldDrug p1 x).1 = 0 then (if p2 < 1 then ((xcode "java/lang/IllegalArgumentException", x, 0)) else (if (100000 : Int32) < p2 then ((xcode "java/lang/IllegalArgumentException", x, 0)) else (if p3 < 0 then ((xcode "java/lang/IllegalArgumentException", x, 0)) else (if (5000 : Int32) < p3 then ((xcode "java/lang/IllegalArgumentException", x, 0)) else (if p4 < 1 then ((xcode "java/lang/IllegalArgumentException", x, 0)) else (if p4 ≤ 30 then (if p5 < 0 then ((xcode "java/lang/IllegalArgumentException", x, 0)) else (if (3600 : Int32) < p5 then ((xcode "java/lang/IllegalArgumentException", x, 0)) else (if p6 < 1 then ((xcode "java/lang/IllegalArgumentException", x, 0)) else (if p6 ≤ 20 then (if (fX10_refuseDrugInUse p1 x).1 = 0 then ((0, (fX2_tellMore p1 p2 p3 p4 p5 p6 x), 0)) else ((fX10_refuseDrugInUse p1 x).1, (fX10_refuseDrugInUse p1 x).2.1, 0)) else ((xcode "java/lang/IllegalArgumentException", x, 0)))))) else ((xcode "java/lang/IllegalArgumentException", x, 0)))))))) else ((fX10_toldDrug p1 x).1, (fX10_toldDrug p1 x).2.1, 0)
set_option maxHeartbeats 4000000 in
set_option maxRecDepth 100000 in
theorem mX10_more (l : Launch) (hl9 : l.stackTraces = false) (E : eE) (bb sz : Nat) (x : PS) (p1 : Int32) (p2 : Int32) (p3 : Int32) (p4 : Int32) (p5 : Int32) (p6 : Int32) (hok : okP x) : vx_Met l yX10_more wsX10_more ({ frames := 7, cells := 2, slots := 12, locals := 112 }) (xPre E bb sz (pw E bb x) [.ref (bb + 0), .int (p1), .int (p2), .int (p3), .int (p4), .int (p5), .int (p6)]) (xQv E (pw E bb) (fX10_more p1 p2 p3 p4 p5 p6 x) (xA bb sz)) (xX E (pw E bb) (fX10_more p1 p2 p3 p4 p5 p6 x) (xA bb sz)) 2 12 (xA bb sz) := by
  refine vx_ofW (cc := cX10_more) (maxL := 8) (ret := none) (by decide) rfl ?_
  intro p e s m args below meth c s₁ B hml hEx hv
  obtain ⟨rfl, hsz, hW, hK, hxs⟩ := hv
  subst hsz
  have hx := B.exec
  have hb := B.bytes
  have hr := B.returns
  have hts := atoms_spec (ws := wsX10_more) B.pre
  have hown : s.vm.findClass RX10 = some m.cls := findClass_of_methodNamed B.named
  have hlocks := B.notSynchronized
  have hS : va_S (xA bb s.heap.size) s.heap s.heap [] := va_S.rf
  have hl := lv_entry ([.ref (bb + 0), .int (p1), .int (p2), .int (p3), .int (p4), .int (p5), .int (p6)]) (n := 8) (Nat.le_of_ble_eq_true rfl)
  rw [lg_entry_eq]
  generalize (lg_sl ([.ref (bb + 0), .int (p1), .int (p2), .int (p3), .int (p4), .int (p5), .int (p6)]) ++ List.replicate (8 - (lg_sl ([.ref (bb + 0), .int (p1), .int (p2), .int (p3), .int (p4), .int (p5), .int (p6)])).length) Slot.unset).toArray = ls at hl ⊢
  have hl : lv_has ls 8 [(0, .ref (bb + 0)), (1, .int (p1)), (2, .int (p2)), (3, .int (p3)), (4, .int (p4)), (5, .int (p5)), (6, .int (p6))] := hl
  have hf : fX10_more p1 p2 p3 p4 p5 p6 x = (if (fX10_toldDrug p1 x).1 = 0 then (if p2 < 1 then ((xcode "java/lang/IllegalArgumentException", x, 0)) else (if (100000 : Int32) < p2 then ((xcode "java/lang/IllegalArgumentException", x, 0)) else (if p3 < 0 then ((xcode "java/lang/IllegalArgumentException", x, 0)) else (if (5000 : Int32) < p3 then ((xcode "java/lang/IllegalArgumentException", x, 0)) else (if p4 < 1 then ((xcode "java/lang/IllegalArgumentException", x, 0)) else (if p4 ≤ 30 then (if p5 < 0 then ((xcode "java/lang/IllegalArgumentException", x, 0)) else (if (3600 : Int32) < p5 then ((xcode "java/lang/IllegalArgumentException", x, 0)) else (if p6 < 1 then ((xcode "java/lang/IllegalArgumentException", x, 0)) else (if p6 ≤ 20 then (if (fX10_refuseDrugInUse p1 x).1 = 0 then ((0, (fX2_tellMore p1 p2 p3 p4 p5 p6 x), 0)) else ((fX10_refuseDrugInUse p1 x).1, (fX10_refuseDrugInUse p1 x).2.1, 0)) else ((xcode "java/lang/IllegalArgumentException", x, 0)))))) else ((xcode "java/lang/IllegalArgumentException", x, 0)))))))) else ((fX10_toldDrug p1 x).1, (fX10_toldDrug p1 x).2.1, 0)) := rfl
  refine lv_aload_n hx hb dX10_more_0 rfl (lv_at hl 0 rfl) ?_
  refine lv_iload_n hx hb dX10_more_1 rfl (lv_at hl 1 rfl) ?_
  refine xx_cr (rest := []) ⟨hx, hb, hml, hown, hts⟩ (mX10_toldDrug l hl9 E bb _ x p1) (cwV 1 hts gX10_more_X10_toldDrug rfl rfl rfl (by decide +kernel) ⟨Nat.le_of_ble_eq_true rfl, Nat.le_of_ble_eq_true rfl⟩) hW hK hxs (fx_recv hK (pw_P (o := 0) hW (by decide)) rfl) rfl hl.1 rfl (Nat.le_of_ble_eq_true rfl) dX10_more_2 ⟨Nat.le_of_ble_eq_true rfl, Nat.le_of_ble_eq_true rfl⟩ hS hEx hlocks (Nat.le_of_ble_eq_true rfl) (Nat.le_of_ble_eq_true rfl) (fun h9 => hf.trans (if_neg h9)) (fun u1 r1 H locs z1 e1 e1r hW hS => ?_)
  have hf_2 := hf.trans (if_pos z1)
  have e1 : x = u1 := (pureX10_toldDrug).symm.trans e1
  subst e1
  have e1r : p1 = r1 := (ansX10_toldDrug z1).symm.trans e1r
  subst e1r
  have hin1 := inX10_toldDrug z1
  refine lv_astore (lv' := [(7, .ref (dAd bb (p1).toNatClampNeg)), (0, .ref (bb + 0)), (1, .int (p1)), (2, .int (p2)), (3, .int (p3)), (4, .int (p4)), (5, .int (p5)), (6, .int (p6))]) hx hb dX10_more_5 hl (by decide) rfl (fun ls hl => ?_)
  refine lv_iload_n hx hb dX10_more_7 rfl (lv_at hl 3 rfl) ?_
  refine lv_iconst (v := 1) hx hb dX10_more_8 (by decide) ?_
  refine lv_icmp_lt (tgt := 42) hx hb dX10_more_9 (by decide) (fun c_9 => ?_) (fun c_9 => ?_)
  · have hf_9 := hf_2.trans (if_pos c_9)
    exact xx_throw (X := "java/lang/IllegalArgumentException") (text := "limit, bolus or pace") (ik := 48) (is := 89) (ic := 52) hx hb hl9 hown (by decide) (by decide) (by decide +kernel) (hts (.classLink RX10 48 "java/lang/IllegalArgumentException") (by decide +kernel)) (hts (.initialized "java/lang/IllegalArgumentException") (by decide +kernel)) (fun w hw => hts w ((by decide +kernel : ∀ w ∈ (vx_atS RX10 52 "java/lang/IllegalArgumentException" xNm).filter goodWord, w ∈ wsX10_more) w hw)) (by decide +kernel) (by decide +kernel) hxs hS (hl.1.trans hml.symm) dX10_more_42 dX10_more_45 dX10_more_46 dX10_more_48 dX10_more_51 hEx (Nat.le_of_ble_eq_true rfl) (Nat.le_of_ble_eq_true rfl) (Nat.le_of_ble_eq_true rfl) (Nat.le_of_ble_eq_true rfl) (Nat.le_of_ble_eq_true rfl) (Nat.le_of_ble_eq_true rfl) hlocks hK hf_9 hW
  · have hf_9 := hf_2.trans (if_neg c_9)
    refine lv_iload_n hx hb dX10_more_12 rfl (lv_at hl 3 rfl) ?_
    refine lv_ldc hx hb hown (hts (.constant RX10 80 (100000)) (by decide +kernel)) dX10_more_13 ?_
    refine lv_icmp_gt (tgt := 42) hx hb dX10_more_15 (by decide) (fun c_15 => ?_) (fun c_15 => ?_)
    · have hf_15 := hf_9.trans (if_pos c_15)
      exact xx_throw (X := "java/lang/IllegalArgumentException") (text := "limit, bolus or pace") (ik := 48) (is := 89) (ic := 52) hx hb hl9 hown (by decide) (by decide) (by decide +kernel) (hts (.classLink RX10 48 "java/lang/IllegalArgumentException") (by decide +kernel)) (hts (.initialized "java/lang/IllegalArgumentException") (by decide +kernel)) (fun w hw => hts w ((by decide +kernel : ∀ w ∈ (vx_atS RX10 52 "java/lang/IllegalArgumentException" xNm).filter goodWord, w ∈ wsX10_more) w hw)) (by decide +kernel) (by decide +kernel) hxs hS (hl.1.trans hml.symm) dX10_more_42 dX10_more_45 dX10_more_46 dX10_more_48 dX10_more_51 hEx (Nat.le_of_ble_eq_true rfl) (Nat.le_of_ble_eq_true rfl) (Nat.le_of_ble_eq_true rfl) (Nat.le_of_ble_eq_true rfl) (Nat.le_of_ble_eq_true rfl) (Nat.le_of_ble_eq_true rfl) hlocks hK hf_15 hW
    · have hf_15 := hf_9.trans (if_neg c_15)
      refine lv_iload_n hx hb dX10_more_18 rfl (lv_at hl 4 rfl) ?_
      refine lv_if_lt (tgt := 42) hx hb dX10_more_19 (by decide) (fun c_19 => ?_) (fun c_19 => ?_)
      · have hf_19 := hf_15.trans (if_pos c_19)
        exact xx_throw (X := "java/lang/IllegalArgumentException") (text := "limit, bolus or pace") (ik := 48) (is := 89) (ic := 52) hx hb hl9 hown (by decide) (by decide) (by decide +kernel) (hts (.classLink RX10 48 "java/lang/IllegalArgumentException") (by decide +kernel)) (hts (.initialized "java/lang/IllegalArgumentException") (by decide +kernel)) (fun w hw => hts w ((by decide +kernel : ∀ w ∈ (vx_atS RX10 52 "java/lang/IllegalArgumentException" xNm).filter goodWord, w ∈ wsX10_more) w hw)) (by decide +kernel) (by decide +kernel) hxs hS (hl.1.trans hml.symm) dX10_more_42 dX10_more_45 dX10_more_46 dX10_more_48 dX10_more_51 hEx (Nat.le_of_ble_eq_true rfl) (Nat.le_of_ble_eq_true rfl) (Nat.le_of_ble_eq_true rfl) (Nat.le_of_ble_eq_true rfl) (Nat.le_of_ble_eq_true rfl) (Nat.le_of_ble_eq_true rfl) hlocks hK hf_19 hW
      · have hf_19 := hf_15.trans (if_neg c_19)
        refine lv_iload_n hx hb dX10_more_22 rfl (lv_at hl 4 rfl) ?_
        refine lv_sipush (v := 5000) hx hb dX10_more_23 (by decide) ?_
        refine lv_icmp_gt (tgt := 42) hx hb dX10_more_26 (by decide) (fun c_26 => ?_) (fun c_26 => ?_)
        · have hf_26 := hf_19.trans (if_pos c_26)
          exact xx_throw (X := "java/lang/IllegalArgumentException") (text := "limit, bolus or pace") (ik := 48) (is := 89) (ic := 52) hx hb hl9 hown (by decide) (by decide) (by decide +kernel) (hts (.classLink RX10 48 "java/lang/IllegalArgumentException") (by decide +kernel)) (hts (.initialized "java/lang/IllegalArgumentException") (by decide +kernel)) (fun w hw => hts w ((by decide +kernel : ∀ w ∈ (vx_atS RX10 52 "java/lang/IllegalArgumentException" xNm).filter goodWord, w ∈ wsX10_more) w hw)) (by decide +kernel) (by decide +kernel) hxs hS (hl.1.trans hml.symm) dX10_more_42 dX10_more_45 dX10_more_46 dX10_more_48 dX10_more_51 hEx (Nat.le_of_ble_eq_true rfl) (Nat.le_of_ble_eq_true rfl) (Nat.le_of_ble_eq_true rfl) (Nat.le_of_ble_eq_true rfl) (Nat.le_of_ble_eq_true rfl) (Nat.le_of_ble_eq_true rfl) hlocks hK hf_26 hW
        · have hf_26 := hf_19.trans (if_neg c_26)
          refine lv_iload hx hb dX10_more_29 (lv_at hl 5 rfl) ?_
          refine lv_iconst (v := 1) hx hb dX10_more_31 (by decide) ?_
          refine lv_icmp_lt (tgt := 42) hx hb dX10_more_32 (by decide) (fun c_32 => ?_) (fun c_32 => ?_)
          · have hf_32 := hf_26.trans (if_pos c_32)
            exact xx_throw (X := "java/lang/IllegalArgumentException") (text := "limit, bolus or pace") (ik := 48) (is := 89) (ic := 52) hx hb hl9 hown (by decide) (by decide) (by decide +kernel) (hts (.classLink RX10 48 "java/lang/IllegalArgumentException") (by decide +kernel)) (hts (.initialized "java/lang/IllegalArgumentException") (by decide +kernel)) (fun w hw => hts w ((by decide +kernel : ∀ w ∈ (vx_atS RX10 52 "java/lang/IllegalArgumentException" xNm).filter goodWord, w ∈ wsX10_more) w hw)) (by decide +kernel) (by decide +kernel) hxs hS (hl.1.trans hml.symm) dX10_more_42 dX10_more_45 dX10_more_46 dX10_more_48 dX10_more_51 hEx (Nat.le_of_ble_eq_true rfl) (Nat.le_of_ble_eq_true rfl) (Nat.le_of_ble_eq_true rfl) (Nat.le_of_ble_eq_true rfl) (Nat.le_of_ble_eq_true rfl) (Nat.le_of_ble_eq_true rfl) hlocks hK hf_32 hW
          · have hf_32 := hf_26.trans (if_neg c_32)
            refine lv_iload hx hb dX10_more_35 (lv_at hl 5 rfl) ?_
            refine lv_bipush (v := 30) hx hb dX10_more_37 (by decide) ?_
            refine lv_icmp_le (tgt := 52) hx hb dX10_more_39 (by decide) (fun c_39 => ?_) (fun c_39 => ?_)
            · have hf_39 := hf_32.trans (if_pos c_39)
              refine lv_iload hx hb dX10_more_52 (lv_at hl 6 rfl) ?_
              refine lv_if_lt (tgt := 78) hx hb dX10_more_54 (by decide) (fun c_54 => ?_) (fun c_54 => ?_)
              · have hf_54 := hf_39.trans (if_pos c_54)
                exact xx_throw (X := "java/lang/IllegalArgumentException") (text := "lockout or many") (ik := 48) (is := 91) (ic := 52) hx hb hl9 hown (by decide) (by decide) (by decide +kernel) (hts (.classLink RX10 48 "java/lang/IllegalArgumentException") (by decide +kernel)) (hts (.initialized "java/lang/IllegalArgumentException") (by decide +kernel)) (fun w hw => hts w ((by decide +kernel : ∀ w ∈ (vx_atS RX10 52 "java/lang/IllegalArgumentException" xNm).filter goodWord, w ∈ wsX10_more) w hw)) (by decide +kernel) (by decide +kernel) hxs hS (hl.1.trans hml.symm) dX10_more_78 dX10_more_81 dX10_more_82 dX10_more_84 dX10_more_87 hEx (Nat.le_of_ble_eq_true rfl) (Nat.le_of_ble_eq_true rfl) (Nat.le_of_ble_eq_true rfl) (Nat.le_of_ble_eq_true rfl) (Nat.le_of_ble_eq_true rfl) (Nat.le_of_ble_eq_true rfl) hlocks hK hf_54 hW
              · have hf_54 := hf_39.trans (if_neg c_54)
                refine lv_iload hx hb dX10_more_57 (lv_at hl 6 rfl) ?_
                refine lv_sipush (v := 3600) hx hb dX10_more_59 (by decide) ?_
                refine lv_icmp_gt (tgt := 78) hx hb dX10_more_62 (by decide) (fun c_62 => ?_) (fun c_62 => ?_)
                · have hf_62 := hf_54.trans (if_pos c_62)
                  exact xx_throw (X := "java/lang/IllegalArgumentException") (text := "lockout or many") (ik := 48) (is := 91) (ic := 52) hx hb hl9 hown (by decide) (by decide) (by decide +kernel) (hts (.classLink RX10 48 "java/lang/IllegalArgumentException") (by decide +kernel)) (hts (.initialized "java/lang/IllegalArgumentException") (by decide +kernel)) (fun w hw => hts w ((by decide +kernel : ∀ w ∈ (vx_atS RX10 52 "java/lang/IllegalArgumentException" xNm).filter goodWord, w ∈ wsX10_more) w hw)) (by decide +kernel) (by decide +kernel) hxs hS (hl.1.trans hml.symm) dX10_more_78 dX10_more_81 dX10_more_82 dX10_more_84 dX10_more_87 hEx (Nat.le_of_ble_eq_true rfl) (Nat.le_of_ble_eq_true rfl) (Nat.le_of_ble_eq_true rfl) (Nat.le_of_ble_eq_true rfl) (Nat.le_of_ble_eq_true rfl) (Nat.le_of_ble_eq_true rfl) hlocks hK hf_62 hW
                · have hf_62 := hf_54.trans (if_neg c_62)
                  refine lv_iload hx hb dX10_more_65 (lv_at hl 7 rfl) ?_
                  refine lv_iconst (v := 1) hx hb dX10_more_67 (by decide) ?_
                  refine lv_icmp_lt (tgt := 78) hx hb dX10_more_68 (by decide) (fun c_68 => ?_) (fun c_68 => ?_)
                  · have hf_68 := hf_62.trans (if_pos c_68)
                    exact xx_throw (X := "java/lang/IllegalArgumentException") (text := "lockout or many") (ik := 48) (is := 91) (ic := 52) hx hb hl9 hown (by decide) (by decide) (by decide +kernel) (hts (.classLink RX10 48 "java/lang/IllegalArgumentException") (by decide +kernel)) (hts (.initialized "java/lang/IllegalArgumentException") (by decide +kernel)) (fun w hw => hts w ((by decide +kernel : ∀ w ∈ (vx_atS RX10 52 "java/lang/IllegalArgumentException" xNm).filter goodWord, w ∈ wsX10_more) w hw)) (by decide +kernel) (by decide +kernel) hxs hS (hl.1.trans hml.symm) dX10_more_78 dX10_more_81 dX10_more_82 dX10_more_84 dX10_more_87 hEx (Nat.le_of_ble_eq_true rfl) (Nat.le_of_ble_eq_true rfl) (Nat.le_of_ble_eq_true rfl) (Nat.le_of_ble_eq_true rfl) (Nat.le_of_ble_eq_true rfl) (Nat.le_of_ble_eq_true rfl) hlocks hK hf_68 hW
                  · have hf_68 := hf_62.trans (if_neg c_68)
                    refine lv_iload hx hb dX10_more_71 (lv_at hl 7 rfl) ?_
                    refine lv_bipush (v := 20) hx hb dX10_more_73 (by decide) ?_
                    refine lv_icmp_le (tgt := 88) hx hb dX10_more_75 (by decide) (fun c_75 => ?_) (fun c_75 => ?_)
                    · have hf_75 := hf_68.trans (if_pos c_75)
                      refine lv_aload_n hx hb dX10_more_88 rfl (lv_at hl 1 rfl) ?_
                      refine lv_iload_n hx hb dX10_more_89 rfl (lv_at hl 2 rfl) ?_
                      refine xx_cv (rest := []) ⟨hx, hb, hml, hown, hts⟩ (mX10_refuseDrugInUse l hl9 E bb _ x p1 hok) (cwV 1 hts gX10_more_X10_refuseDrugInUse rfl rfl rfl (by decide +kernel) ⟨Nat.le_of_ble_eq_true rfl, Nat.le_of_ble_eq_true rfl⟩) hW hK hxs (fx_recv hK (pw_P (o := 0) hW (by decide)) rfl) rfl hl.1 rfl (Nat.le_of_ble_eq_true rfl) dX10_more_90 ⟨Nat.le_of_ble_eq_true rfl, Nat.le_of_ble_eq_true rfl⟩ hS hEx hlocks (Nat.le_of_ble_eq_true rfl) (Nat.le_of_ble_eq_true rfl) (fun h9 => hf_75.trans (if_neg h9)) (fun u2 H locs z2 e2 hW hS => ?_)
                      have hf_90 := hf_75.trans (if_pos z2)
                      have e2 : x = u2 := (pureX10_refuseDrugInUse).symm.trans e2
                      subst e2
                      refine lv_aload hx hb dX10_more_93 (lv_at hl 0 rfl) ?_
                      refine lv_iload_n hx hb dX10_more_95 rfl (lv_at hl 3 rfl) ?_
                      refine lv_iload_n hx hb dX10_more_96 rfl (lv_at hl 4 rfl) ?_
                      refine lv_iload hx hb dX10_more_97 (lv_at hl 5 rfl) ?_
                      refine lv_iload hx hb dX10_more_99 (lv_at hl 6 rfl) ?_
                      refine lv_iload hx hb dX10_more_101 (lv_at hl 7 rfl) ?_
                      refine gx_v (rest := []) ⟨hx, hb, hml, hown, hts⟩ (mX2_tellMore l E bb x p1 p2 p3 p4 p5 p6 hin1) (cwV 5 hts gX10_more_X2_tellMore rfl rfl rfl (by decide +kernel) ⟨Nat.le_of_ble_eq_true rfl, Nat.le_of_ble_eq_true rfl⟩) hW hK (fx_recv hK (pw_D hW (vi_22 hin1)) rfl) rfl hl.1 rfl (Nat.le_of_ble_eq_true rfl) dX10_more_103 ⟨Nat.le_of_ble_eq_true rfl, Nat.le_of_ble_eq_true rfl⟩ hS (fun _ h => Or.inl h) (fun u3 H locs e3 hW hS => ?_)
                      have e3 : fX2_tellMore p1 p2 p3 p4 p5 p6 x = u3 := e3
                      try rw [e3] at hf_90
                      exact xx_vret hx hb hr hlocks hK hf_90 hW hS dX10_more_106 (Nat.le_of_ble_eq_true rfl) (Nat.le_of_ble_eq_true rfl)
                    · have hf_75 := hf_68.trans (if_neg c_75)
                      exact xx_throw (X := "java/lang/IllegalArgumentException") (text := "lockout or many") (ik := 48) (is := 91) (ic := 52) hx hb hl9 hown (by decide) (by decide) (by decide +kernel) (hts (.classLink RX10 48 "java/lang/IllegalArgumentException") (by decide +kernel)) (hts (.initialized "java/lang/IllegalArgumentException") (by decide +kernel)) (fun w hw => hts w ((by decide +kernel : ∀ w ∈ (vx_atS RX10 52 "java/lang/IllegalArgumentException" xNm).filter goodWord, w ∈ wsX10_more) w hw)) (by decide +kernel) (by decide +kernel) hxs hS (hl.1.trans hml.symm) dX10_more_78 dX10_more_81 dX10_more_82 dX10_more_84 dX10_more_87 hEx (Nat.le_of_ble_eq_true rfl) (Nat.le_of_ble_eq_true rfl) (Nat.le_of_ble_eq_true rfl) (Nat.le_of_ble_eq_true rfl) (Nat.le_of_ble_eq_true rfl) (Nat.le_of_ble_eq_true rfl) hlocks hK hf_75 hW
            · have hf_39 := hf_32.trans (if_neg c_39)
              exact xx_throw (X := "java/lang/IllegalArgumentException") (text := "limit, bolus or pace") (ik := 48) (is := 89) (ic := 52) hx hb hl9 hown (by decide) (by decide) (by decide +kernel) (hts (.classLink RX10 48 "java/lang/IllegalArgumentException") (by decide +kernel)) (hts (.initialized "java/lang/IllegalArgumentException") (by decide +kernel)) (fun w hw => hts w ((by decide +kernel : ∀ w ∈ (vx_atS RX10 52 "java/lang/IllegalArgumentException" xNm).filter goodWord, w ∈ wsX10_more) w hw)) (by decide +kernel) (by decide +kernel) hxs hS (hl.1.trans hml.symm) dX10_more_42 dX10_more_45 dX10_more_46 dX10_more_48 dX10_more_51 hEx (Nat.le_of_ble_eq_true rfl) (Nat.le_of_ble_eq_true rfl) (Nat.le_of_ble_eq_true rfl) (Nat.le_of_ble_eq_true rfl) (Nat.le_of_ble_eq_true rfl) (Nat.le_of_ble_eq_true rfl) hlocks hK hf_39 hW

def fX10_drug (p1 : Int32) (p2 : Int32) (p3 : Int32) (p4 : Int32) (p5 : Int32) (p6 : Int32) (p7 : Int32) (x : PS) : Nat × PS × Int32 := if p1 < 0 then ((xcode "java/lang/IndexOutOfBoundsException", x, 0)) else (if p1 < 16 then (if p2 < 0 then ((xcode "java/lang/IllegalArgumentException", x, 0)) else (if (1 : Int32) < p2 then ((xcode "java/lang/IllegalArgumentException", x, 0)) else (if p3 < 1 then ((xcode "java/lang/IllegalArgumentException", x, 0)) else (if p3 ≤ 10000 then (if p4 < 1 then ((xcode "java/lang/IllegalArgumentException", x, 0)) else (if p5 < p4 then ((xcode "java/lang/IllegalArgumentException", x, 0)) else (if p6 < p5 then ((xcode "java/lang/IllegalArgumentException", x, 0)) else (if p7 < p6 then ((xcode "java/lang/IllegalArgumentException", x, 0)) else (if p7 ≤ 99999 then (if (fX10_refuseDrugInUse p1 x).1 = 0 then ((0, (fX2_tellMore p1 100000 0 1 0 1 (tD (tD (tD (tD (tD (tD (tD x p1.toNatClampNeg 1 (1)) p1.toNatClampNeg 2 (p2)) p1.toNatClampNeg 3 (p3)) p1.toNatClampNeg 4 (p4)) p1.toNatClampNeg 5 (p5)) p1.toNatClampNeg 6 (p6)) p1.toNatClampNeg 7 (p7))), 0)) else ((fX10_refuseDrugInUse p1 x).1, (fX10_refuseDrugInUse p1 x).2.1, 0)) else ((xcode "java/lang/IllegalArgumentException", x, 0))))))) else ((xcode "java/lang/IllegalArgumentException", x, 0)))))) else ((xcode "java/lang/IndexOutOfBoundsException", x, 0)))
set_option maxHeartbeats 4000000 in
set_option maxRecDepth 100000 in
theorem mX10_drug (l : Launch) (hl9 : l.stackTraces = false) (E : eE) (bb sz : Nat) (x : PS) (p1 : Int32) (p2 : Int32) (p3 : Int32) (p4 : Int32) (p5 : Int32) (p6 : Int32) (p7 : Int32) (hok : okP x) : vx_Met l yX10_drug wsX10_drug ({ frames := 7, cells := 1, slots := 6, locals := 112 }) (xPre E bb sz (pw E bb x) [.ref (bb + 0), .int (p1), .int (p2), .int (p3), .int (p4), .int (p5), .int (p6), .int (p7)]) (xQv E (pw E bb) (fX10_drug p1 p2 p3 p4 p5 p6 p7 x) (xA bb sz)) (xX E (pw E bb) (fX10_drug p1 p2 p3 p4 p5 p6 p7 x) (xA bb sz)) 1 6 (xA bb sz) := by
  refine vx_ofW (cc := cX10_drug) (maxL := 9) (ret := none) (by decide) rfl ?_
  intro p e s m args below meth c s₁ B hml hEx hv
  obtain ⟨rfl, hsz, hW, hK, hxs⟩ := hv
  subst hsz
  have hx := B.exec
  have hb := B.bytes
  have hr := B.returns
  have hts := atoms_spec (ws := wsX10_drug) B.pre
  have hown : s.vm.findClass RX10 = some m.cls := findClass_of_methodNamed B.named
  have hlocks := B.notSynchronized
  have i2 : ∀ w ∈ wsX20, w ∈ wsX10_drug := by decide +kernel
  have i10 : ∀ w ∈ wsX100, w ∈ wsX10_drug := by decide +kernel
  have kl11 := hts (.fieldLink RX10 11 "DosePump" "drugs" "[LDosePump$Drug;") (by decide +kernel)
  have kl59 := hts (.fieldLink RX10 59 "DosePump$Drug" "told" "Z") (by decide +kernel)
  have kl62 := hts (.fieldLink RX10 62 "DosePump$Drug" "kind" "I") (by decide +kernel)
  have kl65 := hts (.fieldLink RX10 65 "DosePump$Drug" "strength" "I") (by decide +kernel)
  have kl68 := hts (.fieldLink RX10 68 "DosePump$Drug" "hardLow" "I") (by decide +kernel)
  have kl71 := hts (.fieldLink RX10 71 "DosePump$Drug" "softLow" "I") (by decide +kernel)
  have kl74 := hts (.fieldLink RX10 74 "DosePump$Drug" "softHigh" "I") (by decide +kernel)
  have kl77 := hts (.fieldLink RX10 77 "DosePump$Drug" "hardHigh" "I") (by decide +kernel)
  have hS : va_S (xA bb s.heap.size) s.heap s.heap [] := va_S.rf
  have hl := lv_entry ([.ref (bb + 0), .int (p1), .int (p2), .int (p3), .int (p4), .int (p5), .int (p6), .int (p7)]) (n := 9) (Nat.le_of_ble_eq_true rfl)
  rw [lg_entry_eq]
  generalize (lg_sl ([.ref (bb + 0), .int (p1), .int (p2), .int (p3), .int (p4), .int (p5), .int (p6), .int (p7)]) ++ List.replicate (9 - (lg_sl ([.ref (bb + 0), .int (p1), .int (p2), .int (p3), .int (p4), .int (p5), .int (p6), .int (p7)])).length) Slot.unset).toArray = ls at hl ⊢
  have hl : lv_has ls 9 [(0, .ref (bb + 0)), (1, .int (p1)), (2, .int (p2)), (3, .int (p3)), (4, .int (p4)), (5, .int (p5)), (6, .int (p6)), (7, .int (p7))] := hl
  have hf : fX10_drug p1 p2 p3 p4 p5 p6 p7 x = (if p1 < 0 then ((xcode "java/lang/IndexOutOfBoundsException", x, 0)) else (if p1 < 16 then (if p2 < 0 then ((xcode "java/lang/IllegalArgumentException", x, 0)) else (if (1 : Int32) < p2 then ((xcode "java/lang/IllegalArgumentException", x, 0)) else (if p3 < 1 then ((xcode "java/lang/IllegalArgumentException", x, 0)) else (if p3 ≤ 10000 then (if p4 < 1 then ((xcode "java/lang/IllegalArgumentException", x, 0)) else (if p5 < p4 then ((xcode "java/lang/IllegalArgumentException", x, 0)) else (if p6 < p5 then ((xcode "java/lang/IllegalArgumentException", x, 0)) else (if p7 < p6 then ((xcode "java/lang/IllegalArgumentException", x, 0)) else (if p7 ≤ 99999 then (if (fX10_refuseDrugInUse p1 x).1 = 0 then ((0, (fX2_tellMore p1 100000 0 1 0 1 (tD (tD (tD (tD (tD (tD (tD x p1.toNatClampNeg 1 (1)) p1.toNatClampNeg 2 (p2)) p1.toNatClampNeg 3 (p3)) p1.toNatClampNeg 4 (p4)) p1.toNatClampNeg 5 (p5)) p1.toNatClampNeg 6 (p6)) p1.toNatClampNeg 7 (p7))), 0)) else ((fX10_refuseDrugInUse p1 x).1, (fX10_refuseDrugInUse p1 x).2.1, 0)) else ((xcode "java/lang/IllegalArgumentException", x, 0))))))) else ((xcode "java/lang/IllegalArgumentException", x, 0)))))) else ((xcode "java/lang/IndexOutOfBoundsException", x, 0)))) := rfl
  refine lv_iload_n hx hb dX10_drug_0 rfl (lv_at hl 1 rfl) ?_
  refine lv_if_lt (tgt := 10) hx hb dX10_drug_1 (by decide) (fun c_1 => ?_) (fun c_1 => ?_)
  · have hf_1 := hf.trans (if_pos c_1)
    exact xx_throw (X := "java/lang/IndexOutOfBoundsException") (text := "no such drug") (ik := 41) (is := 43) (ic := 45) hx hb hl9 hown (by decide) (by decide) (by decide +kernel) (hts (.classLink RX10 41 "java/lang/IndexOutOfBoundsException") (by decide +kernel)) (hts (.initialized "java/lang/IndexOutOfBoundsException") (by decide +kernel)) (fun w hw => hts w ((by decide +kernel : ∀ w ∈ (vx_atS RX10 45 "java/lang/IndexOutOfBoundsException" xNm).filter goodWord, w ∈ wsX10_drug) w hw)) (by decide +kernel) (by decide +kernel) hxs hS (hl.1.trans hml.symm) dX10_drug_10 dX10_drug_13 dX10_drug_14 dX10_drug_16 dX10_drug_19 hEx (Nat.le_of_ble_eq_true rfl) (Nat.le_of_ble_eq_true rfl) (Nat.le_of_ble_eq_true rfl) (Nat.le_of_ble_eq_true rfl) (Nat.le_of_ble_eq_true rfl) (Nat.le_of_ble_eq_true rfl) hlocks hK hf_1 hW
  · have hf_1 := hf.trans (if_neg c_1)
    refine lv_iload_n hx hb dX10_drug_4 rfl (lv_at hl 1 rfl) ?_
    refine lv_bipush (v := 16) hx hb dX10_drug_5 (by decide) ?_
    refine lv_icmp_lt (tgt := 20) hx hb dX10_drug_7 (by decide) (fun c_7 => ?_) (fun c_7 => ?_)
    · have hf_7 := hf_1.trans (if_pos c_7)
      refine lv_iload_n hx hb dX10_drug_20 rfl (lv_at hl 2 rfl) ?_
      refine lv_if_lt (tgt := 41) hx hb dX10_drug_21 (by decide) (fun c_21 => ?_) (fun c_21 => ?_)
      · have hf_21 := hf_7.trans (if_pos c_21)
        exact xx_throw (X := "java/lang/IllegalArgumentException") (text := "kind or strength") (ik := 48) (is := 50) (ic := 52) hx hb hl9 hown (by decide) (by decide) (by decide +kernel) (hts (.classLink RX10 48 "java/lang/IllegalArgumentException") (by decide +kernel)) (hts (.initialized "java/lang/IllegalArgumentException") (by decide +kernel)) (fun w hw => hts w ((by decide +kernel : ∀ w ∈ (vx_atS RX10 52 "java/lang/IllegalArgumentException" xNm).filter goodWord, w ∈ wsX10_drug) w hw)) (by decide +kernel) (by decide +kernel) hxs hS (hl.1.trans hml.symm) dX10_drug_41 dX10_drug_44 dX10_drug_45 dX10_drug_47 dX10_drug_50 hEx (Nat.le_of_ble_eq_true rfl) (Nat.le_of_ble_eq_true rfl) (Nat.le_of_ble_eq_true rfl) (Nat.le_of_ble_eq_true rfl) (Nat.le_of_ble_eq_true rfl) (Nat.le_of_ble_eq_true rfl) hlocks hK hf_21 hW
      · have hf_21 := hf_7.trans (if_neg c_21)
        refine lv_iload_n hx hb dX10_drug_24 rfl (lv_at hl 2 rfl) ?_
        refine lv_iconst (v := 1) hx hb dX10_drug_25 (by decide) ?_
        refine lv_icmp_gt (tgt := 41) hx hb dX10_drug_26 (by decide) (fun c_26 => ?_) (fun c_26 => ?_)
        · have hf_26 := hf_21.trans (if_pos c_26)
          exact xx_throw (X := "java/lang/IllegalArgumentException") (text := "kind or strength") (ik := 48) (is := 50) (ic := 52) hx hb hl9 hown (by decide) (by decide) (by decide +kernel) (hts (.classLink RX10 48 "java/lang/IllegalArgumentException") (by decide +kernel)) (hts (.initialized "java/lang/IllegalArgumentException") (by decide +kernel)) (fun w hw => hts w ((by decide +kernel : ∀ w ∈ (vx_atS RX10 52 "java/lang/IllegalArgumentException" xNm).filter goodWord, w ∈ wsX10_drug) w hw)) (by decide +kernel) (by decide +kernel) hxs hS (hl.1.trans hml.symm) dX10_drug_41 dX10_drug_44 dX10_drug_45 dX10_drug_47 dX10_drug_50 hEx (Nat.le_of_ble_eq_true rfl) (Nat.le_of_ble_eq_true rfl) (Nat.le_of_ble_eq_true rfl) (Nat.le_of_ble_eq_true rfl) (Nat.le_of_ble_eq_true rfl) (Nat.le_of_ble_eq_true rfl) hlocks hK hf_26 hW
        · have hf_26 := hf_21.trans (if_neg c_26)
          refine lv_iload_n hx hb dX10_drug_29 rfl (lv_at hl 3 rfl) ?_
          refine lv_iconst (v := 1) hx hb dX10_drug_30 (by decide) ?_
          refine lv_icmp_lt (tgt := 41) hx hb dX10_drug_31 (by decide) (fun c_31 => ?_) (fun c_31 => ?_)
          · have hf_31 := hf_26.trans (if_pos c_31)
            exact xx_throw (X := "java/lang/IllegalArgumentException") (text := "kind or strength") (ik := 48) (is := 50) (ic := 52) hx hb hl9 hown (by decide) (by decide) (by decide +kernel) (hts (.classLink RX10 48 "java/lang/IllegalArgumentException") (by decide +kernel)) (hts (.initialized "java/lang/IllegalArgumentException") (by decide +kernel)) (fun w hw => hts w ((by decide +kernel : ∀ w ∈ (vx_atS RX10 52 "java/lang/IllegalArgumentException" xNm).filter goodWord, w ∈ wsX10_drug) w hw)) (by decide +kernel) (by decide +kernel) hxs hS (hl.1.trans hml.symm) dX10_drug_41 dX10_drug_44 dX10_drug_45 dX10_drug_47 dX10_drug_50 hEx (Nat.le_of_ble_eq_true rfl) (Nat.le_of_ble_eq_true rfl) (Nat.le_of_ble_eq_true rfl) (Nat.le_of_ble_eq_true rfl) (Nat.le_of_ble_eq_true rfl) (Nat.le_of_ble_eq_true rfl) hlocks hK hf_31 hW
          · have hf_31 := hf_26.trans (if_neg c_31)
            refine lv_iload_n hx hb dX10_drug_34 rfl (lv_at hl 3 rfl) ?_
            refine lv_sipush (v := 10000) hx hb dX10_drug_35 (by decide) ?_
            refine lv_icmp_le (tgt := 51) hx hb dX10_drug_38 (by decide) (fun c_38 => ?_) (fun c_38 => ?_)
            · have hf_38 := hf_31.trans (if_pos c_38)
              refine lv_iload hx hb dX10_drug_51 (lv_at hl 4 rfl) ?_
              refine lv_iconst (v := 1) hx hb dX10_drug_53 (by decide) ?_
              refine lv_icmp_lt (tgt := 85) hx hb dX10_drug_54 (by decide) (fun c_54 => ?_) (fun c_54 => ?_)
              · have hf_54 := hf_38.trans (if_pos c_54)
                exact xx_throw (X := "java/lang/IllegalArgumentException") (text := "amounts") (ik := 48) (is := 54) (ic := 52) hx hb hl9 hown (by decide) (by decide) (by decide +kernel) (hts (.classLink RX10 48 "java/lang/IllegalArgumentException") (by decide +kernel)) (hts (.initialized "java/lang/IllegalArgumentException") (by decide +kernel)) (fun w hw => hts w ((by decide +kernel : ∀ w ∈ (vx_atS RX10 52 "java/lang/IllegalArgumentException" xNm).filter goodWord, w ∈ wsX10_drug) w hw)) (by decide +kernel) (by decide +kernel) hxs hS (hl.1.trans hml.symm) dX10_drug_85 dX10_drug_88 dX10_drug_89 dX10_drug_91 dX10_drug_94 hEx (Nat.le_of_ble_eq_true rfl) (Nat.le_of_ble_eq_true rfl) (Nat.le_of_ble_eq_true rfl) (Nat.le_of_ble_eq_true rfl) (Nat.le_of_ble_eq_true rfl) (Nat.le_of_ble_eq_true rfl) hlocks hK hf_54 hW
              · have hf_54 := hf_38.trans (if_neg c_54)
                refine lv_iload hx hb dX10_drug_57 (lv_at hl 5 rfl) ?_
                refine lv_iload hx hb dX10_drug_59 (lv_at hl 4 rfl) ?_
                refine lv_icmp_lt (tgt := 85) hx hb dX10_drug_61 (by decide) (fun c_61 => ?_) (fun c_61 => ?_)
                · have hf_61 := hf_54.trans (if_pos c_61)
                  exact xx_throw (X := "java/lang/IllegalArgumentException") (text := "amounts") (ik := 48) (is := 54) (ic := 52) hx hb hl9 hown (by decide) (by decide) (by decide +kernel) (hts (.classLink RX10 48 "java/lang/IllegalArgumentException") (by decide +kernel)) (hts (.initialized "java/lang/IllegalArgumentException") (by decide +kernel)) (fun w hw => hts w ((by decide +kernel : ∀ w ∈ (vx_atS RX10 52 "java/lang/IllegalArgumentException" xNm).filter goodWord, w ∈ wsX10_drug) w hw)) (by decide +kernel) (by decide +kernel) hxs hS (hl.1.trans hml.symm) dX10_drug_85 dX10_drug_88 dX10_drug_89 dX10_drug_91 dX10_drug_94 hEx (Nat.le_of_ble_eq_true rfl) (Nat.le_of_ble_eq_true rfl) (Nat.le_of_ble_eq_true rfl) (Nat.le_of_ble_eq_true rfl) (Nat.le_of_ble_eq_true rfl) (Nat.le_of_ble_eq_true rfl) hlocks hK hf_61 hW
                · have hf_61 := hf_54.trans (if_neg c_61)
                  refine lv_iload hx hb dX10_drug_64 (lv_at hl 6 rfl) ?_
                  refine lv_iload hx hb dX10_drug_66 (lv_at hl 5 rfl) ?_
                  refine lv_icmp_lt (tgt := 85) hx hb dX10_drug_68 (by decide) (fun c_68 => ?_) (fun c_68 => ?_)
                  · have hf_68 := hf_61.trans (if_pos c_68)
                    exact xx_throw (X := "java/lang/IllegalArgumentException") (text := "amounts") (ik := 48) (is := 54) (ic := 52) hx hb hl9 hown (by decide) (by decide) (by decide +kernel) (hts (.classLink RX10 48 "java/lang/IllegalArgumentException") (by decide +kernel)) (hts (.initialized "java/lang/IllegalArgumentException") (by decide +kernel)) (fun w hw => hts w ((by decide +kernel : ∀ w ∈ (vx_atS RX10 52 "java/lang/IllegalArgumentException" xNm).filter goodWord, w ∈ wsX10_drug) w hw)) (by decide +kernel) (by decide +kernel) hxs hS (hl.1.trans hml.symm) dX10_drug_85 dX10_drug_88 dX10_drug_89 dX10_drug_91 dX10_drug_94 hEx (Nat.le_of_ble_eq_true rfl) (Nat.le_of_ble_eq_true rfl) (Nat.le_of_ble_eq_true rfl) (Nat.le_of_ble_eq_true rfl) (Nat.le_of_ble_eq_true rfl) (Nat.le_of_ble_eq_true rfl) hlocks hK hf_68 hW
                  · have hf_68 := hf_61.trans (if_neg c_68)
                    refine lv_iload hx hb dX10_drug_71 (lv_at hl 7 rfl) ?_
                    refine lv_iload hx hb dX10_drug_73 (lv_at hl 6 rfl) ?_
                    refine lv_icmp_lt (tgt := 85) hx hb dX10_drug_75 (by decide) (fun c_75 => ?_) (fun c_75 => ?_)
                    · have hf_75 := hf_68.trans (if_pos c_75)
                      exact xx_throw (X := "java/lang/IllegalArgumentException") (text := "amounts") (ik := 48) (is := 54) (ic := 52) hx hb hl9 hown (by decide) (by decide) (by decide +kernel) (hts (.classLink RX10 48 "java/lang/IllegalArgumentException") (by decide +kernel)) (hts (.initialized "java/lang/IllegalArgumentException") (by decide +kernel)) (fun w hw => hts w ((by decide +kernel : ∀ w ∈ (vx_atS RX10 52 "java/lang/IllegalArgumentException" xNm).filter goodWord, w ∈ wsX10_drug) w hw)) (by decide +kernel) (by decide +kernel) hxs hS (hl.1.trans hml.symm) dX10_drug_85 dX10_drug_88 dX10_drug_89 dX10_drug_91 dX10_drug_94 hEx (Nat.le_of_ble_eq_true rfl) (Nat.le_of_ble_eq_true rfl) (Nat.le_of_ble_eq_true rfl) (Nat.le_of_ble_eq_true rfl) (Nat.le_of_ble_eq_true rfl) (Nat.le_of_ble_eq_true rfl) hlocks hK hf_75 hW
                    · have hf_75 := hf_68.trans (if_neg c_75)
                      refine lv_iload hx hb dX10_drug_78 (lv_at hl 7 rfl) ?_
                      refine lv_ldc hx hb hown (hts (.constant RX10 53 (99999)) (by decide +kernel)) dX10_drug_80 ?_
                      refine lv_icmp_le (tgt := 95) hx hb dX10_drug_82 (by decide) (fun c_82 => ?_) (fun c_82 => ?_)
                      · have hf_82 := hf_75.trans (if_pos c_82)
                        refine lv_aload_n hx hb dX10_drug_95 rfl (lv_at hl 0 rfl) ?_
                        refine lv_iload_n hx hb dX10_drug_96 rfl (lv_at hl 1 rfl) ?_
                        refine xx_cv (rest := []) ⟨hx, hb, hml, hown, hts⟩ (mX10_refuseDrugInUse l hl9 E bb _ x p1 hok) (cwV 1 hts gX10_drug_X10_refuseDrugInUse rfl rfl rfl (by decide +kernel) ⟨Nat.le_of_ble_eq_true rfl, Nat.le_of_ble_eq_true rfl⟩) hW hK hxs (fx_recv hK (pw_P (o := 0) hW (by decide)) rfl) rfl hl.1 rfl (Nat.le_of_ble_eq_true rfl) dX10_drug_97 ⟨Nat.le_of_ble_eq_true rfl, Nat.le_of_ble_eq_true rfl⟩ hS hEx hlocks (Nat.le_of_ble_eq_true rfl) (Nat.le_of_ble_eq_true rfl) (fun h9 => hf_82.trans (if_neg h9)) (fun u1 H locs z1 e1 hW hS => ?_)
                        have hf_97 := hf_82.trans (if_pos z1)
                        have e1 : x = u1 := (pureX10_refuseDrugInUse).symm.trans e1
                        subst e1
                        refine lv_aload_n hx hb dX10_drug_100 rfl (lv_at hl 0 rfl) ?_
                        refine fx_get (ci := 10) (v := .ref (bb + 1)) hx hb hts i10 hown hK (pw_P (o := 0) hW (by decide)) rfl 0 (by decide) kl11 rfl dX10_drug_101 ?_
                        refine lv_iload_n hx hb dX10_drug_104 rfl (lv_at hl 1 rfl) ?_
                        refine fx_ald (v := .ref (dAd bb (p1).toNatClampNeg)) hx hb hK 3 (pw_P (o := 1) hW (by decide)) rfl (vj_of16 c_1 c_7) rfl dX10_drug_105 ?_
                        refine lv_astore (lv' := [(8, .ref (dAd bb (p1).toNatClampNeg)), (0, .ref (bb + 0)), (1, .int (p1)), (2, .int (p2)), (3, .int (p3)), (4, .int (p4)), (5, .int (p5)), (6, .int (p6)), (7, .int (p7))]) hx hb dX10_drug_106 hl (by decide) rfl (fun ls hl => ?_)
                        refine lv_aload hx hb dX10_drug_108 (lv_at hl 0 rfl) ?_
                        refine lv_iconst (v := 1) hx hb dX10_drug_110 (by decide) ?_
                        refine fx_put (ci := 2) (v := .int (1)) hx hb hts i2 tyX2_ok nmX2 hown hK (pw_D hW (vi_22 (vj_of16 c_1 c_7))) (Or.inl (cA_D16 (vj_of16 c_1 c_7))) hS rfl 1 (by decide) kl59 rfl (by decide) (by decide) (Nat.le_of_ble_eq_true rfl) dX10_drug_111 (fun H locs hat hne hS => ?_)
                        have hW : pw E bb (tD x p1.toNatClampNeg 1 (1)) H := pw_sD (z := p1) (k := 1) (v := 1) hW (vj_of16 c_1 c_7) hat hne
                        refine lv_aload hx hb dX10_drug_114 (lv_at hl 0 rfl) ?_
                        refine lv_iload_n hx hb dX10_drug_116 rfl (lv_at hl 3 rfl) ?_
                        refine fx_put (ci := 2) (v := .int (p2)) hx hb hts i2 tyX2_ok nmX2 hown hK (pw_D hW (vi_22 (vj_of16 c_1 c_7))) (Or.inl (cA_D16 (vj_of16 c_1 c_7))) hS rfl 2 (by decide) kl62 rfl rfl rfl (Nat.le_of_ble_eq_true rfl) dX10_drug_117 (fun H locs hat hne hS => ?_)
                        have hW : pw E bb (tD (tD x p1.toNatClampNeg 1 (1)) p1.toNatClampNeg 2 (p2)) H := pw_sD (z := p1) (k := 2) (v := p2) hW (vj_of16 c_1 c_7) hat hne
                        refine lv_aload hx hb dX10_drug_120 (lv_at hl 0 rfl) ?_
                        refine lv_iload_n hx hb dX10_drug_122 rfl (lv_at hl 4 rfl) ?_
                        refine fx_put (ci := 2) (v := .int (p3)) hx hb hts i2 tyX2_ok nmX2 hown hK (pw_D hW (vi_22 (vj_of16 c_1 c_7))) (Or.inl (cA_D16 (vj_of16 c_1 c_7))) hS rfl 3 (by decide) kl65 rfl rfl rfl (Nat.le_of_ble_eq_true rfl) dX10_drug_123 (fun H locs hat hne hS => ?_)
                        have hW : pw E bb (tD (tD (tD x p1.toNatClampNeg 1 (1)) p1.toNatClampNeg 2 (p2)) p1.toNatClampNeg 3 (p3)) H := pw_sD (z := p1) (k := 3) (v := p3) hW (vj_of16 c_1 c_7) hat hne
                        refine lv_aload hx hb dX10_drug_126 (lv_at hl 0 rfl) ?_
                        refine lv_iload hx hb dX10_drug_128 (lv_at hl 5 rfl) ?_
                        refine fx_put (ci := 2) (v := .int (p4)) hx hb hts i2 tyX2_ok nmX2 hown hK (pw_D hW (vi_22 (vj_of16 c_1 c_7))) (Or.inl (cA_D16 (vj_of16 c_1 c_7))) hS rfl 4 (by decide) kl68 rfl rfl rfl (Nat.le_of_ble_eq_true rfl) dX10_drug_130 (fun H locs hat hne hS => ?_)
                        have hW : pw E bb (tD (tD (tD (tD x p1.toNatClampNeg 1 (1)) p1.toNatClampNeg 2 (p2)) p1.toNatClampNeg 3 (p3)) p1.toNatClampNeg 4 (p4)) H := pw_sD (z := p1) (k := 4) (v := p4) hW (vj_of16 c_1 c_7) hat hne
                        refine lv_aload hx hb dX10_drug_133 (lv_at hl 0 rfl) ?_
                        refine lv_iload hx hb dX10_drug_135 (lv_at hl 6 rfl) ?_
                        refine fx_put (ci := 2) (v := .int (p5)) hx hb hts i2 tyX2_ok nmX2 hown hK (pw_D hW (vi_22 (vj_of16 c_1 c_7))) (Or.inl (cA_D16 (vj_of16 c_1 c_7))) hS rfl 5 (by decide) kl71 rfl rfl rfl (Nat.le_of_ble_eq_true rfl) dX10_drug_137 (fun H locs hat hne hS => ?_)
                        have hW : pw E bb (tD (tD (tD (tD (tD x p1.toNatClampNeg 1 (1)) p1.toNatClampNeg 2 (p2)) p1.toNatClampNeg 3 (p3)) p1.toNatClampNeg 4 (p4)) p1.toNatClampNeg 5 (p5)) H := pw_sD (z := p1) (k := 5) (v := p5) hW (vj_of16 c_1 c_7) hat hne
                        refine lv_aload hx hb dX10_drug_140 (lv_at hl 0 rfl) ?_
                        refine lv_iload hx hb dX10_drug_142 (lv_at hl 7 rfl) ?_
                        refine fx_put (ci := 2) (v := .int (p6)) hx hb hts i2 tyX2_ok nmX2 hown hK (pw_D hW (vi_22 (vj_of16 c_1 c_7))) (Or.inl (cA_D16 (vj_of16 c_1 c_7))) hS rfl 6 (by decide) kl74 rfl rfl rfl (Nat.le_of_ble_eq_true rfl) dX10_drug_144 (fun H locs hat hne hS => ?_)
                        have hW : pw E bb (tD (tD (tD (tD (tD (tD x p1.toNatClampNeg 1 (1)) p1.toNatClampNeg 2 (p2)) p1.toNatClampNeg 3 (p3)) p1.toNatClampNeg 4 (p4)) p1.toNatClampNeg 5 (p5)) p1.toNatClampNeg 6 (p6)) H := pw_sD (z := p1) (k := 6) (v := p6) hW (vj_of16 c_1 c_7) hat hne
                        refine lv_aload hx hb dX10_drug_147 (lv_at hl 0 rfl) ?_
                        refine lv_iload hx hb dX10_drug_149 (lv_at hl 8 rfl) ?_
                        refine fx_put (ci := 2) (v := .int (p7)) hx hb hts i2 tyX2_ok nmX2 hown hK (pw_D hW (vi_22 (vj_of16 c_1 c_7))) (Or.inl (cA_D16 (vj_of16 c_1 c_7))) hS rfl 7 (by decide) kl77 rfl rfl rfl (Nat.le_of_ble_eq_true rfl) dX10_drug_151 (fun H locs hat hne hS => ?_)
                        have hW : pw E bb (tD (tD (tD (tD (tD (tD (tD x p1.toNatClampNeg 1 (1)) p1.toNatClampNeg 2 (p2)) p1.toNatClampNeg 3 (p3)) p1.toNatClampNeg 4 (p4)) p1.toNatClampNeg 5 (p5)) p1.toNatClampNeg 6 (p6)) p1.toNatClampNeg 7 (p7)) H := pw_sD (z := p1) (k := 7) (v := p7) hW (vj_of16 c_1 c_7) hat hne
                        refine lv_aload hx hb dX10_drug_154 (lv_at hl 0 rfl) ?_
                        refine lv_ldc hx hb hown (hts (.constant RX10 80 (100000)) (by decide +kernel)) dX10_drug_156 ?_
                        refine lv_iconst (v := 0) hx hb dX10_drug_158 (by decide) ?_
                        refine lv_iconst (v := 1) hx hb dX10_drug_159 (by decide) ?_
                        refine lv_iconst (v := 0) hx hb dX10_drug_160 (by decide) ?_
                        refine lv_iconst (v := 1) hx hb dX10_drug_161 (by decide) ?_
                        refine gx_v (rest := []) ⟨hx, hb, hml, hown, hts⟩ (mX2_tellMore l E bb (tD (tD (tD (tD (tD (tD (tD x p1.toNatClampNeg 1 (1)) p1.toNatClampNeg 2 (p2)) p1.toNatClampNeg 3 (p3)) p1.toNatClampNeg 4 (p4)) p1.toNatClampNeg 5 (p5)) p1.toNatClampNeg 6 (p6)) p1.toNatClampNeg 7 (p7)) p1 100000 0 1 0 1 (vj_of16 c_1 c_7)) (cwV 5 hts gX10_drug_X2_tellMore rfl rfl rfl (by decide +kernel) ⟨Nat.le_of_ble_eq_true rfl, Nat.le_of_ble_eq_true rfl⟩) hW hK (fx_recv hK (pw_D hW (vi_22 (vj_of16 c_1 c_7))) rfl) rfl hl.1 rfl (Nat.le_of_ble_eq_true rfl) dX10_drug_162 ⟨Nat.le_of_ble_eq_true rfl, Nat.le_of_ble_eq_true rfl⟩ hS (fun _ h => Or.inl h) (fun u2 H locs e2 hW hS => ?_)
                        have e2 : fX2_tellMore p1 100000 0 1 0 1 (tD (tD (tD (tD (tD (tD (tD x p1.toNatClampNeg 1 (1)) p1.toNatClampNeg 2 (p2)) p1.toNatClampNeg 3 (p3)) p1.toNatClampNeg 4 (p4)) p1.toNatClampNeg 5 (p5)) p1.toNatClampNeg 6 (p6)) p1.toNatClampNeg 7 (p7)) = u2 := e2
                        try rw [e2] at hf_97
                        exact xx_vret hx hb hr hlocks hK hf_97 hW hS dX10_drug_165 (Nat.le_of_ble_eq_true rfl) (Nat.le_of_ble_eq_true rfl)
                      · have hf_82 := hf_75.trans (if_neg c_82)
                        exact xx_throw (X := "java/lang/IllegalArgumentException") (text := "amounts") (ik := 48) (is := 54) (ic := 52) hx hb hl9 hown (by decide) (by decide) (by decide +kernel) (hts (.classLink RX10 48 "java/lang/IllegalArgumentException") (by decide +kernel)) (hts (.initialized "java/lang/IllegalArgumentException") (by decide +kernel)) (fun w hw => hts w ((by decide +kernel : ∀ w ∈ (vx_atS RX10 52 "java/lang/IllegalArgumentException" xNm).filter goodWord, w ∈ wsX10_drug) w hw)) (by decide +kernel) (by decide +kernel) hxs hS (hl.1.trans hml.symm) dX10_drug_85 dX10_drug_88 dX10_drug_89 dX10_drug_91 dX10_drug_94 hEx (Nat.le_of_ble_eq_true rfl) (Nat.le_of_ble_eq_true rfl) (Nat.le_of_ble_eq_true rfl) (Nat.le_of_ble_eq_true rfl) (Nat.le_of_ble_eq_true rfl) (Nat.le_of_ble_eq_true rfl) hlocks hK hf_82 hW
            · have hf_38 := hf_31.trans (if_neg c_38)
              exact xx_throw (X := "java/lang/IllegalArgumentException") (text := "kind or strength") (ik := 48) (is := 50) (ic := 52) hx hb hl9 hown (by decide) (by decide) (by decide +kernel) (hts (.classLink RX10 48 "java/lang/IllegalArgumentException") (by decide +kernel)) (hts (.initialized "java/lang/IllegalArgumentException") (by decide +kernel)) (fun w hw => hts w ((by decide +kernel : ∀ w ∈ (vx_atS RX10 52 "java/lang/IllegalArgumentException" xNm).filter goodWord, w ∈ wsX10_drug) w hw)) (by decide +kernel) (by decide +kernel) hxs hS (hl.1.trans hml.symm) dX10_drug_41 dX10_drug_44 dX10_drug_45 dX10_drug_47 dX10_drug_50 hEx (Nat.le_of_ble_eq_true rfl) (Nat.le_of_ble_eq_true rfl) (Nat.le_of_ble_eq_true rfl) (Nat.le_of_ble_eq_true rfl) (Nat.le_of_ble_eq_true rfl) (Nat.le_of_ble_eq_true rfl) hlocks hK hf_38 hW
    · have hf_7 := hf_1.trans (if_neg c_7)
      exact xx_throw (X := "java/lang/IndexOutOfBoundsException") (text := "no such drug") (ik := 41) (is := 43) (ic := 45) hx hb hl9 hown (by decide) (by decide) (by decide +kernel) (hts (.classLink RX10 41 "java/lang/IndexOutOfBoundsException") (by decide +kernel)) (hts (.initialized "java/lang/IndexOutOfBoundsException") (by decide +kernel)) (fun w hw => hts w ((by decide +kernel : ∀ w ∈ (vx_atS RX10 45 "java/lang/IndexOutOfBoundsException" xNm).filter goodWord, w ∈ wsX10_drug) w hw)) (by decide +kernel) (by decide +kernel) hxs hS (hl.1.trans hml.symm) dX10_drug_10 dX10_drug_13 dX10_drug_14 dX10_drug_16 dX10_drug_19 hEx (Nat.le_of_ble_eq_true rfl) (Nat.le_of_ble_eq_true rfl) (Nat.le_of_ble_eq_true rfl) (Nat.le_of_ble_eq_true rfl) (Nat.le_of_ble_eq_true rfl) (Nat.le_of_ble_eq_true rfl) hlocks hK hf_7 hW
