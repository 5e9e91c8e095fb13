/-! a drug's rate -/
def fX2_rateFor (gd : Nat → Nat → Int32) (z : Int32) (p1 : Int32) (p2 : Int32) (x : FS) : Int32 := if (dRow gd (z).toNatClampNeg 2) = 0 then (p1) else ((if ((((2 : Int64) * (((3 : Int64) * p1.toInt64) * p2.toInt64)) + ((5 : Int64) * ((if (1 : Int32) < (dRow gd (z).toNatClampNeg 3) then (dRow gd (z).toNatClampNeg 3) else (1 : Int32)).toInt64))) / ((2 : Int64) * ((5 : Int64) * ((if (1 : Int32) < (dRow gd (z).toNatClampNeg 3) then (dRow gd (z).toNatClampNeg 3) else (1 : Int32)).toInt64)))) < (2147483647 : Int64) then ((((2 : Int64) * (((3 : Int64) * p1.toInt64) * p2.toInt64)) + ((5 : Int64) * ((if (1 : Int32) < (dRow gd (z).toNatClampNeg 3) then (dRow gd (z).toNatClampNeg 3) else (1 : Int32)).toInt64))) / ((2 : Int64) * ((5 : Int64) * ((if (1 : Int32) < (dRow gd (z).toNatClampNeg 3) then (dRow gd (z).toNatClampNeg 3) else (1 : Int32)).toInt64)))) else (2147483647 : Int64)).toInt32)
set_option maxHeartbeats 4000000 in
set_option maxRecDepth 100000 in
theorem mX2_rateFor (l : Launch) (E : eE) (bb : Nat) (gd : Nat → Nat → Int32) (ch : Nat → Nat → Nat → Int32) (n : Nat) (hn : n < 3) (x : FS) (z : Int32) (p1 : Int32) (p2 : Int32) (hv_z : vp_in z 22) : Met l yX2_rateFor wsX2_rateFor ({ frames := 1, cells := 0, slots := 0, locals := 23 }) (gPre E (cwf E bb gd ch n x) [.ref (dAd bb (z).toNatClampNeg), .int (p1), .int (p2)]) (gQi E (fun _ : Unit => cwf E bb gd ch n x) ((), fX2_rateFor gd z p1 p2 x) (cA bb)) 0 0 (cA bb) := by
  refine Met.ofW (cc := cX2_rateFor) (maxL := 7) (ret := (some .int)) (by decide) rfl ?_
  intro p e s m args below meth c s₁ B hml hv
  obtain ⟨rfl, hW, hK⟩ := hv
  have hx := B.exec
  have hb := B.bytes
  have hr := B.returns
  have hts := atoms_spec (ws := wsX2_rateFor) B.pre
  have hown : s.vm.findClass RX2 = some m.cls := findClass_of_methodNamed B.named
  have hlocks := B.notSynchronized
  have i2 : ∀ w ∈ wsX20, w ∈ wsX2_rateFor := by decide +kernel
  have kl7 := hts (.fieldLink RX2 7 "DosePump$Drug" "strength" "I") (by decide +kernel)
  have kl31 := hts (.fieldLink RX2 31 "DosePump$Drug" "kind" "I") (by decide +kernel)
  have hS : va_S (cA bb) s.heap s.heap [] := va_S.rf
  have hl := lv_entry ([.ref (dAd bb (z).toNatClampNeg), .int (p1), .int (p2)]) (n := 7) (Nat.le_of_ble_eq_true rfl)
  rw [lg_entry_eq]
  generalize (lg_sl ([.ref (dAd bb (z).toNatClampNeg), .int (p1), .int (p2)]) ++ List.replicate (7 - (lg_sl ([.ref (dAd bb (z).toNatClampNeg), .int (p1), .int (p2)])).length) Slot.unset).toArray = ls at hl ⊢
  have hl : lv_has ls 7 [(0, .ref (dAd bb (z).toNatClampNeg)), (1, .int (p1)), (2, .int (p2))] := hl
  have hf : fX2_rateFor gd z p1 p2 x = (if (dRow gd (z).toNatClampNeg 2) = 0 then (p1) else ((if ((((2 : Int64) * (((3 : Int64) * p1.toInt64) * p2.toInt64)) + ((5 : Int64) * ((if (1 : Int32) < (dRow gd (z).toNatClampNeg 3) then (dRow gd (z).toNatClampNeg 3) else (1 : Int32)).toInt64))) / ((2 : Int64) * ((5 : Int64) * ((if (1 : Int32) < (dRow gd (z).toNatClampNeg 3) then (dRow gd (z).toNatClampNeg 3) else (1 : Int32)).toInt64)))) < (2147483647 : Int64) then ((((2 : Int64) * (((3 : Int64) * p1.toInt64) * p2.toInt64)) + ((5 : Int64) * ((if (1 : Int32) < (dRow gd (z).toNatClampNeg 3) then (dRow gd (z).toNatClampNeg 3) else (1 : Int32)).toInt64))) / ((2 : Int64) * ((5 : Int64) * ((if (1 : Int32) < (dRow gd (z).toNatClampNeg 3) then (dRow gd (z).toNatClampNeg 3) else (1 : Int32)).toInt64)))) else (2147483647 : Int64)).toInt32)) := rfl
  refine lv_aload_n hx hb dX2_rateFor_0 rfl (lv_at hl 0 rfl) ?_
  refine fx_get (ci := 2) (v := .int (dRow gd (z).toNatClampNeg 2)) hx hb hts i2 hown hK (cwf_D hW hv_z) rfl 2 (by decide) kl31 rfl dX2_rateFor_1 ?_
  refine lv_if_ne (tgt := 9) hx hb dX2_rateFor_4 (by decide) (fun c_4 => ?_) (fun c_4 => ?_)
  · have hf_4 := hf.trans (if_neg c_4)
    refine lv_ldc2 hx hb hown (hts (.constantLong RX2 34 (3)) (by decide +kernel)) dX2_rateFor_9 ?_
    refine lv_iload_n hx hb dX2_rateFor_12 rfl (lv_at hl 1 rfl) ?_
    refine lv_i2l (v := p1.toInt64) hx hb dX2_rateFor_13 rfl ?_
    refine lv_lmul hx hb dX2_rateFor_14 ?_
    refine lv_iload_n hx hb dX2_rateFor_15 rfl (lv_at hl 2 rfl) ?_
    refine lv_i2l (v := p2.toInt64) hx hb dX2_rateFor_16 rfl ?_
    refine lv_lmul hx hb dX2_rateFor_17 ?_
    refine lv_lstore_n (lv' := [(3, .long (((3 : Int64) * p1.toInt64) * p2.toInt64)), (0, .ref (dAd bb (z).toNatClampNeg)), (1, .int (p1)), (2, .int (p2))]) hx hb dX2_rateFor_18 rfl hl (by decide) rfl (fun ls hl => ?_)
    refine lv_ldc2 hx hb hown (hts (.constantLong RX2 36 (5)) (by decide +kernel)) dX2_rateFor_19 ?_
    refine lv_iconst (v := 1) hx hb dX2_rateFor_22 (by decide) ?_
    refine lv_aload_n hx hb dX2_rateFor_23 rfl (lv_at hl 1 rfl) ?_
    refine fx_get (ci := 2) (v := .int (dRow gd (z).toNatClampNeg 3)) hx hb hts i2 hown hK (cwf_D hW hv_z) rfl 3 (by decide) kl7 rfl dX2_rateFor_24 ?_
    refine va_mmax hx hb (hml.trans hl.1.symm) hown (hts (.methodLink RX2 38 Lib.Math.max.name) (by decide +kernel)) (hts (.static Lib.Math.max.name) (by decide +kernel)) (hts (.initialized "java/lang/Math") (by decide +kernel)) (hts (.code Lib.Math.max.name Lib.Math.max.code 2 (some .int)) (by decide +kernel)) (Nat.le_of_ble_eq_true rfl) (Nat.le_of_ble_eq_true rfl) (Nat.le_of_ble_eq_true rfl) (Nat.le_of_ble_eq_true rfl) dX2_rateFor_27 ?_
    refine lv_i2l (v := (if (1 : Int32) < (dRow gd (z).toNatClampNeg 3) then (dRow gd (z).toNatClampNeg 3) else (1 : Int32)).toInt64) hx hb dX2_rateFor_30 rfl ?_
    refine lv_lmul hx hb dX2_rateFor_31 ?_
    refine lv_lstore (lv' := [(5, .long ((5 : Int64) * ((if (1 : Int32) < (dRow gd (z).toNatClampNeg 3) then (dRow gd (z).toNatClampNeg 3) else (1 : Int32)).toInt64))), (3, .long (((3 : Int64) * p1.toInt64) * p2.toInt64)), (0, .ref (dAd bb (z).toNatClampNeg)), (1, .int (p1)), (2, .int (p2))]) hx hb dX2_rateFor_32 hl (by decide) rfl (fun ls hl => ?_)
    refine lv_ldc2 hx hb hown (hts (.constantLong RX2 44 (2147483647)) (by decide +kernel)) dX2_rateFor_34 ?_
    refine lv_ldc2 hx hb hown (hts (.constantLong RX2 46 (2)) (by decide +kernel)) dX2_rateFor_37 ?_
    refine lv_lload_n hx hb dX2_rateFor_40 rfl (lv_at hl 1 rfl) ?_
    refine lv_lmul hx hb dX2_rateFor_41 ?_
    refine lv_lload hx hb dX2_rateFor_42 (lv_at hl 0 rfl) ?_
    refine lv_ladd hx hb dX2_rateFor_44 ?_
    refine lv_ldc2 hx hb hown (hts (.constantLong RX2 46 (2)) (by decide +kernel)) dX2_rateFor_45 ?_
    refine lv_lload hx hb dX2_rateFor_48 (lv_at hl 0 rfl) ?_
    refine lv_lmul hx hb dX2_rateFor_50 ?_
    refine lv_ldiv hx hb dX2_rateFor_51 (rate_ne _) ?_
    refine va_mmin_long hx hb (hml.trans hl.1.symm) hown (hts (.methodLink RX2 48 Lib.MathLoose.min_long.x) (by decide +kernel)) (hts (.static Lib.MathLoose.min_long.x) (by decide +kernel)) (hts (.initialized "java/lang/Math") (by decide +kernel)) (hts (.code Lib.MathLoose.min_long.x Lib.MathLoose.min_long.code 4 (some .long)) (by decide +kernel)) (Nat.le_of_ble_eq_true rfl) (Nat.le_of_ble_eq_true rfl) (Nat.le_of_ble_eq_true rfl) (Nat.le_of_ble_eq_true rfl) dX2_rateFor_52 ?_
    refine lv_l2i (v := (if ((((2 : Int64) * (((3 : Int64) * p1.toInt64) * p2.toInt64)) + ((5 : Int64) * ((if (1 : Int32) < (dRow gd (z).toNatClampNeg 3) then (dRow gd (z).toNatClampNeg 3) else (1 : Int32)).toInt64))) / ((2 : Int64) * ((5 : Int64) * ((if (1 : Int32) < (dRow gd (z).toNatClampNeg 3) then (dRow gd (z).toNatClampNeg 3) else (1 : Int32)).toInt64)))) < (2147483647 : Int64) then ((((2 : Int64) * (((3 : Int64) * p1.toInt64) * p2.toInt64)) + ((5 : Int64) * ((if (1 : Int32) < (dRow gd (z).toNatClampNeg 3) then (dRow gd (z).toNatClampNeg 3) else (1 : Int32)).toInt64))) / ((2 : Int64) * ((5 : Int64) * ((if (1 : Int32) < (dRow gd (z).toNatClampNeg 3) then (dRow gd (z).toNatClampNeg 3) else (1 : Int32)).toInt64)))) else (2147483647 : Int64)).toInt32) hx hb dX2_rateFor_55 rfl ?_
    exact gx_iret hx hb hr rfl hlocks hK (congrArg (Prod.mk ()) hf_4) (u := ()) (v := (if ((((2 : Int64) * (((3 : Int64) * p1.toInt64) * p2.toInt64)) + ((5 : Int64) * ((if (1 : Int32) < (dRow gd (z).toNatClampNeg 3) then (dRow gd (z).toNatClampNeg 3) else (1 : Int32)).toInt64))) / ((2 : Int64) * ((5 : Int64) * ((if (1 : Int32) < (dRow gd (z).toNatClampNeg 3) then (dRow gd (z).toNatClampNeg 3) else (1 : Int32)).toInt64)))) < (2147483647 : Int64) then ((((2 : Int64) * (((3 : Int64) * p1.toInt64) * p2.toInt64)) + ((5 : Int64) * ((if (1 : Int32) < (dRow gd (z).toNatClampNeg 3) then (dRow gd (z).toNatClampNeg 3) else (1 : Int32)).toInt64))) / ((2 : Int64) * ((5 : Int64) * ((if (1 : Int32) < (dRow gd (z).toNatClampNeg 3) then (dRow gd (z).toNatClampNeg 3) else (1 : Int32)).toInt64)))) else (2147483647 : Int64)).toInt32) hW hS dX2_rateFor_56
  · have hf_4 := hf.trans (if_pos c_4)
    refine lv_iload_n hx hb dX2_rateFor_7 rfl (lv_at hl 1 rfl) ?_
    exact gx_iret hx hb hr rfl hlocks hK (congrArg (Prod.mk ()) hf_4) (u := ()) (v := p1) hW hS dX2_rateFor_8
