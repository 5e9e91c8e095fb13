/-! the reference: numbers of ACK -/
theorem okR_mono2 {T T' B B' : Nat} {x : RS} (hT : T' ≤ T) (hB : B' ≤ B) (h : okR T B x) : okR T' B' x := by
  obtain ⟨⟨h1, h2⟩, ⟨h3, h4⟩, h5⟩ := h
  exact ⟨⟨h1, by omega⟩, ⟨h3, by omega⟩, h5⟩
theorem okR_mono {T B B' : Nat} {x : RS} (hB : B' ≤ B) (h : okR T B x) : okR T B' x := okR_mono2 (Nat.le_refl T) hB h
theorem vi_ar2 {c v : Int32} (hc : vp_in c 3) (h1 : 0 ≤ v.toInt) (h2 : ¬ 900 ≤ v) : vp_in ((900 : Int32) * c + v) 2700 := by
  rw [Int32.le_iff_toInt_le, show (900 : Int32).toInt = 900 from rfl] at h2
  obtain ⟨i, hi, e⟩ := vp_in_of hc (by decide)
  obtain ⟨j, hj, e2⟩ := vp_in_of (x := v) (n := 900) (vp_in_iff.mpr (by omega)) (by decide)
  rw [e, e2, show (900 : Int32) = nI 900 from rfl, pk_mul, nI_add]
  exact vp_in_nI (by omega) (by omega)
theorem vi_s900 {v : Int32} (h2 : ¬ 900 ≤ v) (h1 : 0 ≤ v.toInt) : 0 ≤ (v + 1).toInt := by
  rw [Int32.le_iff_toInt_le] at h2
  have h3 : (900 : Int32).toInt = 900 := rfl
  rw [i32_succ (b := 900) (by omega)]
  omega
theorem mu07 : mu32 0 7 = 7 := by decide
theorem vi_7 {v : Int32} (h1 : 0 ≤ v.toInt) (h2 : ¬ 7 ≤ v) : vp_in v 7 := by
  rw [Int32.le_iff_toInt_le, show (7 : Int32).toInt = 7 from rfl] at h2
  rw [vp_in_iff]
  omega
theorem vi_s7 {v : Int32} (h2 : ¬ 7 ≤ v) (h1 : 0 ≤ v.toInt) : 0 ≤ (v + 1).toInt := by
  rw [Int32.le_iff_toInt_le] at h2
  have h3 : (7 : Int32).toInt = 7 := rfl
  rw [i32_succ (b := 7) (by omega)]
  omega
theorem al4 {T B i : Nat} {x : RS} {v : Int32} (hok : okR T B x) (hi : i < 3) (h : ¬ (((x.1 28 i) >>> (v &&& 31)) &&& 1) = 0) (h4 : v = 4) : vp_in (x.1 15 i) 16 := by
  subst h4
  obtain ⟨m, hm, e⟩ := vp_in_of (hok.2.2.2.1 _ hi) (by decide)
  refine okR_pv hok hi (Or.inr (Or.inr ?_))
  rw [e] at h ⊢
  have q : ∀ m : Fin 128, ¬ ((nI m.val >>> ((4 : Int32) &&& 31)) &&& 1) = 0 → ((nI m.val >>> ((4 : Int32) &&& 31)) &&& 1) = 1 := by decide +kernel
  exact q ⟨m, hm⟩ h

def fX11_acknowledge_L72 (p1 : Int32) : Nat → RS → Int32 → RS
  | 0, y, v4 => y
  | k9 + 1, y, v4 => if (900 : Int32) ≤ v4 then (y) else (fX11_acknowledge_L72 p1 k9 (sR y 34 ((((900 : Int32) * p1) + v4).toNatClampNeg) (0)) (v4 + 1))
theorem okX11_acknowledge_L72 {tg bg : Nat} {p1 : Int32} {k8 : Nat} {y : RS} {v4 : Int32} (hok : okR tg bg y) : okR tg bg (fX11_acknowledge_L72 p1 k8 y v4) := by
  induction k8 generalizing y v4 with
  | zero => exact hok
  | succ k9 ih => unfold fX11_acknowledge_L72; split
                  · exact hok
                  · exact ih (okR_sR rfl hok)
def fX11_acknowledge_L4 (p1 : Int32) : Nat → RS → Int32 → Int32 → RS × Int32
  | 0, y, v2, v3 => (y, 0)
  | k9 + 1, y, v2, v3 => if (7 : Int32) ≤ v3 then ((y, v2)) else (if (((y.1 28 p1.toNatClampNeg) >>> (v3 &&& 31)) &&& 1) = 0 then (fX11_acknowledge_L4 p1 k9 y v2 (v3 + 1)) else (if (fX11_mayTake p1 v3 y) = 0 then (fX11_acknowledge_L4 p1 k9 y v2 (v3 + 1)) else (if v3 = 0 then (fX11_acknowledge_L4 p1 k9 (fX11_note 8 p1 v3 (fX11_acknowledge_L72 p1 (mu32 0 900 + 1) (sR (sR (sR y 28 p1.toNatClampNeg ((y.1 28 p1.toNatClampNeg) &&& (((1 : Int32) <<< (v3 &&& 31)) ^^^ (-1)))) 27 p1.toNatClampNeg (0)) 37 p1.toNatClampNeg (0)) 0)) 1 (v3 + 1)) else (fX11_acknowledge_L4 p1 k9 (fX11_note 8 p1 v3 (sR y 28 p1.toNatClampNeg ((y.1 28 p1.toNatClampNeg) &&& (((1 : Int32) <<< (v3 &&& 31)) ^^^ (-1))))) 1 (v3 + 1)))))
def fX11_acknowledge (p1 : Int32) (x : RS) : RS × Int32 := fX11_acknowledge_L4 p1 (mu32 0 7 + 1) x 0 0
set_option maxHeartbeats 4000000 in
set_option maxRecDepth 100000 in
theorem mX11_acknowledge (l : Launch) (E : eE) (rr : Nat) (x : RS) (p1 : Int32) (hc : vp_in p1 3) (tg : Nat) (bg : Nat) (hok : okR tg (bg + 16) x) : Met l yX11_acknowledge wsX11_acknowledge ({ frames := 2, cells := 0, slots := 0, locals := 47 }) (gPre E (rw_ E rr x) [.ref (rr + 0), .int (p1)]) (gQi E (rw_ E rr) (fX11_acknowledge p1 x) (rA rr)) 0 0 (rA rr) := by
  refine Met.ofW (cc := cX11_acknowledge) (maxL := 5) (ret := (some .boolean)) (by decide) rfl ?_
  intro p e s m args below meth c s₁ B hml hv
  obtain ⟨rfl, hW, hK⟩ := hv
  have hx := B.exec
  have hb := B.bytes
  have hr := B.returns
  have hts := atoms_spec (ws := wsX11_acknowledge) B.pre
  have hown : s.vm.findClass RX11 = some m.cls := findClass_of_methodNamed B.named
  have hlocks := B.notSynchronized
  have i11 : ∀ w ∈ wsX110, w ∈ wsX11_acknowledge := by decide +kernel
  have kl89 := hts (.fieldLink RX11 89 "DosePumpModel" "bubble" "[I") (by decide +kernel)
  have kl92 := hts (.fieldLink RX11 92 "DosePumpModel" "alarms" "[I") (by decide +kernel)
  have kl110 := hts (.fieldLink RX11 110 "DosePumpModel" "airs" "[I") (by decide +kernel)
  have kl119 := hts (.fieldLink RX11 119 "DosePumpModel" "airsNow" "[I") (by decide +kernel)
  have hS : va_S (rA rr) s.heap s.heap [] := va_S.rf
  have hl := lv_entry ([.ref (rr + 0), .int (p1)]) (n := 5) (Nat.le_of_ble_eq_true rfl)
  rw [lg_entry_eq]
  generalize (lg_sl ([.ref (rr + 0), .int (p1)]) ++ List.replicate (5 - (lg_sl ([.ref (rr + 0), .int (p1)])).length) Slot.unset).toArray = ls at hl ⊢
  have hl : lv_has ls 5 [(0, .ref (rr + 0)), (1, .int (p1))] := hl
  have I72 : ∀ (k8 : Nat) (H : Heap) (locs : List Loc) (ls : Array Slot) (y : RS) (v3 : Int32) (v4 : Int32), rw_ E rr y H → va_S (rA rr) s.heap H locs → lv_has ls 5 [(0, .ref (rr + 0)), (1, .int (p1)), (2, .int (1)), (3, .int (v3)), (4, .int (v4))] → mu32 v4 900 < k8 ∧ 0 ≤ v4.toInt → (∀ (u : RS) (H : Heap) (locs : List Loc) (ls : Array Slot), fX11_acknowledge_L72 p1 k8 y v4 = u → rw_ E rr u H → va_S (rA rr) s.heap H locs → lv_has ls 5 [(0, .ref (rr + 0)), (1, .int (p1)), (2, .int (1)), (3, .int (v3))] → W p l e (headSpec wsX11_acknowledge { frames := 2, cells := 0, slots := 0, locals := 47 }).room s m ([.ref (rr + 0), .int (p1)] : List Value).toArray below meth c H locs 0 0 (MQ below (gQi E (rw_ E rr) (fX11_acknowledge p1 x) (rA rr)) ([.ref (rr + 0), .int (p1)] : List Value).toArray s 0 0 (rA rr)) (F0 m 100 ls [])) → W p l e (headSpec wsX11_acknowledge { frames := 2, cells := 0, slots := 0, locals := 47 }).room s m ([.ref (rr + 0), .int (p1)] : List Value).toArray below meth c H locs 0 0 (MQ below (gQi E (rw_ E rr) (fX11_acknowledge p1 x) (rA rr)) ([.ref (rr + 0), .int (p1)] : List Value).toArray s 0 0 (rA rr)) (F0 m 72 ls []) := by
    intro k8
    induction k8 with
    | zero =>
      intro H locs ls y v3 v4 hW hS hl hmu KC
      exact absurd hmu (by omega)
    | succ k9 ih =>
      intro H locs ls y v3 v4 hW hS hl hmu KC
      have hf : fX11_acknowledge_L72 p1 (k9 + 1) y v4 = (if (900 : Int32) ≤ v4 then (y) else (fX11_acknowledge_L72 p1 k9 (sR y 34 ((((900 : Int32) * p1) + v4).toNatClampNeg) (0)) (v4 + 1))) := rfl
      refine lv_iload hx hb dX11_acknowledge_72 (lv_at hl 4 rfl) ?_
      refine lv_sipush (v := 900) hx hb dX11_acknowledge_74 (by decide) ?_
      refine lv_icmp_ge (tgt := 100) hx hb dX11_acknowledge_77 (by decide) (fun c_77 => ?_) (fun c_77 => ?_)
      · have hf_77 := hf.trans (if_pos c_77)
        exact KC _ _ _ _ hf_77 hW hS (lv_sub hl [0, 1, 2, 3] rfl)
      · have hf_77 := hf.trans (if_neg c_77)
        refine lv_aload_n hx hb dX11_acknowledge_80 rfl (lv_at hl 0 rfl) ?_
        refine fx_get (ci := 11) (v := .ref (rr + 34)) hx hb hts i11 hown hK (rwc_0 hW) rfl 34 (by decide) kl110 rfl dX11_acknowledge_81 ?_
        refine lv_sipush (v := 900) hx hb dX11_acknowledge_84 (by decide) ?_
        refine lv_iload_n hx hb dX11_acknowledge_87 rfl (lv_at hl 1 rfl) ?_
        refine lv_imul hx hb dX11_acknowledge_88 ?_
        refine lv_iload hx hb dX11_acknowledge_89 (lv_at hl 4 rfl) ?_
        refine lv_iadd hx hb dX11_acknowledge_91 ?_
        refine lv_iconst (v := 0) hx hb dX11_acknowledge_92 (by decide) ?_
        refine fx_ist hx hb hK 0 (rwc_34 hW) (rA_o (o := 34) (by decide)) hS rfl (vi_ar2 hc hmu.2 c_77) dX11_acknowledge_93 (fun H locs hat hne hS => ?_)
        have hW : rw_ E rr (sR y 34 ((((900 : Int32) * p1) + v4).toNatClampNeg) (0)) H := rws_34 (k := ((((900 : Int32) * p1) + v4).toNatClampNeg)) (v := 0) hW hat hne
        refine lv_iinc (v := v4 + 1) (lv' := [(4, .int (v4 + 1)), (0, .ref (rr + 0)), (1, .int (p1)), (2, .int (1)), (3, .int (v3))]) hx hb dX11_acknowledge_94 hl (k := 4) rfl (by first | rfl | decide) (by decide) rfl (fun ls hl => ?_)
        refine lv_goto (tgt := 72) hx hb dX11_acknowledge_97 (by decide) ?_
        exact ih _ _ _ (sR y 34 ((((900 : Int32) * p1) + v4).toNatClampNeg) (0)) v3 (v4 + 1) hW hS (lv_sub hl [1, 2, 3, 4, 0] rfl) ⟨mu32_step c_77 hmu.1, vi_s900 c_77 hmu.2⟩ (fun u H locs ls e hW hS hl => KC u H locs ls (hf_77.trans e) hW hS hl)
  have J4 : ∀ (k8 : Nat) (H : Heap) (locs : List Loc) (ls : Array Slot) (y : RS) (v2 : Int32) (v3 : Int32), rw_ E rr y H → va_S (rA rr) s.heap H locs → lv_has ls 5 [(0, .ref (rr + 0)), (1, .int (p1)), (2, .int (v2)), (3, .int (v3))] → okR tg (bg + 2 * k8) y → mu32 v3 7 < k8 ∧ 0 ≤ v3.toInt ∧ (v2 = 0 ∨ v2 = 1) → fX11_acknowledge p1 x = fX11_acknowledge_L4 p1 k8 y v2 v3 → W p l e (headSpec wsX11_acknowledge { frames := 2, cells := 0, slots := 0, locals := 47 }).room s m ([.ref (rr + 0), .int (p1)] : List Value).toArray below meth c H locs 0 0 (MQ below (gQi E (rw_ E rr) (fX11_acknowledge p1 x) (rA rr)) ([.ref (rr + 0), .int (p1)] : List Value).toArray s 0 0 (rA rr)) (F0 m 4 ls []) := by
    intro k8
    induction k8 with
    | zero =>
      intro H locs ls y v2 v3 hW hS hl hok hmu hf
      exact absurd hmu (by omega)
    | succ k9 ih =>
      intro H locs ls y v2 v3 hW hS hl hok hmu hf
      replace hf : fX11_acknowledge p1 x = (if (7 : Int32) ≤ v3 then ((y, v2)) else (if (((y.1 28 p1.toNatClampNeg) >>> (v3 &&& 31)) &&& 1) = 0 then (fX11_acknowledge_L4 p1 k9 y v2 (v3 + 1)) else (if (fX11_mayTake p1 v3 y) = 0 then (fX11_acknowledge_L4 p1 k9 y v2 (v3 + 1)) else (if v3 = 0 then (fX11_acknowledge_L4 p1 k9 (fX11_note 8 p1 v3 (fX11_acknowledge_L72 p1 (mu32 0 900 + 1) (sR (sR (sR y 28 p1.toNatClampNeg ((y.1 28 p1.toNatClampNeg) &&& (((1 : Int32) <<< (v3 &&& 31)) ^^^ (-1)))) 27 p1.toNatClampNeg (0)) 37 p1.toNatClampNeg (0)) 0)) 1 (v3 + 1)) else (fX11_acknowledge_L4 p1 k9 (fX11_note 8 p1 v3 (sR y 28 p1.toNatClampNeg ((y.1 28 p1.toNatClampNeg) &&& (((1 : Int32) <<< (v3 &&& 31)) ^^^ (-1))))) 1 (v3 + 1)))))) := hf
      refine lv_iload_n hx hb dX11_acknowledge_4 rfl (lv_at hl 3 rfl) ?_
      refine lv_bipush (v := 7) hx hb dX11_acknowledge_5 (by decide) ?_
      refine lv_icmp_ge (tgt := 114) hx hb dX11_acknowledge_7 (by decide) (fun c_7 => ?_) (fun c_7 => ?_)
      · have hf_7 := hf.trans (if_pos c_7)
        refine lv_iload_n hx hb dX11_acknowledge_114 rfl (lv_at hl 2 rfl) ?_
        exact gx_iret hx hb hr (nar_bo hmu.2.2) hlocks hK hf_7 hW hS dX11_acknowledge_115
      · have hf_7 := hf.trans (if_neg c_7)
        refine lv_aload_n hx hb dX11_acknowledge_10 rfl (lv_at hl 0 rfl) ?_
        refine fx_get (ci := 11) (v := .ref (rr + 28)) hx hb hts i11 hown hK (rwc_0 hW) rfl 28 (by decide) kl92 rfl dX11_acknowledge_11 ?_
        refine lv_iload_n hx hb dX11_acknowledge_14 rfl (lv_at hl 1 rfl) ?_
        refine fx_ild hx hb hK 0 (rwc_28 hW) rfl hc dX11_acknowledge_15 ?_
        refine lv_iload_n hx hb dX11_acknowledge_16 rfl (lv_at hl 3 rfl) ?_
        refine lv_ishr hx hb dX11_acknowledge_17 ?_
        refine lv_iconst (v := 1) hx hb dX11_acknowledge_18 (by decide) ?_
        refine lv_iand hx hb dX11_acknowledge_19 ?_
        refine lv_if_eq (tgt := 108) hx hb dX11_acknowledge_20 (by decide) (fun c_20 => ?_) (fun c_20 => ?_)
        · have hf_20 := hf_7.trans (if_pos c_20)
          refine lv_iinc (v := v3 + 1) (lv' := [(3, .int (v3 + 1)), (0, .ref (rr + 0)), (1, .int (p1)), (2, .int (v2))]) hx hb dX11_acknowledge_108 hl (k := 3) rfl (by first | rfl | decide) (by decide) rfl (fun ls hl => ?_)
          refine lv_goto (tgt := 4) hx hb dX11_acknowledge_111 (by decide) ?_
          exact ih _ _ _ y v2 (v3 + 1) hW hS (lv_sub hl [1, 2, 3, 0] rfl) (okR_le (k := 2) hok) ⟨mu32_step c_7 hmu.1, vi_s7 c_7 hmu.2.1, (by first | exact hmu.2.2 | exact Or.inr rfl)⟩ hf_20
        · have hf_20 := hf_7.trans (if_neg c_20)
          refine lv_aload_n hx hb dX11_acknowledge_23 rfl (lv_at hl 0 rfl) ?_
          refine lv_iload_n hx hb dX11_acknowledge_24 rfl (lv_at hl 1 rfl) ?_
          refine lv_iload_n hx hb dX11_acknowledge_25 rfl (lv_at hl 3 rfl) ?_
          refine gx_i (rest := []) ⟨hx, hb, hml, hown, hts⟩ (mX11_mayTake l E rr y p1 v3 hc (fun h => al4 hok (vi_lt hc) c_20 h) _ _ hok) (cwV 2 hts gX11_acknowledge_X11_mayTake rfl rfl rfl (by decide +kernel) ⟨Nat.le_of_ble_eq_true rfl, Nat.le_of_ble_eq_true rfl⟩) hW hK (fx_recv hK (rwc_0 hW) rfl) rfl hl.1 rfl (Nat.le_of_ble_eq_true rfl) dX11_acknowledge_26 ⟨Nat.le_of_ble_eq_true rfl, Nat.le_of_ble_eq_true rfl⟩ hS (fun _ h => h) (fun _ r1 H locs _ e1 hW hS => ?_)
          have e1 : fX11_mayTake p1 v3 y = r1 := e1
          try rw [e1] at hf_20
          refine lv_if_ne (tgt := 35) hx hb dX11_acknowledge_29 (by decide) (fun c_29 => ?_) (fun c_29 => ?_)
          · have hf_29 := hf_20.trans (if_neg c_29)
            refine lv_aload_n hx hb dX11_acknowledge_35 rfl (lv_at hl 0 rfl) ?_
            refine fx_get (ci := 11) (v := .ref (rr + 28)) hx hb hts i11 hown hK (rwc_0 hW) rfl 28 (by decide) kl92 rfl dX11_acknowledge_36 ?_
            refine lv_iload_n hx hb dX11_acknowledge_39 rfl (lv_at hl 1 rfl) ?_
            refine lv_dup2_11 hx hb dX11_acknowledge_40 rfl rfl ?_
            refine fx_ild hx hb hK 0 (rwc_28 hW) rfl hc dX11_acknowledge_41 ?_
            refine lv_iconst (v := 1) hx hb dX11_acknowledge_42 (by decide) ?_
            refine lv_iload_n hx hb dX11_acknowledge_43 rfl (lv_at hl 3 rfl) ?_
            refine lv_ishl hx hb dX11_acknowledge_44 ?_
            refine lv_iconst (v := -1) hx hb dX11_acknowledge_45 (by decide) ?_
            refine lv_ixor hx hb dX11_acknowledge_46 ?_
            refine lv_iand hx hb dX11_acknowledge_47 ?_
            refine fx_ist hx hb hK 0 (rwc_28 hW) (rA_o (o := 28) (by decide)) hS rfl hc dX11_acknowledge_48 (fun H locs hat hne hS => ?_)
            have hW : rw_ E rr (sR y 28 p1.toNatClampNeg ((y.1 28 p1.toNatClampNeg) &&& (((1 : Int32) <<< (v3 &&& 31)) ^^^ (-1)))) H := rws_28 (k := p1.toNatClampNeg) (v := (y.1 28 p1.toNatClampNeg) &&& (((1 : Int32) <<< (v3 &&& 31)) ^^^ (-1))) hW hat hne
            refine lv_iconst (v := 1) hx hb dX11_acknowledge_49 (by decide) ?_
            refine lv_istore_n (lv' := [(2, .int (1)), (0, .ref (rr + 0)), (1, .int (p1)), (3, .int (v3))]) hx hb dX11_acknowledge_50 rfl hl (by decide) rfl (fun ls hl => ?_)
            refine lv_iload_n hx hb dX11_acknowledge_51 rfl (lv_at hl 3 rfl) ?_
            refine lv_if_ne (tgt := 100) hx hb dX11_acknowledge_52 (by decide) (fun c_52 => ?_) (fun c_52 => ?_)
            · have hf_52 := hf_29.trans (if_neg c_52)
              refine lv_aload_n hx hb dX11_acknowledge_100 rfl (lv_at hl 1 rfl) ?_
              refine lv_bipush (v := 8) hx hb dX11_acknowledge_101 (by decide) ?_
              refine lv_iload_n hx hb dX11_acknowledge_103 rfl (lv_at hl 2 rfl) ?_
              refine lv_iload_n hx hb dX11_acknowledge_104 rfl (lv_at hl 3 rfl) ?_
              refine gx_v (rest := []) ⟨hx, hb, hml, hown, hts⟩ (mX11_note l E rr (sR y 28 p1.toNatClampNeg ((y.1 28 p1.toNatClampNeg) &&& (((1 : Int32) <<< (v3 &&& 31)) ^^^ (-1)))) 8 p1 v3 _ _ (okR_out hc (vi_7 hmu.2.1 c_7) hok)) (cwV 3 hts gX11_acknowledge_X11_note rfl rfl rfl (by decide +kernel) ⟨Nat.le_of_ble_eq_true rfl, Nat.le_of_ble_eq_true rfl⟩) hW hK (fx_recv hK (rwc_0 hW) rfl) rfl hl.1 rfl (Nat.le_of_ble_eq_true rfl) dX11_acknowledge_105 ⟨Nat.le_of_ble_eq_true rfl, Nat.le_of_ble_eq_true rfl⟩ hS (fun _ h => h) (fun u2 H locs e2 hW hS => ?_)
              have e2 : fX11_note 8 p1 v3 (sR y 28 p1.toNatClampNeg ((y.1 28 p1.toNatClampNeg) &&& (((1 : Int32) <<< (v3 &&& 31)) ^^^ (-1)))) = u2 := e2
              try rw [e2] at hf_52
              have hk2 : okR tg (bg + 2 * k9) u2 := e2 ▸ (okX11_note (okR_out hc (vi_7 hmu.2.1 c_7) hok))
              refine lv_iinc (v := v3 + 1) (lv' := [(3, .int (v3 + 1)), (2, .int (1)), (0, .ref (rr + 0)), (1, .int (p1))]) hx hb dX11_acknowledge_108 hl (k := 3) rfl (by first | rfl | decide) (by decide) rfl (fun ls hl => ?_)
              refine lv_goto (tgt := 4) hx hb dX11_acknowledge_111 (by decide) ?_
              exact ih _ _ _ u2 1 (v3 + 1) hW hS (lv_sub hl [2, 3, 1, 0] rfl) hk2 ⟨mu32_step c_7 hmu.1, vi_s7 c_7 hmu.2.1, (by first | exact hmu.2.2 | exact Or.inr rfl)⟩ hf_52
            · have hf_52 := hf_29.trans (if_pos c_52)
              refine lv_aload_n hx hb dX11_acknowledge_55 rfl (lv_at hl 1 rfl) ?_
              refine fx_get (ci := 11) (v := .ref (rr + 27)) hx hb hts i11 hown hK (rwc_0 hW) rfl 27 (by decide) kl89 rfl dX11_acknowledge_56 ?_
              refine lv_iload_n hx hb dX11_acknowledge_59 rfl (lv_at hl 2 rfl) ?_
              refine lv_iconst (v := 0) hx hb dX11_acknowledge_60 (by decide) ?_
              refine fx_ist hx hb hK 0 (rwc_27 hW) (rA_o (o := 27) (by decide)) hS rfl hc dX11_acknowledge_61 (fun H locs hat hne hS => ?_)
              have hW : rw_ E rr (sR (sR y 28 p1.toNatClampNeg ((y.1 28 p1.toNatClampNeg) &&& (((1 : Int32) <<< (v3 &&& 31)) ^^^ (-1)))) 27 p1.toNatClampNeg (0)) H := rws_27 (k := p1.toNatClampNeg) (v := 0) hW hat hne
              refine lv_aload_n hx hb dX11_acknowledge_62 rfl (lv_at hl 1 rfl) ?_
              refine fx_get (ci := 11) (v := .ref (rr + 37)) hx hb hts i11 hown hK (rwc_0 hW) rfl 37 (by decide) kl119 rfl dX11_acknowledge_63 ?_
              refine lv_iload_n hx hb dX11_acknowledge_66 rfl (lv_at hl 2 rfl) ?_
              refine lv_iconst (v := 0) hx hb dX11_acknowledge_67 (by decide) ?_
              refine fx_ist hx hb hK 0 (rwc_37 hW) (rA_o (o := 37) (by decide)) hS rfl hc dX11_acknowledge_68 (fun H locs hat hne hS => ?_)
              have hW : rw_ E rr (sR (sR (sR y 28 p1.toNatClampNeg ((y.1 28 p1.toNatClampNeg) &&& (((1 : Int32) <<< (v3 &&& 31)) ^^^ (-1)))) 27 p1.toNatClampNeg (0)) 37 p1.toNatClampNeg (0)) H := rws_37 (k := p1.toNatClampNeg) (v := 0) hW hat hne
              refine lv_iconst (v := 0) hx hb dX11_acknowledge_69 (by decide) ?_
              refine lv_istore (lv' := [(4, .int (0)), (2, .int (1)), (0, .ref (rr + 0)), (1, .int (p1)), (3, .int (v3))]) hx hb dX11_acknowledge_70 hl (by decide) rfl (fun ls hl => ?_)
              refine I72 _ _ _ _ (sR (sR (sR y 28 p1.toNatClampNeg ((y.1 28 p1.toNatClampNeg) &&& (((1 : Int32) <<< (v3 &&& 31)) ^^^ (-1)))) 27 p1.toNatClampNeg (0)) 37 p1.toNatClampNeg (0)) v3 0 hW hS (lv_sub hl [2, 3, 1, 4, 0] rfl) ⟨Nat.lt_succ_self _, Int.le_refl 0⟩ (fun u3 H locs ls e3 hW hS hl => ?_)
              have e3 : fX11_acknowledge_L72 p1 (mu32 0 900 + 1) (sR (sR (sR y 28 p1.toNatClampNeg ((y.1 28 p1.toNatClampNeg) &&& (((1 : Int32) <<< (v3 &&& 31)) ^^^ (-1)))) 27 p1.toNatClampNeg (0)) 37 p1.toNatClampNeg (0)) 0 = u3 := e3
              try rw [e3] at hf_52
              have hk3 : okR tg ((bg + 2 * k9) + 1) u3 := e3 ▸ (okX11_acknowledge_L72 (okR_sR rfl (okR_sR rfl (okR_out hc (vi_7 hmu.2.1 c_7) hok))))
              refine lv_aload_n hx hb dX11_acknowledge_100 rfl (lv_at hl 0 rfl) ?_
              refine lv_bipush (v := 8) hx hb dX11_acknowledge_101 (by decide) ?_
              refine lv_iload_n hx hb dX11_acknowledge_103 rfl (lv_at hl 1 rfl) ?_
              refine lv_iload_n hx hb dX11_acknowledge_104 rfl (lv_at hl 3 rfl) ?_
              refine gx_v (rest := []) ⟨hx, hb, hml, hown, hts⟩ (mX11_note l E rr u3 8 p1 v3 _ _ hk3) (cwV 3 hts gX11_acknowledge_X11_note rfl rfl rfl (by decide +kernel) ⟨Nat.le_of_ble_eq_true rfl, Nat.le_of_ble_eq_true rfl⟩) hW hK (fx_recv hK (rwc_0 hW) rfl) rfl hl.1 rfl (Nat.le_of_ble_eq_true rfl) dX11_acknowledge_105 ⟨Nat.le_of_ble_eq_true rfl, Nat.le_of_ble_eq_true rfl⟩ hS (fun _ h => h) (fun u4 H locs e4 hW hS => ?_)
              have e4 : fX11_note 8 p1 v3 u3 = u4 := e4
              try rw [e4] at hf_52
              have hk4 : okR tg (bg + 2 * k9) u4 := e4 ▸ (okX11_note hk3)
              refine lv_iinc (v := v3 + 1) (lv' := [(3, .int (v3 + 1)), (0, .ref (rr + 0)), (1, .int (p1)), (2, .int (1))]) hx hb dX11_acknowledge_108 hl (k := 3) rfl (by first | rfl | decide) (by decide) rfl (fun ls hl => ?_)
              refine lv_goto (tgt := 4) hx hb dX11_acknowledge_111 (by decide) ?_
              exact ih _ _ _ u4 1 (v3 + 1) hW hS (lv_sub hl [1, 2, 3, 0] rfl) hk4 ⟨mu32_step c_7 hmu.1, vi_s7 c_7 hmu.2.1, (by first | exact hmu.2.2 | exact Or.inr rfl)⟩ hf_52
          · have hf_29 := hf_20.trans (if_pos c_29)
            refine lv_goto (tgt := 108) hx hb dX11_acknowledge_32 (by decide) ?_
            refine lv_iinc (v := v3 + 1) (lv' := [(3, .int (v3 + 1)), (0, .ref (rr + 0)), (1, .int (p1)), (2, .int (v2))]) hx hb dX11_acknowledge_108 hl (k := 3) rfl (by first | rfl | decide) (by decide) rfl (fun ls hl => ?_)
            refine lv_goto (tgt := 4) hx hb dX11_acknowledge_111 (by decide) ?_
            exact ih _ _ _ y v2 (v3 + 1) hW hS (lv_sub hl [1, 2, 3, 0] rfl) (okR_le (k := 2) hok) ⟨mu32_step c_7 hmu.1, vi_s7 c_7 hmu.2.1, (by first | exact hmu.2.2 | exact Or.inr rfl)⟩ hf_29
  have hf : fX11_acknowledge p1 x = (fX11_acknowledge_L4 p1 (mu32 0 7 + 1) x 0 0) := rfl
  refine lv_iconst (v := 0) hx hb dX11_acknowledge_0 (by decide) ?_
  refine lv_istore_n (lv' := [(2, .int (0)), (0, .ref (rr + 0)), (1, .int (p1))]) hx hb dX11_acknowledge_1 rfl hl (by decide) rfl (fun ls hl => ?_)
  refine lv_iconst (v := 0) hx hb dX11_acknowledge_2 (by decide) ?_
  refine lv_istore_n (lv' := [(3, .int (0)), (2, .int (0)), (0, .ref (rr + 0)), (1, .int (p1))]) hx hb dX11_acknowledge_3 rfl hl (by decide) rfl (fun ls hl => ?_)
  exact J4 _ _ _ _ x 0 0 hW hS (lv_sub hl [2, 3, 1, 0] rfl) (by rw [mu07]; exact hok) ⟨Nat.lt_succ_self _, Int.le_refl 0, Or.inl rfl⟩ hf
theorem okX11_acknowledge_L4 {tg bg : Nat} {p1 : Int32} (hc : vp_in p1 3) : ∀ (k8 : Nat) (y : RS) (v2 : Int32) (v3 : Int32), okR tg (bg + 2 * k8) y → 0 ≤ v3.toInt → okR tg bg (fX11_acknowledge_L4 p1 k8 y v2 v3).1 := by
  intro k8
  induction k8 with
  | zero => intro y v2 v3 hok h0; exact okR_mono2 (x := y) (by omega) (by omega) hok
  | succ k9 ih => intro y v2 v3 hok h0; unfold fX11_acknowledge_L4; exact (okR_ite1 (fun c_7 => (okR_mono2 (by omega) (by omega) hok)) (fun c_7 => (okR_ite1 (fun c_20 => (ih _ _ _ (okR_le (k := 2) hok) (vi_s7 c_7 h0))) (fun c_20 => (okR_ite1 (fun c_29 => (ih _ _ _ (okR_le (k := 2) hok) (vi_s7 c_7 h0))) (fun c_29 => (okR_ite1 (fun c_52 => (ih _ _ _ (okX11_note (okX11_acknowledge_L72 (okR_sR rfl (okR_sR rfl (okR_out hc (vi_7 h0 c_7) hok))))) (vi_s7 c_7 h0))) (fun c_52 => (ih _ _ _ (okX11_note (okR_out hc (vi_7 h0 c_7) hok)) (vi_s7 c_7 h0))))))))))
theorem okX11_acknowledge {tg bg : Nat} {p1 : Int32} {x : RS} (hc : vp_in p1 3) (hok : okR tg (bg + 16) x) : okR tg bg (fX11_acknowledge p1 x).1 := by unfold fX11_acknowledge; exact (okX11_acknowledge_L4 hc _ _ _ _ (by rw [mu07]; exact hok) (Int.le_refl 0))
