/-! Journal, Program, Boluses, Entry, Line -/
def fX5_keeps (p1 : Int32) (x : FS) : Int32 := if p1 < 0 then (0) else (if (x.1 3 1) ≤ p1 then (0) else (if p1 < ((x.1 3 1) - 64) then (0) else (1)))
set_option maxHeartbeats 4000000 in
set_option maxRecDepth 100000 in
theorem mX5_keeps (l : Launch) (E : eE) (bb : Nat) (gd : Nat → Nat → Int32) (ch : Nat → Nat → Nat → Int32) (n : Nat) (hn : n < 3) (x : FS) (p1 : Int32) : Met l yX5_keeps wsX5_keeps ({ frames := 0, cells := 0, slots := 0, locals := 0 }) (gPre E (cwf E bb gd ch n x) [.ref (bb + 3), .int (p1)]) (gQi E (fun _ : Unit => cwf E bb gd ch n x) ((), fX5_keeps p1 x) (cA bb)) 0 0 (cA bb) := by
  refine Met.ofW (cc := cX5_keeps) (maxL := 2) (ret := (some .boolean)) (by decide) rfl ?_
  intro p e s m args below meth c s₁ B hml hv
  obtain ⟨rfl, hW, hK⟩ := hv
  have hx := B.exec
  have hb := B.bytes
  have hr := B.returns
  have hts := atoms_spec (ws := wsX5_keeps) B.pre
  have hown : s.vm.findClass RX5 = some m.cls := findClass_of_methodNamed B.named
  have hlocks := B.notSynchronized
  have i5 : ∀ w ∈ wsX50, w ∈ wsX5_keeps := by decide +kernel
  have kl17 := hts (.fieldLink RX5 17 "DosePump$Journal" "count" "I") (by decide +kernel)
  have hS : va_S (cA bb) s.heap s.heap [] := va_S.rf
  have hl := lv_entry ([.ref (bb + 3), .int (p1)]) (n := 2) (Nat.le_of_ble_eq_true rfl)
  rw [lg_entry_eq]
  generalize (lg_sl ([.ref (bb + 3), .int (p1)]) ++ List.replicate (2 - (lg_sl ([.ref (bb + 3), .int (p1)])).length) Slot.unset).toArray = ls at hl ⊢
  have hl : lv_has ls 2 [(0, .ref (bb + 3)), (1, .int (p1))] := hl
  have hf : fX5_keeps p1 x = (if p1 < 0 then (0) else (if (x.1 3 1) ≤ p1 then (0) else (if p1 < ((x.1 3 1) - 64) then (0) else (1)))) := rfl
  refine lv_iload_n hx hb dX5_keeps_0 rfl (lv_at hl 1 rfl) ?_
  refine lv_if_lt (tgt := 27) hx hb dX5_keeps_1 (by decide) (fun c_1 => ?_) (fun c_1 => ?_)
  · have hf_1 := hf.trans (if_pos c_1)
    refine lv_iconst (v := 0) hx hb dX5_keeps_27 (by decide) ?_
    exact gx_iret hx hb hr (by decide) hlocks hK (congrArg (Prod.mk ()) hf_1) (u := ()) (v := 0) hW hS dX5_keeps_28
  · have hf_1 := hf.trans (if_neg c_1)
    refine lv_iload_n hx hb dX5_keeps_4 rfl (lv_at hl 1 rfl) ?_
    refine lv_aload_n hx hb dX5_keeps_5 rfl (lv_at hl 0 rfl) ?_
    refine fx_get (ci := 5) (v := .int (x.1 3 1)) hx hb hts i5 hown hK (cwf_P (o := 3) hW (by decide)) rfl 1 (by decide) kl17 rfl dX5_keeps_6 ?_
    refine lv_icmp_ge (tgt := 27) hx hb dX5_keeps_9 (by decide) (fun c_9 => ?_) (fun c_9 => ?_)
    · have hf_9 := hf_1.trans (if_pos c_9)
      refine lv_iconst (v := 0) hx hb dX5_keeps_27 (by decide) ?_
      exact gx_iret hx hb hr (by decide) hlocks hK (congrArg (Prod.mk ()) hf_9) (u := ()) (v := 0) hW hS dX5_keeps_28
    · have hf_9 := hf_1.trans (if_neg c_9)
      refine lv_iload_n hx hb dX5_keeps_12 rfl (lv_at hl 1 rfl) ?_
      refine lv_aload_n hx hb dX5_keeps_13 rfl (lv_at hl 0 rfl) ?_
      refine fx_get (ci := 5) (v := .int (x.1 3 1)) hx hb hts i5 hown hK (cwf_P (o := 3) hW (by decide)) rfl 1 (by decide) kl17 rfl dX5_keeps_14 ?_
      refine lv_bipush (v := 64) hx hb dX5_keeps_17 (by decide) ?_
      refine lv_isub hx hb dX5_keeps_19 ?_
      refine lv_icmp_lt (tgt := 27) hx hb dX5_keeps_20 (by decide) (fun c_20 => ?_) (fun c_20 => ?_)
      · have hf_20 := hf_9.trans (if_pos c_20)
        refine lv_iconst (v := 0) hx hb dX5_keeps_27 (by decide) ?_
        exact gx_iret hx hb hr (by decide) hlocks hK (congrArg (Prod.mk ()) hf_20) (u := ()) (v := 0) hW hS dX5_keeps_28
      · have hf_20 := hf_9.trans (if_neg c_20)
        refine lv_iconst (v := 1) hx hb dX5_keeps_23 (by decide) ?_
        refine lv_goto (tgt := 28) hx hb dX5_keeps_24 (by decide) ?_
        exact gx_iret hx hb hr (by decide) hlocks hK (congrArg (Prod.mk ()) hf_20) (u := ()) (v := 1) hW hS dX5_keeps_28

def fX5_read (p1 : Int32) (p2 : Int32) (x : FS) : Int32 := x.1 4 ((((p1 &&& 63) * 4) + p2).toNatClampNeg)
set_option maxHeartbeats 4000000 in
set_option maxRecDepth 100000 in
theorem mX5_read (l : Launch) (E : eE) (bb : Nat) (gd : Nat → Nat → Int32) (ch : Nat → Nat → Nat → Int32) (n : Nat) (hn : n < 3) (x : FS) (p1 : Int32) (p2 : Int32) (h2 : vp_in p2 4) : Met l yX5_read wsX5_read ({ frames := 0, cells := 0, slots := 0, locals := 0 }) (gPre E (cwf E bb gd ch n x) [.ref (bb + 3), .int (p1), .int (p2)]) (gQi E (fun _ : Unit => cwf E bb gd ch n x) ((), fX5_read p1 p2 x) (cA bb)) 0 0 (cA bb) := by
  refine Met.ofW (cc := cX5_read) (maxL := 3) (ret := (some .int)) (by decide) rfl ?_
  intro p e s m args below meth c s₁ B hml hv
  obtain ⟨rfl, hW, hK⟩ := hv
  have hx := B.exec
  have hb := B.bytes
  have hr := B.returns
  have hts := atoms_spec (ws := wsX5_read) B.pre
  have hown : s.vm.findClass RX5 = some m.cls := findClass_of_methodNamed B.named
  have hlocks := B.notSynchronized
  have i5 : ∀ w ∈ wsX50, w ∈ wsX5_read := by decide +kernel
  have kl9 := hts (.fieldLink RX5 9 "DosePump$Journal" "cells" "[I") (by decide +kernel)
  have hS : va_S (cA bb) s.heap s.heap [] := va_S.rf
  have hl := lv_entry ([.ref (bb + 3), .int (p1), .int (p2)]) (n := 3) (Nat.le_of_ble_eq_true rfl)
  rw [lg_entry_eq]
  generalize (lg_sl ([.ref (bb + 3), .int (p1), .int (p2)]) ++ List.replicate (3 - (lg_sl ([.ref (bb + 3), .int (p1), .int (p2)])).length) Slot.unset).toArray = ls at hl ⊢
  have hl : lv_has ls 3 [(0, .ref (bb + 3)), (1, .int (p1)), (2, .int (p2))] := hl
  have hf : fX5_read p1 p2 x = (x.1 4 ((((p1 &&& 63) * 4) + p2).toNatClampNeg)) := rfl
  refine lv_aload_n hx hb dX5_read_0 rfl (lv_at hl 0 rfl) ?_
  refine fx_get (ci := 5) (v := .ref (bb + 4)) hx hb hts i5 hown hK (cwf_P (o := 3) hW (by decide)) rfl 0 (by decide) kl9 rfl dX5_read_1 ?_
  refine lv_iload_n hx hb dX5_read_4 rfl (lv_at hl 1 rfl) ?_
  refine lv_bipush (v := 63) hx hb dX5_read_5 (by decide) ?_
  refine lv_iand hx hb dX5_read_7 ?_
  refine lv_iconst (v := 4) hx hb dX5_read_8 (by decide) ?_
  refine lv_imul hx hb dX5_read_9 ?_
  refine lv_iload_n hx hb dX5_read_10 rfl (lv_at hl 2 rfl) ?_
  refine lv_iadd hx hb dX5_read_11 ?_
  refine fx_ild hx hb hK 0 (cwf_P (o := 4) hW (by decide)) rfl (vi_cell h2) dX5_read_12 ?_
  exact gx_iret hx hb hr rfl hlocks hK (congrArg (Prod.mk ()) hf) (u := ()) (v := x.1 4 ((((p1 &&& 63) * 4) + p2).toNatClampNeg)) hW hS dX5_read_13

theorem vi_row {r w : Int32} (h : vp_in r 253) (h1 : 0 ≤ w.toInt) (h2 : ¬ 4 ≤ w) : vp_in (r + w) 256 := by
  rw [vp_in_iff] at h ⊢
  rw [Int32.le_iff_toInt_le, show (4 : Int32).toInt = 4 from rfl] at h2
  rw [i32_add (by omega) (by omega)]
  omega
theorem vi_row0 {c : Int32} : vp_in ((c &&& 63) * 4) 253 := by
  obtain ⟨j, hj, e⟩ := pk_andE c (m := 63) 6 (by decide)
  rw [e, show (4 : Int32) = nI 4 from rfl, pk_mul]
  exact vp_in_nI (by omega) (by omega)
theorem vi_nn {w : Int32} (h2 : ¬ 4 ≤ w) (h1 : 0 ≤ w.toInt) : 0 ≤ (w + 1).toInt := by
  rw [Int32.le_iff_toInt_le] at h2
  have h4 : (4 : Int32).toInt = 4 := rfl
  rw [i32_succ (b := 4) (by omega)]
  omega

def fX5_write_L53 (p1 : Int32) (p2 : Int32) (p3 : Int32) (p4 : Int32) : Nat → FS → Int32 → Int32 → FS
  | 0, y, v5, v6 => y
  | k9 + 1, y, v5, v6 => if (4 : Int32) ≤ v6 then ((sP y 3 1 ((y.1 3 1) + 1))) else (fX5_write_L53 p1 p2 p3 p4 k9 (sL y ((((y.2.2 * 31) + ((y.1 4 ((v5 + v6).toNatClampNeg)).toInt64)) <<< ((7 : Int32).toInt64 &&& 63)) ||| ((((y.2.2 * 31) + ((y.1 4 ((v5 + v6).toNatClampNeg)).toInt64)).toUInt64 >>> ((57 : Int32).toInt64.toUInt64 &&& Int64.toUInt64 63)).toInt64))) v5 (v6 + 1))
def fX5_write (p1 : Int32) (p2 : Int32) (p3 : Int32) (p4 : Int32) (x : FS) : FS := fX5_write_L53 p1 p2 p3 p4 (mu32 0 4 + 1) (sP (sP (sP (sP x 4 ((((x.1 3 1) &&& 63) * 4).toNatClampNeg) (p1)) 4 (((((x.1 3 1) &&& 63) * 4) + 1).toNatClampNeg) (p2)) 4 (((((x.1 3 1) &&& 63) * 4) + 2).toNatClampNeg) (p3)) 4 (((((x.1 3 1) &&& 63) * 4) + 3).toNatClampNeg) (p4)) (((x.1 3 1) &&& 63) * 4) 0
set_option maxHeartbeats 4000000 in
set_option maxRecDepth 100000 in
theorem mX5_write (l : Launch) (E : eE) (bb : Nat) (gd : Nat → Nat → Int32) (ch : Nat → Nat → Nat → Int32) (n : Nat) (hn : n < 3) (x : FS) (p1 : Int32) (p2 : Int32) (p3 : Int32) (p4 : Int32) : Met l yX5_write wsX5_write ({ frames := 0, cells := 0, slots := 0, locals := 0 }) (gPre E (cwf E bb gd ch n x) [.ref (bb + 3), .int (p1), .int (p2), .int (p3), .int (p4)]) (gQv E (cwf E bb gd ch n) (fX5_write p1 p2 p3 p4 x) (cA bb)) 0 0 (cA bb) := by
  refine Met.ofW (cc := cX5_write) (maxL := 9) (ret := none) (by decide) rfl ?_
  intro p e s m args below meth c s₁ B hml hv
  obtain ⟨rfl, hW, hK⟩ := hv
  have hx := B.exec
  have hb := B.bytes
  have hr := B.returns
  have hts := atoms_spec (ws := wsX5_write) B.pre
  have hown : s.vm.findClass RX5 = some m.cls := findClass_of_methodNamed B.named
  have hlocks := B.notSynchronized
  have i5 : ∀ w ∈ wsX50, w ∈ wsX5_write := by decide +kernel
  have kl9 := hts (.fieldLink RX5 9 "DosePump$Journal" "cells" "[I") (by decide +kernel)
  have kl13 := hts (.fieldLink RX5 13 "DosePump$Journal" "links" "J") (by decide +kernel)
  have kl17 := hts (.fieldLink RX5 17 "DosePump$Journal" "count" "I") (by decide +kernel)
  have hS : va_S (cA bb) s.heap s.heap [] := va_S.rf
  have hl := lv_entry ([.ref (bb + 3), .int (p1), .int (p2), .int (p3), .int (p4)]) (n := 9) (Nat.le_of_ble_eq_true rfl)
  rw [lg_entry_eq]
  generalize (lg_sl ([.ref (bb + 3), .int (p1), .int (p2), .int (p3), .int (p4)]) ++ List.replicate (9 - (lg_sl ([.ref (bb + 3), .int (p1), .int (p2), .int (p3), .int (p4)])).length) Slot.unset).toArray = ls at hl ⊢
  have hl : lv_has ls 9 [(0, .ref (bb + 3)), (1, .int (p1)), (2, .int (p2)), (3, .int (p3)), (4, .int (p4))] := hl
  have J53 : ∀ (k8 : Nat) (H : Heap) (locs : List Loc) (ls : Array Slot) (y : FS) (v5 : Int32) (v6 : Int32), cwf E bb gd ch n y H → va_S (cA bb) s.heap H locs → lv_has ls 9 [(0, .ref (bb + 3)), (5, .int (v5)), (6, .int (v6))] → mu32 v6 4 < k8 ∧ 0 ≤ v6.toInt ∧ vp_in v5 253 → fX5_write p1 p2 p3 p4 x = fX5_write_L53 p1 p2 p3 p4 k8 y v5 v6 → W p l e (headSpec wsX5_write { frames := 0, cells := 0, slots := 0, locals := 0 }).room s m ([.ref (bb + 3), .int (p1), .int (p2), .int (p3), .int (p4)] : List Value).toArray below meth c H locs 0 0 (MQ below (gQv E (cwf E bb gd ch n) (fX5_write p1 p2 p3 p4 x) (cA bb)) ([.ref (bb + 3), .int (p1), .int (p2), .int (p3), .int (p4)] : List Value).toArray s 0 0 (cA bb)) (F0 m 53 ls []) := by
    intro k8
    induction k8 with
    | zero =>
      intro H locs ls y v5 v6 hW hS hl hmu hf
      exact absurd hmu (by omega)
    | succ k9 ih =>
      intro H locs ls y v5 v6 hW hS hl hmu hf
      replace hf : fX5_write p1 p2 p3 p4 x = (if (4 : Int32) ≤ v6 then ((sP y 3 1 ((y.1 3 1) + 1))) else (fX5_write_L53 p1 p2 p3 p4 k9 (sL y ((((y.2.2 * 31) + ((y.1 4 ((v5 + v6).toNatClampNeg)).toInt64)) <<< ((7 : Int32).toInt64 &&& 63)) ||| ((((y.2.2 * 31) + ((y.1 4 ((v5 + v6).toNatClampNeg)).toInt64)).toUInt64 >>> ((57 : Int32).toInt64.toUInt64 &&& Int64.toUInt64 63)).toInt64))) v5 (v6 + 1))) := hf
      refine lv_iload hx hb dX5_write_53 (lv_at hl 2 rfl) ?_
      refine lv_iconst (v := 4) hx hb dX5_write_55 (by decide) ?_
      refine lv_icmp_ge (tgt := 102) hx hb dX5_write_56 (by decide) (fun c_56 => ?_) (fun c_56 => ?_)
      · have hf_56 := hf.trans (if_pos c_56)
        refine lv_aload_n hx hb dX5_write_102 rfl (lv_at hl 0 rfl) ?_
        refine lv_dup hx hb dX5_write_103 rfl ?_
        refine fx_get (ci := 5) (v := .int (y.1 3 1)) hx hb hts i5 hown hK (cwf_P (o := 3) hW (by decide)) rfl 1 (by decide) kl17 rfl dX5_write_104 ?_
        refine lv_iconst (v := 1) hx hb dX5_write_107 (by decide) ?_
        refine lv_iadd hx hb dX5_write_108 ?_
        refine fx_put (ci := 5) (v := .int ((y.1 3 1) + 1)) hx hb hts i5 tyX5_ok nmX5 hown hK (cwf_P (o := 3) hW (by decide)) (cA_P (by decide)) hS rfl 1 (by decide) kl17 rfl rfl rfl (Nat.le_of_ble_eq_true rfl) dX5_write_109 (fun H locs hat hne hS => ?_)
        have hW : cwf E bb gd ch n (sP y 3 1 ((y.1 3 1) + 1)) H := cwf_sP (o := 3) (k := 1) (v := (y.1 3 1) + 1) hW (by decide) hat hne
        exact gx_vret hx hb hr hlocks hK hf_56 hW hS dX5_write_112
      · have hf_56 := hf.trans (if_neg c_56)
        refine lv_aload_n hx hb dX5_write_59 rfl (lv_at hl 0 rfl) ?_
        refine fx_get (ci := 5) (v := .long (y.2.2)) hx hb hts i5 hown hK (cwf_P (o := 3) hW (by decide)) rfl 2 (by decide) kl13 rfl dX5_write_60 ?_
        refine lv_ldc2 hx hb hown (hts (.constantLong RX5 21 (31)) (by decide +kernel)) dX5_write_63 ?_
        refine lv_lmul hx hb dX5_write_66 ?_
        refine lv_aload_n hx hb dX5_write_67 rfl (lv_at hl 0 rfl) ?_
        refine fx_get (ci := 5) (v := .ref (bb + 4)) hx hb hts i5 hown hK (cwf_P (o := 3) hW (by decide)) rfl 0 (by decide) kl9 rfl dX5_write_68 ?_
        refine lv_iload hx hb dX5_write_71 (lv_at hl 1 rfl) ?_
        refine lv_iload hx hb dX5_write_73 (lv_at hl 2 rfl) ?_
        refine lv_iadd hx hb dX5_write_75 ?_
        refine fx_ild hx hb hK 0 (cwf_P (o := 4) hW (by decide)) rfl (vi_row hmu.2.2 hmu.2.1 c_56) dX5_write_76 ?_
        refine lv_i2l (v := (y.1 4 ((v5 + v6).toNatClampNeg)).toInt64) hx hb dX5_write_77 rfl ?_
        refine lv_ladd hx hb dX5_write_78 ?_
        refine lv_lstore (lv' := [(7, .long ((y.2.2 * 31) + ((y.1 4 ((v5 + v6).toNatClampNeg)).toInt64))), (0, .ref (bb + 3)), (5, .int (v5)), (6, .int (v6))]) hx hb dX5_write_79 hl (by decide) rfl (fun ls hl => ?_)
        refine lv_aload_n hx hb dX5_write_81 rfl (lv_at hl 1 rfl) ?_
        refine lv_lload hx hb dX5_write_82 (lv_at hl 0 rfl) ?_
        refine lv_bipush (v := 7) hx hb dX5_write_84 (by decide) ?_
        refine lv_lshl (v := ((y.2.2 * 31) + ((y.1 4 ((v5 + v6).toNatClampNeg)).toInt64)) <<< ((7 : Int32).toInt64 &&& 63)) hx hb dX5_write_86 rfl ?_
        refine lv_lload hx hb dX5_write_87 (lv_at hl 0 rfl) ?_
        refine lv_bipush (v := 57) hx hb dX5_write_89 (by decide) ?_
        refine lv_lushr (v := (((y.2.2 * 31) + ((y.1 4 ((v5 + v6).toNatClampNeg)).toInt64)).toUInt64 >>> ((57 : Int32).toInt64.toUInt64 &&& Int64.toUInt64 63)).toInt64) hx hb dX5_write_91 rfl ?_
        refine lv_lor hx hb dX5_write_92 ?_
        refine fx_put (ci := 5) (v := .long ((((y.2.2 * 31) + ((y.1 4 ((v5 + v6).toNatClampNeg)).toInt64)) <<< ((7 : Int32).toInt64 &&& 63)) ||| ((((y.2.2 * 31) + ((y.1 4 ((v5 + v6).toNatClampNeg)).toInt64)).toUInt64 >>> ((57 : Int32).toInt64.toUInt64 &&& Int64.toUInt64 63)).toInt64))) hx hb hts i5 tyX5_ok nmX5 hown hK (cwf_P (o := 3) hW (by decide)) (cA_P (by decide)) hS rfl 2 (by decide) kl13 rfl rfl rfl (Nat.le_of_ble_eq_true rfl) dX5_write_93 (fun H locs hat hne hS => ?_)
        have hW : cwf E bb gd ch n (sL y ((((y.2.2 * 31) + ((y.1 4 ((v5 + v6).toNatClampNeg)).toInt64)) <<< ((7 : Int32).toInt64 &&& 63)) ||| ((((y.2.2 * 31) + ((y.1 4 ((v5 + v6).toNatClampNeg)).toInt64)).toUInt64 >>> ((57 : Int32).toInt64.toUInt64 &&& Int64.toUInt64 63)).toInt64))) H := cwf_sL hW hat hne
        refine lv_iinc (v := v6 + 1) (lv' := [(6, .int (v6 + 1)), (7, .long ((y.2.2 * 31) + ((y.1 4 ((v5 + v6).toNatClampNeg)).toInt64))), (0, .ref (bb + 3)), (5, .int (v5))]) hx hb dX5_write_96 hl (k := 3) rfl (by first | rfl | decide) (by decide) rfl (fun ls hl => ?_)
        refine lv_goto (tgt := 53) hx hb dX5_write_99 (by decide) ?_
        exact ih _ _ _ (sL y ((((y.2.2 * 31) + ((y.1 4 ((v5 + v6).toNatClampNeg)).toInt64)) <<< ((7 : Int32).toInt64 &&& 63)) ||| ((((y.2.2 * 31) + ((y.1 4 ((v5 + v6).toNatClampNeg)).toInt64)).toUInt64 >>> ((57 : Int32).toInt64.toUInt64 &&& Int64.toUInt64 63)).toInt64))) v5 (v6 + 1) hW hS (lv_sub hl [2, 3, 0] rfl) ⟨mu32_step c_56 hmu.1, vi_nn c_56 hmu.2.1, hmu.2.2⟩ hf_56
  have hf : fX5_write p1 p2 p3 p4 x = (fX5_write_L53 p1 p2 p3 p4 (mu32 0 4 + 1) (sP (sP (sP (sP x 4 ((((x.1 3 1) &&& 63) * 4).toNatClampNeg) (p1)) 4 (((((x.1 3 1) &&& 63) * 4) + 1).toNatClampNeg) (p2)) 4 (((((x.1 3 1) &&& 63) * 4) + 2).toNatClampNeg) (p3)) 4 (((((x.1 3 1) &&& 63) * 4) + 3).toNatClampNeg) (p4)) (((x.1 3 1) &&& 63) * 4) 0) := rfl
  refine lv_aload_n hx hb dX5_write_0 rfl (lv_at hl 0 rfl) ?_
  refine fx_get (ci := 5) (v := .int (x.1 3 1)) hx hb hts i5 hown hK (cwf_P (o := 3) hW (by decide)) rfl 1 (by decide) kl17 rfl dX5_write_1 ?_
  refine lv_bipush (v := 63) hx hb dX5_write_4 (by decide) ?_
  refine lv_iand hx hb dX5_write_6 ?_
  refine lv_iconst (v := 4) hx hb dX5_write_7 (by decide) ?_
  refine lv_imul hx hb dX5_write_8 ?_
  refine lv_istore (lv' := [(5, .int (((x.1 3 1) &&& 63) * 4)), (0, .ref (bb + 3)), (1, .int (p1)), (2, .int (p2)), (3, .int (p3)), (4, .int (p4))]) hx hb dX5_write_9 hl (by decide) rfl (fun ls hl => ?_)
  refine lv_aload_n hx hb dX5_write_11 rfl (lv_at hl 1 rfl) ?_
  refine fx_get (ci := 5) (v := .ref (bb + 4)) hx hb hts i5 hown hK (cwf_P (o := 3) hW (by decide)) rfl 0 (by decide) kl9 rfl dX5_write_12 ?_
  refine lv_iload hx hb dX5_write_15 (lv_at hl 0 rfl) ?_
  refine lv_iload_n hx hb dX5_write_17 rfl (lv_at hl 2 rfl) ?_
  refine fx_ist hx hb hK 0 (cwf_P (o := 4) hW (by decide)) (cA_P (by decide)) hS rfl vi_cell0 dX5_write_18 (fun H locs hat hne hS => ?_)
  have hW : cwf E bb gd ch n (sP x 4 ((((x.1 3 1) &&& 63) * 4).toNatClampNeg) (p1)) H := cwf_sP (o := 4) (k := ((((x.1 3 1) &&& 63) * 4).toNatClampNeg)) (v := p1) hW (by decide) hat hne
  refine lv_aload_n hx hb dX5_write_19 rfl (lv_at hl 1 rfl) ?_
  refine fx_get (ci := 5) (v := .ref (bb + 4)) hx hb hts i5 hown hK (cwf_P (o := 3) hW (by decide)) rfl 0 (by decide) kl9 rfl dX5_write_20 ?_
  refine lv_iload hx hb dX5_write_23 (lv_at hl 0 rfl) ?_
  refine lv_iconst (v := 1) hx hb dX5_write_25 (by decide) ?_
  refine lv_iadd hx hb dX5_write_26 ?_
  refine lv_iload_n hx hb dX5_write_27 rfl (lv_at hl 3 rfl) ?_
  refine fx_ist hx hb hK 0 (cwf_P (o := 4) hW (by decide)) (cA_P (by decide)) hS rfl (vi_cell (by unfold vp_in; decide)) dX5_write_28 (fun H locs hat hne hS => ?_)
  have hW : cwf E bb gd ch n (sP (sP x 4 ((((x.1 3 1) &&& 63) * 4).toNatClampNeg) (p1)) 4 (((((x.1 3 1) &&& 63) * 4) + 1).toNatClampNeg) (p2)) H := cwf_sP (o := 4) (k := (((((x.1 3 1) &&& 63) * 4) + 1).toNatClampNeg)) (v := p2) hW (by decide) hat hne
  refine lv_aload_n hx hb dX5_write_29 rfl (lv_at hl 1 rfl) ?_
  refine fx_get (ci := 5) (v := .ref (bb + 4)) hx hb hts i5 hown hK (cwf_P (o := 3) hW (by decide)) rfl 0 (by decide) kl9 rfl dX5_write_30 ?_
  refine lv_iload hx hb dX5_write_33 (lv_at hl 0 rfl) ?_
  refine lv_iconst (v := 2) hx hb dX5_write_35 (by decide) ?_
  refine lv_iadd hx hb dX5_write_36 ?_
  refine lv_iload_n hx hb dX5_write_37 rfl (lv_at hl 4 rfl) ?_
  refine fx_ist hx hb hK 0 (cwf_P (o := 4) hW (by decide)) (cA_P (by decide)) hS rfl (vi_cell (by unfold vp_in; decide)) dX5_write_38 (fun H locs hat hne hS => ?_)
  have hW : cwf E bb gd ch n (sP (sP (sP x 4 ((((x.1 3 1) &&& 63) * 4).toNatClampNeg) (p1)) 4 (((((x.1 3 1) &&& 63) * 4) + 1).toNatClampNeg) (p2)) 4 (((((x.1 3 1) &&& 63) * 4) + 2).toNatClampNeg) (p3)) H := cwf_sP (o := 4) (k := (((((x.1 3 1) &&& 63) * 4) + 2).toNatClampNeg)) (v := p3) hW (by decide) hat hne
  refine lv_aload_n hx hb dX5_write_39 rfl (lv_at hl 1 rfl) ?_
  refine fx_get (ci := 5) (v := .ref (bb + 4)) hx hb hts i5 hown hK (cwf_P (o := 3) hW (by decide)) rfl 0 (by decide) kl9 rfl dX5_write_40 ?_
  refine lv_iload hx hb dX5_write_43 (lv_at hl 0 rfl) ?_
  refine lv_iconst (v := 3) hx hb dX5_write_45 (by decide) ?_
  refine lv_iadd hx hb dX5_write_46 ?_
  refine lv_iload hx hb dX5_write_47 (lv_at hl 5 rfl) ?_
  refine fx_ist hx hb hK 0 (cwf_P (o := 4) hW (by decide)) (cA_P (by decide)) hS rfl (vi_cell (by unfold vp_in; decide)) dX5_write_49 (fun H locs hat hne hS => ?_)
  have hW : cwf E bb gd ch n (sP (sP (sP (sP x 4 ((((x.1 3 1) &&& 63) * 4).toNatClampNeg) (p1)) 4 (((((x.1 3 1) &&& 63) * 4) + 1).toNatClampNeg) (p2)) 4 (((((x.1 3 1) &&& 63) * 4) + 2).toNatClampNeg) (p3)) 4 (((((x.1 3 1) &&& 63) * 4) + 3).toNatClampNeg) (p4)) H := cwf_sP (o := 4) (k := (((((x.1 3 1) &&& 63) * 4) + 3).toNatClampNeg)) (v := p4) hW (by decide) hat hne
  refine lv_iconst (v := 0) hx hb dX5_write_50 (by decide) ?_
  refine lv_istore (lv' := [(6, .int (0)), (5, .int (((x.1 3 1) &&& 63) * 4)), (0, .ref (bb + 3)), (1, .int (p1)), (2, .int (p2)), (3, .int (p3)), (4, .int (p4))]) hx hb dX5_write_51 hl (by decide) rfl (fun ls hl => ?_)
  exact J53 _ _ _ _ (sP (sP (sP (sP x 4 ((((x.1 3 1) &&& 63) * 4).toNatClampNeg) (p1)) 4 (((((x.1 3 1) &&& 63) * 4) + 1).toNatClampNeg) (p2)) 4 (((((x.1 3 1) &&& 63) * 4) + 2).toNatClampNeg) (p3)) 4 (((((x.1 3 1) &&& 63) * 4) + 3).toNatClampNeg) (p4)) (((x.1 3 1) &&& 63) * 4) 0 hW hS (lv_sub hl [2, 1, 0] rfl) ⟨Nat.lt_succ_self _, Int.le_refl 0, vi_row0⟩ hf

theorem okX5_write {p1 p2 p3 p4 : Int32} {x : FS} (hok : okF x) : okF (fX5_write p1 p2 p3 p4 x) := by
  have key : ∀ (k : Nat) (y : FS) (v w : Int32), okF y → okF (fX5_write_L53 p1 p2 p3 p4 k y v w) := by
    intro k
    induction k with
    | zero => intro y v w hok; exact hok
    | succ k ih =>
      intro y v w hok
      unfold fX5_write_L53
      split
      · exact hok
      · exact ih _ _ _ hok
  exact key _ _ _ _ hok

def fX7_renew_J23 (z : Int32) (p2 : Int32) (p3 : Int32) (y : FS) (w0 : Int32) : FS := (sC (sC (sC y 4 2 (w0)) 4 3 (0)) 4 4 (0))
def fX7_renew (z : Int32) (p2 : Int32) (p3 : Int32) (x : FS) : FS := if p3 = 0 then (fX7_renew_J23 z p2 p3 (sC (sC x 4 0 (z)) 4 1 (p2)) (-1)) else (fX7_renew_J23 z p2 p3 (sC (sC x 4 0 (z)) 4 1 (p2)) (p3 * 10))
set_option maxHeartbeats 4000000 in
set_option maxRecDepth 100000 in
theorem mX7_renew (l : Launch) (E : eE) (bb : Nat) (gd : Nat → Nat → Int32) (ch : Nat → Nat → Nat → Int32) (n : Nat) (hn : n < 3) (x : FS) (z : Int32) (p2 : Int32) (p3 : Int32) : Met l yX7_renew wsX7_renew ({ frames := 0, cells := 0, slots := 0, locals := 0 }) (gPre E (cwf E bb gd ch n x) [.ref (bb + 21 + 14 * n + 4), .ref (dAd bb (z).toNatClampNeg), .int (p2), .int (p3)]) (gQv E (cwf E bb gd ch n) (fX7_renew z p2 p3 x) (cA bb)) 0 0 (cA bb) := by
  refine Met.ofW (cc := cX7_renew) (maxL := 4) (ret := none) (by decide) rfl ?_
  intro p e s m args below meth c s₁ B hml hv
  obtain ⟨rfl, hW, hK⟩ := hv
  have hx := B.exec
  have hb := B.bytes
  have hr := B.returns
  have hts := atoms_spec (ws := wsX7_renew) B.pre
  have hown : s.vm.findClass RX7 = some m.cls := findClass_of_methodNamed B.named
  have hlocks := B.notSynchronized
  have i7 : ∀ w ∈ wsX70, w ∈ wsX7_renew := by decide +kernel
  have kl14 := hts (.fieldLink RX7 14 "DosePump$Program" "drug" "LDosePump$Drug;") (by decide +kernel)
  have kl20 := hts (.fieldLink RX7 20 "DosePump$Program" "left" "I") (by decide +kernel)
  have kl24 := hts (.fieldLink RX7 24 "DosePump$Program" "rate" "I") (by decide +kernel)
  have kl27 := hts (.fieldLink RX7 27 "DosePump$Program" "made" "I") (by decide +kernel)
  have kl30 := hts (.fieldLink RX7 30 "DosePump$Program" "debt" "I") (by decide +kernel)
  have hS : va_S (cA bb) s.heap s.heap [] := va_S.rf
  have hl := lv_entry ([.ref (bb + 21 + 14 * n + 4), .ref (dAd bb (z).toNatClampNeg), .int (p2), .int (p3)]) (n := 4) (Nat.le_of_ble_eq_true rfl)
  rw [lg_entry_eq]
  generalize (lg_sl ([.ref (bb + 21 + 14 * n + 4), .ref (dAd bb (z).toNatClampNeg), .int (p2), .int (p3)]) ++ List.replicate (4 - (lg_sl ([.ref (bb + 21 + 14 * n + 4), .ref (dAd bb (z).toNatClampNeg), .int (p2), .int (p3)])).length) Slot.unset).toArray = ls at hl ⊢
  have hl : lv_has ls 4 [(0, .ref (bb + 21 + 14 * n + 4)), (1, .ref (dAd bb (z).toNatClampNeg)), (2, .int (p2)), (3, .int (p3))] := hl
  have J23 : ∀ (H : Heap) (locs : List Loc) (ls : Array Slot) (y : FS) (w0 : Int32), cwf E bb gd ch n y H → va_S (cA bb) s.heap H locs → lv_has ls 4 [(0, .ref (bb + 21 + 14 * n + 4))] → fX7_renew z p2 p3 x = fX7_renew_J23 z p2 p3 y w0 → W p l e (headSpec wsX7_renew { frames := 0, cells := 0, slots := 0, locals := 0 }).room s m ([.ref (bb + 21 + 14 * n + 4), .ref (dAd bb (z).toNatClampNeg), .int (p2), .int (p3)] : List Value).toArray below meth c H locs 0 0 (MQ below (gQv E (cwf E bb gd ch n) (fX7_renew z p2 p3 x) (cA bb)) ([.ref (bb + 21 + 14 * n + 4), .ref (dAd bb (z).toNatClampNeg), .int (p2), .int (p3)] : List Value).toArray s 0 0 (cA bb)) (F0 m 23 ls [.int (w0), .ref (bb + 21 + 14 * n + 4)]) := by
    intro H locs ls y w0 hW hS hl hf
    replace hf : fX7_renew z p2 p3 x = ((sC (sC (sC y 4 2 (w0)) 4 3 (0)) 4 4 (0))) := hf
    refine fx_put (ci := 7) (v := .int (w0)) hx hb hts i7 tyX7_ok nmX7 hown hK (cwf_C (o := 4) hW hn (by decide)) (cA_C hn (by decide)) hS rfl 2 (by decide) kl20 rfl rfl rfl (Nat.le_of_ble_eq_true rfl) dX7_renew_23 (fun H locs hat hne hS => ?_)
    have hW : cwf E bb gd ch n (sC y 4 2 (w0)) H := cwf_sC (o := 4) (k := 2) (v := w0) hW hn (by decide) hat hne
    refine lv_aload_n hx hb dX7_renew_26 rfl (lv_at hl 0 rfl) ?_
    refine lv_iconst (v := 0) hx hb dX7_renew_27 (by decide) ?_
    refine fx_put (ci := 7) (v := .int (0)) hx hb hts i7 tyX7_ok nmX7 hown hK (cwf_C (o := 4) hW hn (by decide)) (cA_C hn (by decide)) hS rfl 3 (by decide) kl27 rfl rfl rfl (Nat.le_of_ble_eq_true rfl) dX7_renew_28 (fun H locs hat hne hS => ?_)
    have hW : cwf E bb gd ch n (sC (sC y 4 2 (w0)) 4 3 (0)) H := cwf_sC (o := 4) (k := 3) (v := 0) hW hn (by decide) hat hne
    refine lv_aload_n hx hb dX7_renew_31 rfl (lv_at hl 0 rfl) ?_
    refine lv_iconst (v := 0) hx hb dX7_renew_32 (by decide) ?_
    refine fx_put (ci := 7) (v := .int (0)) hx hb hts i7 tyX7_ok nmX7 hown hK (cwf_C (o := 4) hW hn (by decide)) (cA_C hn (by decide)) hS rfl 4 (by decide) kl30 rfl rfl rfl (Nat.le_of_ble_eq_true rfl) dX7_renew_33 (fun H locs hat hne hS => ?_)
    have hW : cwf E bb gd ch n (sC (sC (sC y 4 2 (w0)) 4 3 (0)) 4 4 (0)) H := cwf_sC (o := 4) (k := 4) (v := 0) hW hn (by decide) hat hne
    exact gx_vret hx hb hr hlocks hK hf hW hS dX7_renew_36
  have hf : fX7_renew z p2 p3 x = (if p3 = 0 then (fX7_renew_J23 z p2 p3 (sC (sC x 4 0 (z)) 4 1 (p2)) (-1)) else (fX7_renew_J23 z p2 p3 (sC (sC x 4 0 (z)) 4 1 (p2)) (p3 * 10))) := rfl
  refine lv_aload_n hx hb dX7_renew_0 rfl (lv_at hl 0 rfl) ?_
  refine lv_aload_n hx hb dX7_renew_1 rfl (lv_at hl 1 rfl) ?_
  refine fx_put (ci := 7) (v := .ref (dAd bb (z).toNatClampNeg)) hx hb hts i7 tyX7_ok nmX7 hown hK (cwf_C (o := 4) hW hn (by decide)) (cA_C hn (by decide)) hS rfl 0 (by decide) kl14 rfl rfl rfl (Nat.le_of_ble_eq_true rfl) dX7_renew_2 (fun H locs hat hne hS => ?_)
  have hW : cwf E bb gd ch n (sC x 4 0 (z)) H := cwf_sC (o := 4) (k := 0) (v := z) hW hn (by decide) hat hne
  refine lv_aload_n hx hb dX7_renew_5 rfl (lv_at hl 0 rfl) ?_
  refine lv_iload_n hx hb dX7_renew_6 rfl (lv_at hl 2 rfl) ?_
  refine fx_put (ci := 7) (v := .int (p2)) hx hb hts i7 tyX7_ok nmX7 hown hK (cwf_C (o := 4) hW hn (by decide)) (cA_C hn (by decide)) hS rfl 1 (by decide) kl24 rfl rfl rfl (Nat.le_of_ble_eq_true rfl) dX7_renew_7 (fun H locs hat hne hS => ?_)
  have hW : cwf E bb gd ch n (sC (sC x 4 0 (z)) 4 1 (p2)) H := cwf_sC (o := 4) (k := 1) (v := p2) hW hn (by decide) hat hne
  refine lv_aload_n hx hb dX7_renew_10 rfl (lv_at hl 0 rfl) ?_
  refine lv_iload_n hx hb dX7_renew_11 rfl (lv_at hl 3 rfl) ?_
  refine lv_if_ne (tgt := 19) hx hb dX7_renew_12 (by decide) (fun c_12 => ?_) (fun c_12 => ?_)
  · have hf_12 := hf.trans (if_neg c_12)
    refine lv_iload_n hx hb dX7_renew_19 rfl (lv_at hl 3 rfl) ?_
    refine lv_bipush (v := 10) hx hb dX7_renew_20 (by decide) ?_
    refine lv_imul hx hb dX7_renew_22 ?_
    exact J23 _ _ _ (sC (sC x 4 0 (z)) 4 1 (p2)) (p3 * 10) hW hS (lv_sub hl [0] rfl) hf_12
  · have hf_12 := hf.trans (if_pos c_12)
    refine lv_iconst (v := -1) hx hb dX7_renew_15 (by decide) ?_
    refine lv_goto (tgt := 23) hx hb dX7_renew_16 (by decide) ?_
    exact J23 _ _ _ (sC (sC x 4 0 (z)) 4 1 (p2)) (-1) hW hS (lv_sub hl [0] rfl) hf_12

theorem okX7_renew {z p2 p3 : Int32} {x : FS} (hz : vp_in z 22) (hok : okF x) : okF (fX7_renew z p2 p3 x) := by
  unfold fX7_renew
  split <;> exact ⟨hok.1, hok.2.1, hok.2.2.1, hok.2.2.2.1, hok.2.2.2.2.1, hok.2.2.2.2.2.1, hz⟩

def fX7_strokesDue (x : FS) : FS × Int32 := ((sC (sC x 4 4 ((x.2.1 4 4) + (x.2.1 4 1))) 4 4 (((x.2.1 4 4) + (x.2.1 4 1)) - ((x.2.1 4 4) + (x.2.1 4 1)) / 360 * 360)), ((x.2.1 4 4) + (x.2.1 4 1)) / 360)
set_option maxHeartbeats 4000000 in
set_option maxRecDepth 100000 in
theorem mX7_strokesDue (l : Launch) (E : eE) (bb : Nat) (gd : Nat → Nat → Int32) (ch : Nat → Nat → Nat → Int32) (n : Nat) (hn : n < 3) (x : FS) : Met l yX7_strokesDue wsX7_strokesDue ({ frames := 0, cells := 0, slots := 0, locals := 0 }) (gPre E (cwf E bb gd ch n x) [.ref (bb + 21 + 14 * n + 4)]) (gQi E (cwf E bb gd ch n) (fX7_strokesDue x) (cA bb)) 0 0 (cA bb) := by
  refine Met.ofW (cc := cX7_strokesDue) (maxL := 2) (ret := (some .int)) (by decide) rfl ?_
  intro p e s m args below meth c s₁ B hml hv
  obtain ⟨rfl, hW, hK⟩ := hv
  have hx := B.exec
  have hb := B.bytes
  have hr := B.returns
  have hts := atoms_spec (ws := wsX7_strokesDue) B.pre
  have hown : s.vm.findClass RX7 = some m.cls := findClass_of_methodNamed B.named
  have hlocks := B.notSynchronized
  have i7 : ∀ w ∈ wsX70, w ∈ wsX7_strokesDue := by decide +kernel
  have kl24 := hts (.fieldLink RX7 24 "DosePump$Program" "rate" "I") (by decide +kernel)
  have kl30 := hts (.fieldLink RX7 30 "DosePump$Program" "debt" "I") (by decide +kernel)
  have hS : va_S (cA bb) s.heap s.heap [] := va_S.rf
  have hl := lv_entry ([.ref (bb + 21 + 14 * n + 4)]) (n := 2) (Nat.le_of_ble_eq_true rfl)
  rw [lg_entry_eq]
  generalize (lg_sl ([.ref (bb + 21 + 14 * n + 4)]) ++ List.replicate (2 - (lg_sl ([.ref (bb + 21 + 14 * n + 4)])).length) Slot.unset).toArray = ls at hl ⊢
  have hl : lv_has ls 2 [(0, .ref (bb + 21 + 14 * n + 4))] := hl
  have hf : fX7_strokesDue x = (((sC (sC x 4 4 ((x.2.1 4 4) + (x.2.1 4 1))) 4 4 (((x.2.1 4 4) + (x.2.1 4 1)) - ((x.2.1 4 4) + (x.2.1 4 1)) / 360 * 360)), ((x.2.1 4 4) + (x.2.1 4 1)) / 360)) := rfl
  refine lv_aload_n hx hb dX7_strokesDue_0 rfl (lv_at hl 0 rfl) ?_
  refine lv_dup hx hb dX7_strokesDue_1 rfl ?_
  refine fx_get (ci := 7) (v := .int (x.2.1 4 4)) hx hb hts i7 hown hK (cwf_C (o := 4) hW hn (by decide)) rfl 4 (by decide) kl30 rfl dX7_strokesDue_2 ?_
  refine lv_aload_n hx hb dX7_strokesDue_5 rfl (lv_at hl 0 rfl) ?_
  refine fx_get (ci := 7) (v := .int (x.2.1 4 1)) hx hb hts i7 hown hK (cwf_C (o := 4) hW hn (by decide)) rfl 1 (by decide) kl24 rfl dX7_strokesDue_6 ?_
  refine lv_iadd hx hb dX7_strokesDue_9 ?_
  refine fx_put (ci := 7) (v := .int ((x.2.1 4 4) + (x.2.1 4 1))) hx hb hts i7 tyX7_ok nmX7 hown hK (cwf_C (o := 4) hW hn (by decide)) (cA_C hn (by decide)) hS rfl 4 (by decide) kl30 rfl rfl rfl (Nat.le_of_ble_eq_true rfl) dX7_strokesDue_10 (fun H locs hat hne hS => ?_)
  have hW : cwf E bb gd ch n (sC x 4 4 ((x.2.1 4 4) + (x.2.1 4 1))) H := cwf_sC (o := 4) (k := 4) (v := (x.2.1 4 4) + (x.2.1 4 1)) hW hn (by decide) hat hne
  refine lv_aload_n hx hb dX7_strokesDue_13 rfl (lv_at hl 0 rfl) ?_
  refine fx_get (ci := 7) (v := .int ((x.2.1 4 4) + (x.2.1 4 1))) hx hb hts i7 hown hK (cwf_C (o := 4) hW hn (by decide)) rfl 4 (by decide) kl30 rfl dX7_strokesDue_14 ?_
  refine lv_sipush (v := 360) hx hb dX7_strokesDue_17 (by decide) ?_
  refine lv_idiv hx hb dX7_strokesDue_20 (by decide) ?_
  refine lv_istore_n (lv' := [(1, .int (((x.2.1 4 4) + (x.2.1 4 1)) / 360)), (0, .ref (bb + 21 + 14 * n + 4))]) hx hb dX7_strokesDue_21 rfl hl (by decide) rfl (fun ls hl => ?_)
  refine lv_aload_n hx hb dX7_strokesDue_22 rfl (lv_at hl 1 rfl) ?_
  refine lv_dup hx hb dX7_strokesDue_23 rfl ?_
  refine fx_get (ci := 7) (v := .int ((x.2.1 4 4) + (x.2.1 4 1))) hx hb hts i7 hown hK (cwf_C (o := 4) hW hn (by decide)) rfl 4 (by decide) kl30 rfl dX7_strokesDue_24 ?_
  refine lv_sipush (v := 360) hx hb dX7_strokesDue_27 (by decide) ?_
  refine lv_irem hx hb dX7_strokesDue_30 (by decide) ?_
  refine fx_put (ci := 7) (v := .int (((x.2.1 4 4) + (x.2.1 4 1)) - ((x.2.1 4 4) + (x.2.1 4 1)) / 360 * 360)) hx hb hts i7 tyX7_ok nmX7 hown hK (cwf_C (o := 4) hW hn (by decide)) (cA_C hn (by decide)) hS rfl 4 (by decide) kl30 rfl rfl rfl (Nat.le_of_ble_eq_true rfl) dX7_strokesDue_31 (fun H locs hat hne hS => ?_)
  have hW : cwf E bb gd ch n (sC (sC x 4 4 ((x.2.1 4 4) + (x.2.1 4 1))) 4 4 (((x.2.1 4 4) + (x.2.1 4 1)) - ((x.2.1 4 4) + (x.2.1 4 1)) / 360 * 360)) H := cwf_sC (o := 4) (k := 4) (v := ((x.2.1 4 4) + (x.2.1 4 1)) - ((x.2.1 4 4) + (x.2.1 4 1)) / 360 * 360) hW hn (by decide) hat hne
  refine lv_iload_n hx hb dX7_strokesDue_34 rfl (lv_at hl 0 rfl) ?_
  exact gx_iret hx hb hr rfl hlocks hK hf hW hS dX7_strokesDue_35

def fX7_countStroke (x : FS) : FS × Int32 := if (x.2.1 4 2) = (-1) then (((sC x 4 3 ((x.2.1 4 3) + 1)), 0)) else (if ((x.2.1 4 2) - 1) = 0 then (((sC (sC x 4 3 ((x.2.1 4 3) + 1)) 4 2 ((x.2.1 4 2) - 1)), 1)) else (((sC (sC x 4 3 ((x.2.1 4 3) + 1)) 4 2 ((x.2.1 4 2) - 1)), 0)))
set_option maxHeartbeats 4000000 in
set_option maxRecDepth 100000 in
theorem mX7_countStroke (l : Launch) (E : eE) (bb : Nat) (gd : Nat → Nat → Int32) (ch : Nat → Nat → Nat → Int32) (n : Nat) (hn : n < 3) (x : FS) : Met l yX7_countStroke wsX7_countStroke ({ frames := 0, cells := 0, slots := 0, locals := 0 }) (gPre E (cwf E bb gd ch n x) [.ref (bb + 21 + 14 * n + 4)]) (gQi E (cwf E bb gd ch n) (fX7_countStroke x) (cA bb)) 0 0 (cA bb) := by
  refine Met.ofW (cc := cX7_countStroke) (maxL := 1) (ret := (some .boolean)) (by decide) rfl ?_
  intro p e s m args below meth c s₁ B hml hv
  obtain ⟨rfl, hW, hK⟩ := hv
  have hx := B.exec
  have hb := B.bytes
  have hr := B.returns
  have hts := atoms_spec (ws := wsX7_countStroke) B.pre
  have hown : s.vm.findClass RX7 = some m.cls := findClass_of_methodNamed B.named
  have hlocks := B.notSynchronized
  have i7 : ∀ w ∈ wsX70, w ∈ wsX7_countStroke := by decide +kernel
  have kl20 := hts (.fieldLink RX7 20 "DosePump$Program" "left" "I") (by decide +kernel)
  have kl27 := hts (.fieldLink RX7 27 "DosePump$Program" "made" "I") (by decide +kernel)
  have hS : va_S (cA bb) s.heap s.heap [] := va_S.rf
  have hl := lv_entry ([.ref (bb + 21 + 14 * n + 4)]) (n := 1) (Nat.le_of_ble_eq_true rfl)
  rw [lg_entry_eq]
  generalize (lg_sl ([.ref (bb + 21 + 14 * n + 4)]) ++ List.replicate (1 - (lg_sl ([.ref (bb + 21 + 14 * n + 4)])).length) Slot.unset).toArray = ls at hl ⊢
  have hl : lv_has ls 1 [(0, .ref (bb + 21 + 14 * n + 4))] := hl
  have hf : fX7_countStroke x = (if (x.2.1 4 2) = (-1) then (((sC x 4 3 ((x.2.1 4 3) + 1)), 0)) else (if ((x.2.1 4 2) - 1) = 0 then (((sC (sC x 4 3 ((x.2.1 4 3) + 1)) 4 2 ((x.2.1 4 2) - 1)), 1)) else (((sC (sC x 4 3 ((x.2.1 4 3) + 1)) 4 2 ((x.2.1 4 2) - 1)), 0)))) := rfl
  refine lv_aload_n hx hb dX7_countStroke_0 rfl (lv_at hl 0 rfl) ?_
  refine lv_dup hx hb dX7_countStroke_1 rfl ?_
  refine fx_get (ci := 7) (v := .int (x.2.1 4 3)) hx hb hts i7 hown hK (cwf_C (o := 4) hW hn (by decide)) rfl 3 (by decide) kl27 rfl dX7_countStroke_2 ?_
  refine lv_iconst (v := 1) hx hb dX7_countStroke_5 (by decide) ?_
  refine lv_iadd hx hb dX7_countStroke_6 ?_
  refine fx_put (ci := 7) (v := .int ((x.2.1 4 3) + 1)) hx hb hts i7 tyX7_ok nmX7 hown hK (cwf_C (o := 4) hW hn (by decide)) (cA_C hn (by decide)) hS rfl 3 (by decide) kl27 rfl rfl rfl (Nat.le_of_ble_eq_true rfl) dX7_countStroke_7 (fun H locs hat hne hS => ?_)
  have hW : cwf E bb gd ch n (sC x 4 3 ((x.2.1 4 3) + 1)) H := cwf_sC (o := 4) (k := 3) (v := (x.2.1 4 3) + 1) hW hn (by decide) hat hne
  refine lv_aload_n hx hb dX7_countStroke_10 rfl (lv_at hl 0 rfl) ?_
  refine fx_get (ci := 7) (v := .int (x.2.1 4 2)) hx hb hts i7 hown hK (cwf_C (o := 4) hW hn (by decide)) rfl 2 (by decide) kl20 rfl dX7_countStroke_11 ?_
  refine lv_iconst (v := -1) hx hb dX7_countStroke_14 (by decide) ?_
  refine lv_icmp_ne (tgt := 20) hx hb dX7_countStroke_15 (by decide) (fun c_15 => ?_) (fun c_15 => ?_)
  · have hf_15 := hf.trans (if_neg c_15)
    refine lv_aload_n hx hb dX7_countStroke_20 rfl (lv_at hl 0 rfl) ?_
    refine lv_dup hx hb dX7_countStroke_21 rfl ?_
    refine fx_get (ci := 7) (v := .int (x.2.1 4 2)) hx hb hts i7 hown hK (cwf_C (o := 4) hW hn (by decide)) rfl 2 (by decide) kl20 rfl dX7_countStroke_22 ?_
    refine lv_iconst (v := 1) hx hb dX7_countStroke_25 (by decide) ?_
    refine lv_isub hx hb dX7_countStroke_26 ?_
    refine fx_put (ci := 7) (v := .int ((x.2.1 4 2) - 1)) hx hb hts i7 tyX7_ok nmX7 hown hK (cwf_C (o := 4) hW hn (by decide)) (cA_C hn (by decide)) hS rfl 2 (by decide) kl20 rfl rfl rfl (Nat.le_of_ble_eq_true rfl) dX7_countStroke_27 (fun H locs hat hne hS => ?_)
    have hW : cwf E bb gd ch n (sC (sC x 4 3 ((x.2.1 4 3) + 1)) 4 2 ((x.2.1 4 2) - 1)) H := cwf_sC (o := 4) (k := 2) (v := (x.2.1 4 2) - 1) hW hn (by decide) hat hne
    refine lv_aload_n hx hb dX7_countStroke_30 rfl (lv_at hl 0 rfl) ?_
    refine fx_get (ci := 7) (v := .int ((x.2.1 4 2) - 1)) hx hb hts i7 hown hK (cwf_C (o := 4) hW hn (by decide)) rfl 2 (by decide) kl20 rfl dX7_countStroke_31 ?_
    refine lv_if_ne (tgt := 41) hx hb dX7_countStroke_34 (by decide) (fun c_34 => ?_) (fun c_34 => ?_)
    · have hf_34 := hf_15.trans (if_neg c_34)
      refine lv_iconst (v := 0) hx hb dX7_countStroke_41 (by decide) ?_
      exact gx_iret hx hb hr (by decide) hlocks hK hf_34 hW hS dX7_countStroke_42
    · have hf_34 := hf_15.trans (if_pos c_34)
      refine lv_iconst (v := 1) hx hb dX7_countStroke_37 (by decide) ?_
      refine lv_goto (tgt := 42) hx hb dX7_countStroke_38 (by decide) ?_
      exact gx_iret hx hb hr (by decide) hlocks hK hf_34 hW hS dX7_countStroke_42
  · have hf_15 := hf.trans (if_pos c_15)
    refine lv_iconst (v := 0) hx hb dX7_countStroke_18 (by decide) ?_
    exact gx_iret hx hb hr (by decide) hlocks hK hf_15 hW hS dX7_countStroke_19

def fX7_keepOpen (x : FS) : FS := (sC (sC x 4 1 (if (10 : Int32) < (x.2.1 4 1) then (10 : Int32) else (x.2.1 4 1))) 4 2 (-1))
set_option maxHeartbeats 4000000 in
set_option maxRecDepth 100000 in
theorem mX7_keepOpen (l : Launch) (E : eE) (bb : Nat) (gd : Nat → Nat → Int32) (ch : Nat → Nat → Nat → Int32) (n : Nat) (hn : n < 3) (x : FS) : Met l yX7_keepOpen wsX7_keepOpen ({ frames := 1, cells := 0, slots := 0, locals := 21 }) (gPre E (cwf E bb gd ch n x) [.ref (bb + 21 + 14 * n + 4)]) (gQv E (cwf E bb gd ch n) (fX7_keepOpen x) (cA bb)) 0 0 (cA bb) := by
  refine Met.ofW (cc := cX7_keepOpen) (maxL := 1) (ret := none) (by decide) rfl ?_
  intro p e s m args below meth c s₁ B hml hv
  obtain ⟨rfl, hW, hK⟩ := hv
  have hx := B.exec
  have hb := B.bytes
  have hr := B.returns
  have hts := atoms_spec (ws := wsX7_keepOpen) B.pre
  have hown : s.vm.findClass RX7 = some m.cls := findClass_of_methodNamed B.named
  have hlocks := B.notSynchronized
  have i7 : ∀ w ∈ wsX70, w ∈ wsX7_keepOpen := by decide +kernel
  have kl20 := hts (.fieldLink RX7 20 "DosePump$Program" "left" "I") (by decide +kernel)
  have kl24 := hts (.fieldLink RX7 24 "DosePump$Program" "rate" "I") (by decide +kernel)
  have hS : va_S (cA bb) s.heap s.heap [] := va_S.rf
  have hl := lv_entry ([.ref (bb + 21 + 14 * n + 4)]) (n := 1) (Nat.le_of_ble_eq_true rfl)
  rw [lg_entry_eq]
  generalize (lg_sl ([.ref (bb + 21 + 14 * n + 4)]) ++ List.replicate (1 - (lg_sl ([.ref (bb + 21 + 14 * n + 4)])).length) Slot.unset).toArray = ls at hl ⊢
  have hl : lv_has ls 1 [(0, .ref (bb + 21 + 14 * n + 4))] := hl
  have hf : fX7_keepOpen x = ((sC (sC x 4 1 (if (10 : Int32) < (x.2.1 4 1) then (10 : Int32) else (x.2.1 4 1))) 4 2 (-1))) := rfl
  refine lv_aload_n hx hb dX7_keepOpen_0 rfl (lv_at hl 0 rfl) ?_
  refine lv_aload_n hx hb dX7_keepOpen_1 rfl (lv_at hl 0 rfl) ?_
  refine fx_get (ci := 7) (v := .int (x.2.1 4 1)) hx hb hts i7 hown hK (cwf_C (o := 4) hW hn (by decide)) rfl 1 (by decide) kl24 rfl dX7_keepOpen_2 ?_
  refine lv_bipush (v := 10) hx hb dX7_keepOpen_5 (by decide) ?_
  refine va_mmin hx hb (hml.trans hl.1.symm) hown (hts (.methodLink RX7 33 Lib.Math.min.name) (by decide +kernel)) (hts (.static Lib.Math.min.name) (by decide +kernel)) (hts (.initialized "java/lang/Math") (by decide +kernel)) (hts (.code Lib.Math.min.name Lib.Math.min.code 2 (some .int)) (by decide +kernel)) (Nat.le_of_ble_eq_true rfl) (Nat.le_of_ble_eq_true rfl) (Nat.le_of_ble_eq_true rfl) (Nat.le_of_ble_eq_true rfl) dX7_keepOpen_7 ?_
  refine fx_put (ci := 7) (v := .int (if (10 : Int32) < (x.2.1 4 1) then (10 : Int32) else (x.2.1 4 1))) hx hb hts i7 tyX7_ok nmX7 hown hK (cwf_C (o := 4) hW hn (by decide)) (cA_C hn (by decide)) hS rfl 1 (by decide) kl24 rfl rfl rfl (Nat.le_of_ble_eq_true rfl) dX7_keepOpen_10 (fun H locs hat hne hS => ?_)
  have hW : cwf E bb gd ch n (sC x 4 1 (if (10 : Int32) < (x.2.1 4 1) then (10 : Int32) else (x.2.1 4 1))) H := cwf_sC (o := 4) (k := 1) (v := if (10 : Int32) < (x.2.1 4 1) then (10 : Int32) else (x.2.1 4 1)) hW hn (by decide) hat hne
  refine lv_aload_n hx hb dX7_keepOpen_13 rfl (lv_at hl 0 rfl) ?_
  refine lv_iconst (v := -1) hx hb dX7_keepOpen_14 (by decide) ?_
  refine fx_put (ci := 7) (v := .int (-1)) hx hb hts i7 tyX7_ok nmX7 hown hK (cwf_C (o := 4) hW hn (by decide)) (cA_C hn (by decide)) hS rfl 2 (by decide) kl20 rfl rfl rfl (Nat.le_of_ble_eq_true rfl) dX7_keepOpen_15 (fun H locs hat hne hS => ?_)
  have hW : cwf E bb gd ch n (sC (sC x 4 1 (if (10 : Int32) < (x.2.1 4 1) then (10 : Int32) else (x.2.1 4 1))) 4 2 (-1)) H := cwf_sC (o := 4) (k := 2) (v := -1) hW hn (by decide) hat hne
  exact gx_vret hx hb hr hlocks hK hf hW hS dX7_keepOpen_18

theorem okX7_strokesDue {x : FS} (hok : okF x) : okF (fX7_strokesDue x).1 := hok
theorem okX7_countStroke {x : FS} (hok : okF x) : okF (fX7_countStroke x).1 := by
  unfold fX7_countStroke
  (repeat' split) <;> exact hok
theorem okX7_keepOpen {x : FS} (hok : okF x) : okF (fX7_keepOpen x) := hok

def fX0_mayBegin (gd : Nat → Nat → Int32) (z : Int32) (p2 : Int32) (x : FS) : Int32 := if (dRow gd (z).toNatClampNeg 9) ≤ 0 then (0) else (if (x.2.1 6 2) = 0 then (if (p2 - (x.2.1 6 1)) < (dRow gd (z).toNatClampNeg 11) then (0) else (if (dRow gd (z).toNatClampNeg 12) ≤ (x.2.1 7 3) then (0) else (1))) else (0))
set_option maxHeartbeats 4000000 in
set_option maxRecDepth 100000 in
theorem mX0_mayBegin (l : Launch) (E : eE) (bb : Nat) (gd : Nat → Nat → Int32) (ch : Nat → Nat → Nat → Int32) (n : Nat) (hn : n < 3) (x : FS) (z : Int32) (p2 : Int32) (hv_z : vp_in z 22) : Met l yX0_mayBegin wsX0_mayBegin ({ frames := 0, cells := 0, slots := 0, locals := 0 }) (gPre E (cwf E bb gd ch n x) [.ref (bb + 21 + 14 * n + 6), .ref (dAd bb (z).toNatClampNeg), .int (p2)]) (gQi E (fun _ : Unit => cwf E bb gd ch n x) ((), fX0_mayBegin gd z p2 x) (cA bb)) 0 0 (cA bb) := by
  refine Met.ofW (cc := cX0_mayBegin) (maxL := 3) (ret := (some .boolean)) (by decide) rfl ?_
  intro p e s m args below meth c s₁ B hml hv
  obtain ⟨rfl, hW, hK⟩ := hv
  have hx := B.exec
  have hb := B.bytes
  have hr := B.returns
  have hts := atoms_spec (ws := wsX0_mayBegin) B.pre
  have hown : s.vm.findClass RX0 = some m.cls := findClass_of_methodNamed B.named
  have hlocks := B.notSynchronized
  have i0 : ∀ w ∈ wsX00, w ∈ wsX0_mayBegin := by decide +kernel
  have i2 : ∀ w ∈ wsX20, w ∈ wsX0_mayBegin := by decide +kernel
  have i8 : ∀ w ∈ wsX80, w ∈ wsX0_mayBegin := by decide +kernel
  have kl14 := hts (.fieldLink RX0 14 "DosePump$Boluses" "begun" "LDosePump$Recent;") (by decide +kernel)
  have kl20 := hts (.fieldLink RX0 20 "DosePump$Boluses" "latest" "I") (by decide +kernel)
  have kl24 := hts (.fieldLink RX0 24 "DosePump$Drug" "bolus" "I") (by decide +kernel)
  have kl29 := hts (.fieldLink RX0 29 "DosePump$Boluses" "left" "I") (by decide +kernel)
  have kl32 := hts (.fieldLink RX0 32 "DosePump$Drug" "lockout" "I") (by decide +kernel)
  have kl35 := hts (.fieldLink RX0 35 "DosePump$Recent" "count" "I") (by decide +kernel)
  have kl38 := hts (.fieldLink RX0 38 "DosePump$Drug" "many" "I") (by decide +kernel)
  have hS : va_S (cA bb) s.heap s.heap [] := va_S.rf
  have hl := lv_entry ([.ref (bb + 21 + 14 * n + 6), .ref (dAd bb (z).toNatClampNeg), .int (p2)]) (n := 3) (Nat.le_of_ble_eq_true rfl)
  rw [lg_entry_eq]
  generalize (lg_sl ([.ref (bb + 21 + 14 * n + 6), .ref (dAd bb (z).toNatClampNeg), .int (p2)]) ++ List.replicate (3 - (lg_sl ([.ref (bb + 21 + 14 * n + 6), .ref (dAd bb (z).toNatClampNeg), .int (p2)])).length) Slot.unset).toArray = ls at hl ⊢
  have hl : lv_has ls 3 [(0, .ref (bb + 21 + 14 * n + 6)), (1, .ref (dAd bb (z).toNatClampNeg)), (2, .int (p2))] := hl
  have hf : fX0_mayBegin gd z p2 x = (if (dRow gd (z).toNatClampNeg 9) ≤ 0 then (0) else (if (x.2.1 6 2) = 0 then (if (p2 - (x.2.1 6 1)) < (dRow gd (z).toNatClampNeg 11) then (0) else (if (dRow gd (z).toNatClampNeg 12) ≤ (x.2.1 7 3) then (0) else (1))) else (0))) := rfl
  refine lv_aload_n hx hb dX0_mayBegin_0 rfl (lv_at hl 1 rfl) ?_
  refine fx_get (ci := 2) (v := .int (dRow gd (z).toNatClampNeg 9)) hx hb hts i2 hown hK (cwf_D hW hv_z) rfl 9 (by decide) kl24 rfl dX0_mayBegin_1 ?_
  refine lv_if_le (tgt := 45) hx hb dX0_mayBegin_4 (by decide) (fun c_4 => ?_) (fun c_4 => ?_)
  · have hf_4 := hf.trans (if_pos c_4)
    refine lv_iconst (v := 0) hx hb dX0_mayBegin_45 (by decide) ?_
    exact gx_iret hx hb hr (by decide) hlocks hK (congrArg (Prod.mk ()) hf_4) (u := ()) (v := 0) hW hS dX0_mayBegin_46
  · have hf_4 := hf.trans (if_neg c_4)
    refine lv_aload_n hx hb dX0_mayBegin_7 rfl (lv_at hl 0 rfl) ?_
    refine fx_get (ci := 0) (v := .int (x.2.1 6 2)) hx hb hts i0 hown hK (cwf_C (o := 6) hW hn (by decide)) rfl 2 (by decide) kl29 rfl dX0_mayBegin_8 ?_
    refine lv_if_ne (tgt := 45) hx hb dX0_mayBegin_11 (by decide) (fun c_11 => ?_) (fun c_11 => ?_)
    · have hf_11 := hf_4.trans (if_neg c_11)
      refine lv_iconst (v := 0) hx hb dX0_mayBegin_45 (by decide) ?_
      exact gx_iret hx hb hr (by decide) hlocks hK (congrArg (Prod.mk ()) hf_11) (u := ()) (v := 0) hW hS dX0_mayBegin_46
    · have hf_11 := hf_4.trans (if_pos c_11)
      refine lv_iload_n hx hb dX0_mayBegin_14 rfl (lv_at hl 2 rfl) ?_
      refine lv_aload_n hx hb dX0_mayBegin_15 rfl (lv_at hl 0 rfl) ?_
      refine fx_get (ci := 0) (v := .int (x.2.1 6 1)) hx hb hts i0 hown hK (cwf_C (o := 6) hW hn (by decide)) rfl 1 (by decide) kl20 rfl dX0_mayBegin_16 ?_
      refine lv_isub hx hb dX0_mayBegin_19 ?_
      refine lv_aload_n hx hb dX0_mayBegin_20 rfl (lv_at hl 1 rfl) ?_
      refine fx_get (ci := 2) (v := .int (dRow gd (z).toNatClampNeg 11)) hx hb hts i2 hown hK (cwf_D hW hv_z) rfl 11 (by decide) kl32 rfl dX0_mayBegin_21 ?_
      refine lv_icmp_lt (tgt := 45) hx hb dX0_mayBegin_24 (by decide) (fun c_24 => ?_) (fun c_24 => ?_)
      · have hf_24 := hf_11.trans (if_pos c_24)
        refine lv_iconst (v := 0) hx hb dX0_mayBegin_45 (by decide) ?_
        exact gx_iret hx hb hr (by decide) hlocks hK (congrArg (Prod.mk ()) hf_24) (u := ()) (v := 0) hW hS dX0_mayBegin_46
      · have hf_24 := hf_11.trans (if_neg c_24)
        refine lv_aload_n hx hb dX0_mayBegin_27 rfl (lv_at hl 0 rfl) ?_
        refine fx_get (ci := 0) (v := .ref (bb + 21 + 14 * n + 7)) hx hb hts i0 hown hK (cwf_C (o := 6) hW hn (by decide)) rfl 0 (by decide) kl14 rfl dX0_mayBegin_28 ?_
        refine fx_get (ci := 8) (v := .int (x.2.1 7 3)) hx hb hts i8 hown hK (cwf_C (o := 7) hW hn (by decide)) rfl 3 (by decide) kl35 rfl dX0_mayBegin_31 ?_
        refine lv_aload_n hx hb dX0_mayBegin_34 rfl (lv_at hl 1 rfl) ?_
        refine fx_get (ci := 2) (v := .int (dRow gd (z).toNatClampNeg 12)) hx hb hts i2 hown hK (cwf_D hW hv_z) rfl 12 (by decide) kl38 rfl dX0_mayBegin_35 ?_
        refine lv_icmp_ge (tgt := 45) hx hb dX0_mayBegin_38 (by decide) (fun c_38 => ?_) (fun c_38 => ?_)
        · have hf_38 := hf_24.trans (if_pos c_38)
          refine lv_iconst (v := 0) hx hb dX0_mayBegin_45 (by decide) ?_
          exact gx_iret hx hb hr (by decide) hlocks hK (congrArg (Prod.mk ()) hf_38) (u := ()) (v := 0) hW hS dX0_mayBegin_46
        · have hf_38 := hf_24.trans (if_neg c_38)
          refine lv_iconst (v := 1) hx hb dX0_mayBegin_41 (by decide) ?_
          refine lv_goto (tgt := 46) hx hb dX0_mayBegin_42 (by decide) ?_
          exact gx_iret hx hb hr (by decide) hlocks hK (congrArg (Prod.mk ()) hf_38) (u := ()) (v := 1) hW hS dX0_mayBegin_46

def fX0_begin (gd : Nat → Nat → Int32) (z : Int32) (p2 : Int32) (x : FS) : FS := (sC (sC (fX8_add_7 p2 x) 6 1 (p2)) 6 2 (dRow gd (z).toNatClampNeg 9))
set_option maxHeartbeats 4000000 in
set_option maxRecDepth 100000 in
theorem mX0_begin (l : Launch) (E : eE) (bb : Nat) (gd : Nat → Nat → Int32) (ch : Nat → Nat → Nat → Int32) (n : Nat) (hn : n < 3) (x : FS) (z : Int32) (p2 : Int32) (hv_z : vp_in z 22) (hok : okF x) : Met l yX0_begin wsX0_begin ({ frames := 1, cells := 0, slots := 0, locals := 22 }) (gPre E (cwf E bb gd ch n x) [.ref (bb + 21 + 14 * n + 6), .ref (dAd bb (z).toNatClampNeg), .int (p2)]) (gQv E (cwf E bb gd ch n) (fX0_begin gd z p2 x) (cA bb)) 0 0 (cA bb) := by
  refine Met.ofW (cc := cX0_begin) (maxL := 3) (ret := none) (by decide) rfl ?_
  intro p e s m args below meth c s₁ B hml hv
  obtain ⟨rfl, hW, hK⟩ := hv
  have hx := B.exec
  have hb := B.bytes
  have hr := B.returns
  have hts := atoms_spec (ws := wsX0_begin) B.pre
  have hown : s.vm.findClass RX0 = some m.cls := findClass_of_methodNamed B.named
  have hlocks := B.notSynchronized
  have i0 : ∀ w ∈ wsX00, w ∈ wsX0_begin := by decide +kernel
  have i2 : ∀ w ∈ wsX20, w ∈ wsX0_begin := by decide +kernel
  have kl14 := hts (.fieldLink RX0 14 "DosePump$Boluses" "begun" "LDosePump$Recent;") (by decide +kernel)
  have kl20 := hts (.fieldLink RX0 20 "DosePump$Boluses" "latest" "I") (by decide +kernel)
  have kl24 := hts (.fieldLink RX0 24 "DosePump$Drug" "bolus" "I") (by decide +kernel)
  have kl29 := hts (.fieldLink RX0 29 "DosePump$Boluses" "left" "I") (by decide +kernel)
  have hS : va_S (cA bb) s.heap s.heap [] := va_S.rf
  have hl := lv_entry ([.ref (bb + 21 + 14 * n + 6), .ref (dAd bb (z).toNatClampNeg), .int (p2)]) (n := 3) (Nat.le_of_ble_eq_true rfl)
  rw [lg_entry_eq]
  generalize (lg_sl ([.ref (bb + 21 + 14 * n + 6), .ref (dAd bb (z).toNatClampNeg), .int (p2)]) ++ List.replicate (3 - (lg_sl ([.ref (bb + 21 + 14 * n + 6), .ref (dAd bb (z).toNatClampNeg), .int (p2)])).length) Slot.unset).toArray = ls at hl ⊢
  have hl : lv_has ls 3 [(0, .ref (bb + 21 + 14 * n + 6)), (1, .ref (dAd bb (z).toNatClampNeg)), (2, .int (p2))] := hl
  have hf : fX0_begin gd z p2 x = ((sC (sC (fX8_add_7 p2 x) 6 1 (p2)) 6 2 (dRow gd (z).toNatClampNeg 9))) := rfl
  refine lv_aload_n hx hb dX0_begin_0 rfl (lv_at hl 0 rfl) ?_
  refine fx_get (ci := 0) (v := .ref (bb + 21 + 14 * n + 7)) hx hb hts i0 hown hK (cwf_C (o := 6) hW hn (by decide)) rfl 0 (by decide) kl14 rfl dX0_begin_1 ?_
  refine lv_iload_n hx hb dX0_begin_4 rfl (lv_at hl 2 rfl) ?_
  refine gx_v (rest := []) ⟨hx, hb, hml, hown, hts⟩ (mX8_add_7 l E bb gd ch n hn x p2 hok) (cwV 1 hts gX0_begin_X8_add rfl rfl rfl (by decide +kernel) ⟨Nat.le_of_ble_eq_true rfl, Nat.le_of_ble_eq_true rfl⟩) hW hK (fx_recv hK (cwf_C (o := 7) hW hn (by decide)) rfl) rfl hl.1 rfl (Nat.le_of_ble_eq_true rfl) dX0_begin_5 ⟨Nat.le_of_ble_eq_true rfl, Nat.le_of_ble_eq_true rfl⟩ hS (fun _ h => h) (fun u1 H locs e1 hW hS => ?_)
  have e1 : fX8_add_7 p2 x = u1 := e1
  try rw [e1] at hf
  have hk1 : okF u1 := e1 ▸ (okX8_add_7 hok)
  refine lv_aload_n hx hb dX0_begin_8 rfl (lv_at hl 0 rfl) ?_
  refine lv_iload_n hx hb dX0_begin_9 rfl (lv_at hl 2 rfl) ?_
  refine fx_put (ci := 0) (v := .int (p2)) hx hb hts i0 tyX0_ok nmX0 hown hK (cwf_C (o := 6) hW hn (by decide)) (cA_C hn (by decide)) hS rfl 1 (by decide) kl20 rfl rfl rfl (Nat.le_of_ble_eq_true rfl) dX0_begin_10 (fun H locs hat hne hS => ?_)
  have hW : cwf E bb gd ch n (sC u1 6 1 (p2)) H := cwf_sC (o := 6) (k := 1) (v := p2) hW hn (by decide) hat hne
  refine lv_aload_n hx hb dX0_begin_13 rfl (lv_at hl 0 rfl) ?_
  refine lv_aload_n hx hb dX0_begin_14 rfl (lv_at hl 1 rfl) ?_
  refine fx_get (ci := 2) (v := .int (dRow gd (z).toNatClampNeg 9)) hx hb hts i2 hown hK (cwf_D hW hv_z) rfl 9 (by decide) kl24 rfl dX0_begin_15 ?_
  refine fx_put (ci := 0) (v := .int (dRow gd (z).toNatClampNeg 9)) hx hb hts i0 tyX0_ok nmX0 hown hK (cwf_C (o := 6) hW hn (by decide)) (cA_C hn (by decide)) hS rfl 2 (by decide) kl29 rfl rfl rfl (Nat.le_of_ble_eq_true rfl) dX0_begin_18 (fun H locs hat hne hS => ?_)
  have hW : cwf E bb gd ch n (sC (sC u1 6 1 (p2)) 6 2 (dRow gd (z).toNatClampNeg 9)) H := cwf_sC (o := 6) (k := 2) (v := dRow gd (z).toNatClampNeg 9) hW hn (by decide) hat hne
  exact gx_vret hx hb hr hlocks hK hf hW hS dX0_begin_21

theorem okX0_begin {gd : Nat → Nat → Int32} {z p2 : Int32} {x : FS} (hok : okF x) : okF (fX0_begin gd z p2 x) := okX8_add_7 hok

def fX3_forgetDrug (n : Nat) (x : FS) : FS := (sC x 1 2 (nI (16 + n)))
set_option maxHeartbeats 4000000 in
set_option maxRecDepth 100000 in
theorem mX3_forgetDrug (l : Launch) (E : eE) (bb : Nat) (gd : Nat → Nat → Int32) (ch : Nat → Nat → Nat → Int32) (n : Nat) (hn : n < 3) (x : FS) : Met l yX3_forgetDrug wsX3_forgetDrug ({ frames := 0, cells := 0, slots := 0, locals := 0 }) (gPre E (cwf E bb gd ch n x) [.ref (bb + 21 + 14 * n + 1)]) (gQv E (cwf E bb gd ch n) (fX3_forgetDrug n x) (cA bb)) 0 0 (cA bb) := by
  refine Met.ofW (cc := cX3_forgetDrug) (maxL := 1) (ret := none) (by decide) rfl ?_
  intro p e s m args below meth c s₁ B hml hv
  obtain ⟨rfl, hW, hK⟩ := hv
  have hx := B.exec
  have hb := B.bytes
  have hr := B.returns
  have hts := atoms_spec (ws := wsX3_forgetDrug) B.pre
  have hown : s.vm.findClass RX3 = some m.cls := findClass_of_methodNamed B.named
  have hlocks := B.notSynchronized
  have i3 : ∀ w ∈ wsX30, w ∈ wsX3_forgetDrug := by decide +kernel
  have kl23 := hts (.fieldLink RX3 23 "DosePump$Entry" "noDrug" "LDosePump$Drug;") (by decide +kernel)
  have kl27 := hts (.fieldLink RX3 27 "DosePump$Entry" "drug" "LDosePump$Drug;") (by decide +kernel)
  have hS : va_S (cA bb) s.heap s.heap [] := va_S.rf
  have hl := lv_entry ([.ref (bb + 21 + 14 * n + 1)]) (n := 1) (Nat.le_of_ble_eq_true rfl)
  rw [lg_entry_eq]
  generalize (lg_sl ([.ref (bb + 21 + 14 * n + 1)]) ++ List.replicate (1 - (lg_sl ([.ref (bb + 21 + 14 * n + 1)])).length) Slot.unset).toArray = ls at hl ⊢
  have hl : lv_has ls 1 [(0, .ref (bb + 21 + 14 * n + 1))] := hl
  have hf : fX3_forgetDrug n x = ((sC x 1 2 (nI (16 + n)))) := rfl
  refine lv_aload_n hx hb dX3_forgetDrug_0 rfl (lv_at hl 0 rfl) ?_
  refine lv_aload_n hx hb dX3_forgetDrug_1 rfl (lv_at hl 0 rfl) ?_
  refine fx_get (ci := 3) (v := .ref (dAd bb (nI (16 + n)).toNatClampNeg)) hx hb hts i3 hown hK (cwf_C (o := 1) hW hn (by decide)) rfl 1 (by decide) kl23 rfl dX3_forgetDrug_2 ?_
  refine fx_put (ci := 3) (v := .ref (dAd bb (nI (16 + n)).toNatClampNeg)) hx hb hts i3 tyX3_ok nmX3 hown hK (cwf_C (o := 1) hW hn (by decide)) (cA_C hn (by decide)) hS rfl 2 (by decide) kl27 rfl rfl rfl (Nat.le_of_ble_eq_true rfl) dX3_forgetDrug_5 (fun H locs hat hne hS => ?_)
  have hW : cwf E bb gd ch n (sC x 1 2 (nI (16 + n))) H := cwf_sC (o := 1) (k := 2) (v := nI (16 + n)) hW hn (by decide) hat hne
  exact gx_vret hx hb hr hlocks hK hf hW hS dX3_forgetDrug_8

theorem okX3_forgetDrug {n : Nat} (hn : n < 3) {x : FS} (hok : okF x) : okF (fX3_forgetDrug n x) := ⟨hok.1, hok.2.1, hok.2.2.1, hok.2.2.2.1, hok.2.2.2.2.1, vi_none hn, hok.2.2.2.2.2.2⟩

def fX6_carryStroke (p1 : Int32) (x : FS) : FS := if (x.2.1 9 5) = 0 then ((sC (sC x 9 2 ((x.2.1 9 2) + 6)) 9 4 (0))) else ((fX8_add_10 p1 (sC (sC x 9 2 ((x.2.1 9 2) + 6)) 9 4 ((x.2.1 9 4) + 1))))
set_option maxHeartbeats 4000000 in
set_option maxRecDepth 100000 in
theorem mX6_carryStroke (l : Launch) (E : eE) (bb : Nat) (gd : Nat → Nat → Int32) (ch : Nat → Nat → Nat → Int32) (n : Nat) (hn : n < 3) (x : FS) (p1 : Int32) (hok : okF x) : Met l yX6_carryStroke wsX6_carryStroke ({ frames := 1, cells := 0, slots := 0, locals := 22 }) (gPre E (cwf E bb gd ch n x) [.ref (bb + 21 + 14 * n + 9), .int (p1)]) (gQv E (cwf E bb gd ch n) (fX6_carryStroke p1 x) (cA bb)) 0 0 (cA bb) := by
  refine Met.ofW (cc := cX6_carryStroke) (maxL := 2) (ret := none) (by decide) rfl ?_
  intro p e s m args below meth c s₁ B hml hv
  obtain ⟨rfl, hW, hK⟩ := hv
  have hx := B.exec
  have hb := B.bytes
  have hr := B.returns
  have hts := atoms_spec (ws := wsX6_carryStroke) B.pre
  have hown : s.vm.findClass RX6 = some m.cls := findClass_of_methodNamed B.named
  have hlocks := B.notSynchronized
  have i6 : ∀ w ∈ wsX60, w ∈ wsX6_carryStroke := by decide +kernel
  have kl14 := hts (.fieldLink RX6 14 "DosePump$Line" "airStrokes" "LDosePump$Recent;") (by decide +kernel)
  have kl22 := hts (.fieldLink RX6 22 "DosePump$Line" "pressure" "I") (by decide +kernel)
  have kl25 := hts (.fieldLink RX6 25 "DosePump$Line" "air" "Z") (by decide +kernel)
  have kl29 := hts (.fieldLink RX6 29 "DosePump$Line" "bubble" "I") (by decide +kernel)
  have hS : va_S (cA bb) s.heap s.heap [] := va_S.rf
  have hl := lv_entry ([.ref (bb + 21 + 14 * n + 9), .int (p1)]) (n := 2) (Nat.le_of_ble_eq_true rfl)
  rw [lg_entry_eq]
  generalize (lg_sl ([.ref (bb + 21 + 14 * n + 9), .int (p1)]) ++ List.replicate (2 - (lg_sl ([.ref (bb + 21 + 14 * n + 9), .int (p1)])).length) Slot.unset).toArray = ls at hl ⊢
  have hl : lv_has ls 2 [(0, .ref (bb + 21 + 14 * n + 9)), (1, .int (p1))] := hl
  have hf : fX6_carryStroke p1 x = (if (x.2.1 9 5) = 0 then ((sC (sC x 9 2 ((x.2.1 9 2) + 6)) 9 4 (0))) else ((fX8_add_10 p1 (sC (sC x 9 2 ((x.2.1 9 2) + 6)) 9 4 ((x.2.1 9 4) + 1))))) := rfl
  refine lv_aload_n hx hb dX6_carryStroke_0 rfl (lv_at hl 0 rfl) ?_
  refine lv_dup hx hb dX6_carryStroke_1 rfl ?_
  refine fx_get (ci := 6) (v := .int (x.2.1 9 2)) hx hb hts i6 hown hK (cwf_C (o := 9) hW hn (by decide)) rfl 2 (by decide) kl22 rfl dX6_carryStroke_2 ?_
  refine lv_bipush (v := 6) hx hb dX6_carryStroke_5 (by decide) ?_
  refine lv_iadd hx hb dX6_carryStroke_7 ?_
  refine fx_put (ci := 6) (v := .int ((x.2.1 9 2) + 6)) hx hb hts i6 tyX6_ok nmX6 hown hK (cwf_C (o := 9) hW hn (by decide)) (cA_C hn (by decide)) hS rfl 2 (by decide) kl22 rfl rfl rfl (Nat.le_of_ble_eq_true rfl) dX6_carryStroke_8 (fun H locs hat hne hS => ?_)
  have hW : cwf E bb gd ch n (sC x 9 2 ((x.2.1 9 2) + 6)) H := cwf_sC (o := 9) (k := 2) (v := (x.2.1 9 2) + 6) hW hn (by decide) hat hne
  refine lv_aload_n hx hb dX6_carryStroke_11 rfl (lv_at hl 0 rfl) ?_
  refine fx_get (ci := 6) (v := .int (x.2.1 9 5)) hx hb hts i6 hown hK (cwf_C (o := 9) hW hn (by decide)) rfl 5 (by decide) kl25 rfl dX6_carryStroke_12 ?_
  refine lv_if_eq (tgt := 39) hx hb dX6_carryStroke_15 (by decide) (fun c_15 => ?_) (fun c_15 => ?_)
  · have hf_15 := hf.trans (if_pos c_15)
    refine lv_aload_n hx hb dX6_carryStroke_39 rfl (lv_at hl 0 rfl) ?_
    refine lv_iconst (v := 0) hx hb dX6_carryStroke_40 (by decide) ?_
    refine fx_put (ci := 6) (v := .int (0)) hx hb hts i6 tyX6_ok nmX6 hown hK (cwf_C (o := 9) hW hn (by decide)) (cA_C hn (by decide)) hS rfl 4 (by decide) kl29 rfl rfl rfl (Nat.le_of_ble_eq_true rfl) dX6_carryStroke_41 (fun H locs hat hne hS => ?_)
    have hW : cwf E bb gd ch n (sC (sC x 9 2 ((x.2.1 9 2) + 6)) 9 4 (0)) H := cwf_sC (o := 9) (k := 4) (v := 0) hW hn (by decide) hat hne
    exact gx_vret hx hb hr hlocks hK hf_15 hW hS dX6_carryStroke_44
  · have hf_15 := hf.trans (if_neg c_15)
    refine lv_aload_n hx hb dX6_carryStroke_18 rfl (lv_at hl 0 rfl) ?_
    refine lv_dup hx hb dX6_carryStroke_19 rfl ?_
    refine fx_get (ci := 6) (v := .int (x.2.1 9 4)) hx hb hts i6 hown hK (cwf_C (o := 9) hW hn (by decide)) rfl 4 (by decide) kl29 rfl dX6_carryStroke_20 ?_
    refine lv_iconst (v := 1) hx hb dX6_carryStroke_23 (by decide) ?_
    refine lv_iadd hx hb dX6_carryStroke_24 ?_
    refine fx_put (ci := 6) (v := .int ((x.2.1 9 4) + 1)) hx hb hts i6 tyX6_ok nmX6 hown hK (cwf_C (o := 9) hW hn (by decide)) (cA_C hn (by decide)) hS rfl 4 (by decide) kl29 rfl rfl rfl (Nat.le_of_ble_eq_true rfl) dX6_carryStroke_25 (fun H locs hat hne hS => ?_)
    have hW : cwf E bb gd ch n (sC (sC x 9 2 ((x.2.1 9 2) + 6)) 9 4 ((x.2.1 9 4) + 1)) H := cwf_sC (o := 9) (k := 4) (v := (x.2.1 9 4) + 1) hW hn (by decide) hat hne
    refine lv_aload_n hx hb dX6_carryStroke_28 rfl (lv_at hl 0 rfl) ?_
    refine fx_get (ci := 6) (v := .ref (bb + 21 + 14 * n + 10)) hx hb hts i6 hown hK (cwf_C (o := 9) hW hn (by decide)) rfl 0 (by decide) kl14 rfl dX6_carryStroke_29 ?_
    refine lv_iload_n hx hb dX6_carryStroke_32 rfl (lv_at hl 1 rfl) ?_
    refine gx_v (rest := []) ⟨hx, hb, hml, hown, hts⟩ (mX8_add_10 l E bb gd ch n hn (sC (sC x 9 2 ((x.2.1 9 2) + 6)) 9 4 ((x.2.1 9 4) + 1)) p1 hok) (cwV 1 hts gX6_carryStroke_X8_add rfl rfl rfl (by decide +kernel) ⟨Nat.le_of_ble_eq_true rfl, Nat.le_of_ble_eq_true rfl⟩) hW hK (fx_recv hK (cwf_C (o := 10) hW hn (by decide)) rfl) rfl hl.1 rfl (Nat.le_of_ble_eq_true rfl) dX6_carryStroke_33 ⟨Nat.le_of_ble_eq_true rfl, Nat.le_of_ble_eq_true rfl⟩ hS (fun _ h => h) (fun u1 H locs e1 hW hS => ?_)
    have e1 : fX8_add_10 p1 (sC (sC x 9 2 ((x.2.1 9 2) + 6)) 9 4 ((x.2.1 9 4) + 1)) = u1 := e1
    try rw [e1] at hf_15
    have hk1 : okF u1 := e1 ▸ (okX8_add_10 hok)
    refine lv_goto (tgt := 44) hx hb dX6_carryStroke_36 (by decide) ?_
    exact gx_vret hx hb hr hlocks hK hf_15 hW hS dX6_carryStroke_44

theorem okX6_carryStroke {p1 : Int32} {x : FS} (hok : okF x) : okF (fX6_carryStroke p1 x) := by
  unfold fX6_carryStroke
  split
  · exact hok
  · exact okX8_add_10 (x := _) hok

def fX6_hasTooMuchAir (x : FS) : Int32 := if (5 : Int32) ≤ (x.2.1 9 4) then (1) else (if (x.2.1 10 3) < 60 then (0) else (1))
set_option maxHeartbeats 4000000 in
set_option maxRecDepth 100000 in
theorem mX6_hasTooMuchAir (l : Launch) (E : eE) (bb : Nat) (gd : Nat → Nat → Int32) (ch : Nat → Nat → Nat → Int32) (n : Nat) (hn : n < 3) (x : FS) : Met l yX6_hasTooMuchAir wsX6_hasTooMuchAir ({ frames := 0, cells := 0, slots := 0, locals := 0 }) (gPre E (cwf E bb gd ch n x) [.ref (bb + 21 + 14 * n + 9)]) (gQi E (fun _ : Unit => cwf E bb gd ch n x) ((), fX6_hasTooMuchAir x) (cA bb)) 0 0 (cA bb) := by
  refine Met.ofW (cc := cX6_hasTooMuchAir) (maxL := 1) (ret := (some .boolean)) (by decide) rfl ?_
  intro p e s m args below meth c s₁ B hml hv
  obtain ⟨rfl, hW, hK⟩ := hv
  have hx := B.exec
  have hb := B.bytes
  have hr := B.returns
  have hts := atoms_spec (ws := wsX6_hasTooMuchAir) B.pre
  have hown : s.vm.findClass RX6 = some m.cls := findClass_of_methodNamed B.named
  have hlocks := B.notSynchronized
  have i6 : ∀ w ∈ wsX60, w ∈ wsX6_hasTooMuchAir := by decide +kernel
  have i8 : ∀ w ∈ wsX80, w ∈ wsX6_hasTooMuchAir := by decide +kernel
  have kl14 := hts (.fieldLink RX6 14 "DosePump$Line" "airStrokes" "LDosePump$Recent;") (by decide +kernel)
  have kl29 := hts (.fieldLink RX6 29 "DosePump$Line" "bubble" "I") (by decide +kernel)
  have kl36 := hts (.fieldLink RX6 36 "DosePump$Recent" "count" "I") (by decide +kernel)
  have hS : va_S (cA bb) s.heap s.heap [] := va_S.rf
  have hl := lv_entry ([.ref (bb + 21 + 14 * n + 9)]) (n := 1) (Nat.le_of_ble_eq_true rfl)
  rw [lg_entry_eq]
  generalize (lg_sl ([.ref (bb + 21 + 14 * n + 9)]) ++ List.replicate (1 - (lg_sl ([.ref (bb + 21 + 14 * n + 9)])).length) Slot.unset).toArray = ls at hl ⊢
  have hl : lv_has ls 1 [(0, .ref (bb + 21 + 14 * n + 9))] := hl
  have hf : fX6_hasTooMuchAir x = (if (5 : Int32) ≤ (x.2.1 9 4) then (1) else (if (x.2.1 10 3) < 60 then (0) else (1))) := rfl
  refine lv_aload_n hx hb dX6_hasTooMuchAir_0 rfl (lv_at hl 0 rfl) ?_
  refine fx_get (ci := 6) (v := .int (x.2.1 9 4)) hx hb hts i6 hown hK (cwf_C (o := 9) hW hn (by decide)) rfl 4 (by decide) kl29 rfl dX6_hasTooMuchAir_1 ?_
  refine lv_iconst (v := 5) hx hb dX6_hasTooMuchAir_4 (by decide) ?_
  refine lv_icmp_ge (tgt := 20) hx hb dX6_hasTooMuchAir_5 (by decide) (fun c_5 => ?_) (fun c_5 => ?_)
  · have hf_5 := hf.trans (if_pos c_5)
    refine lv_iconst (v := 1) hx hb dX6_hasTooMuchAir_20 (by decide) ?_
    refine lv_goto (tgt := 25) hx hb dX6_hasTooMuchAir_21 (by decide) ?_
    exact gx_iret hx hb hr (by decide) hlocks hK (congrArg (Prod.mk ()) hf_5) (u := ()) (v := 1) hW hS dX6_hasTooMuchAir_25
  · have hf_5 := hf.trans (if_neg c_5)
    refine lv_aload_n hx hb dX6_hasTooMuchAir_8 rfl (lv_at hl 0 rfl) ?_
    refine fx_get (ci := 6) (v := .ref (bb + 21 + 14 * n + 10)) hx hb hts i6 hown hK (cwf_C (o := 9) hW hn (by decide)) rfl 0 (by decide) kl14 rfl dX6_hasTooMuchAir_9 ?_
    refine fx_get (ci := 8) (v := .int (x.2.1 10 3)) hx hb hts i8 hown hK (cwf_C (o := 10) hW hn (by decide)) rfl 3 (by decide) kl36 rfl dX6_hasTooMuchAir_12 ?_
    refine lv_bipush (v := 60) hx hb dX6_hasTooMuchAir_15 (by decide) ?_
    refine lv_icmp_lt (tgt := 24) hx hb dX6_hasTooMuchAir_17 (by decide) (fun c_17 => ?_) (fun c_17 => ?_)
    · have hf_17 := hf_5.trans (if_pos c_17)
      refine lv_iconst (v := 0) hx hb dX6_hasTooMuchAir_24 (by decide) ?_
      exact gx_iret hx hb hr (by decide) hlocks hK (congrArg (Prod.mk ()) hf_17) (u := ()) (v := 0) hW hS dX6_hasTooMuchAir_25
    · have hf_17 := hf_5.trans (if_neg c_17)
      refine lv_iconst (v := 1) hx hb dX6_hasTooMuchAir_20 (by decide) ?_
      refine lv_goto (tgt := 25) hx hb dX6_hasTooMuchAir_21 (by decide) ?_
      exact gx_iret hx hb hr (by decide) hlocks hK (congrArg (Prod.mk ()) hf_17) (u := ()) (v := 1) hW hS dX6_hasTooMuchAir_25

def fX6_forgetAir (x : FS) : FS := (fX8_clear_10 (sC x 9 4 (0)))
set_option maxHeartbeats 4000000 in
set_option maxRecDepth 100000 in
theorem mX6_forgetAir (l : Launch) (E : eE) (bb : Nat) (gd : Nat → Nat → Int32) (ch : Nat → Nat → Nat → Int32) (n : Nat) (hn : n < 3) (x : FS) : Met l yX6_forgetAir wsX6_forgetAir ({ frames := 1, cells := 0, slots := 0, locals := 20 }) (gPre E (cwf E bb gd ch n x) [.ref (bb + 21 + 14 * n + 9)]) (gQv E (cwf E bb gd ch n) (fX6_forgetAir x) (cA bb)) 0 0 (cA bb) := by
  refine Met.ofW (cc := cX6_forgetAir) (maxL := 1) (ret := none) (by decide) rfl ?_
  intro p e s m args below meth c s₁ B hml hv
  obtain ⟨rfl, hW, hK⟩ := hv
  have hx := B.exec
  have hb := B.bytes
  have hr := B.returns
  have hts := atoms_spec (ws := wsX6_forgetAir) B.pre
  have hown : s.vm.findClass RX6 = some m.cls := findClass_of_methodNamed B.named
  have hlocks := B.notSynchronized
  have i6 : ∀ w ∈ wsX60, w ∈ wsX6_forgetAir := by decide +kernel
  have kl14 := hts (.fieldLink RX6 14 "DosePump$Line" "airStrokes" "LDosePump$Recent;") (by decide +kernel)
  have kl29 := hts (.fieldLink RX6 29 "DosePump$Line" "bubble" "I") (by decide +kernel)
  have hS : va_S (cA bb) s.heap s.heap [] := va_S.rf
  have hl := lv_entry ([.ref (bb + 21 + 14 * n + 9)]) (n := 1) (Nat.le_of_ble_eq_true rfl)
  rw [lg_entry_eq]
  generalize (lg_sl ([.ref (bb + 21 + 14 * n + 9)]) ++ List.replicate (1 - (lg_sl ([.ref (bb + 21 + 14 * n + 9)])).length) Slot.unset).toArray = ls at hl ⊢
  have hl : lv_has ls 1 [(0, .ref (bb + 21 + 14 * n + 9))] := hl
  have hf : fX6_forgetAir x = ((fX8_clear_10 (sC x 9 4 (0)))) := rfl
  refine lv_aload_n hx hb dX6_forgetAir_0 rfl (lv_at hl 0 rfl) ?_
  refine lv_iconst (v := 0) hx hb dX6_forgetAir_1 (by decide) ?_
  refine fx_put (ci := 6) (v := .int (0)) hx hb hts i6 tyX6_ok nmX6 hown hK (cwf_C (o := 9) hW hn (by decide)) (cA_C hn (by decide)) hS rfl 4 (by decide) kl29 rfl rfl rfl (Nat.le_of_ble_eq_true rfl) dX6_forgetAir_2 (fun H locs hat hne hS => ?_)
  have hW : cwf E bb gd ch n (sC x 9 4 (0)) H := cwf_sC (o := 9) (k := 4) (v := 0) hW hn (by decide) hat hne
  refine lv_aload_n hx hb dX6_forgetAir_5 rfl (lv_at hl 0 rfl) ?_
  refine fx_get (ci := 6) (v := .ref (bb + 21 + 14 * n + 10)) hx hb hts i6 hown hK (cwf_C (o := 9) hW hn (by decide)) rfl 0 (by decide) kl14 rfl dX6_forgetAir_6 ?_
  refine gx_v (rest := []) ⟨hx, hb, hml, hown, hts⟩ (mX8_clear_10 l E bb gd ch n hn (sC x 9 4 (0))) (cwV 0 hts gX6_forgetAir_X8_clear rfl rfl rfl (by decide +kernel) ⟨Nat.le_of_ble_eq_true rfl, Nat.le_of_ble_eq_true rfl⟩) hW hK (fx_recv hK (cwf_C (o := 10) hW hn (by decide)) rfl) rfl hl.1 rfl (Nat.le_of_ble_eq_true rfl) dX6_forgetAir_9 ⟨Nat.le_of_ble_eq_true rfl, Nat.le_of_ble_eq_true rfl⟩ hS (fun _ h => h) (fun u1 H locs e1 hW hS => ?_)
  have e1 : fX8_clear_10 (sC x 9 4 (0)) = u1 := e1
  try rw [e1] at hf
  exact gx_vret hx hb hr hlocks hK hf hW hS dX6_forgetAir_12

theorem okX6_forgetAir {x : FS} (hok : okF x) : okF (fX6_forgetAir x) := okX8_clear_10 (x := _) hok

def fX6_drainAndTestBlocked_J37 (y : FS) (w0 : Int32) : FS × Int32 := if (3 : Int32) ≤ w0 then (((sC (sC (sC y 9 3 (w0)) 9 2 (0)) 9 3 (0)), 1)) else (((sC y 9 3 (w0)), 0))
def fX6_drainAndTestBlocked (x : FS) : FS × Int32 := if (if (0 : Int32) < ((x.2.1 9 2) - (x.2.1 9 1)) then ((x.2.1 9 2) - (x.2.1 9 1)) else (0 : Int32)) < 100 then (fX6_drainAndTestBlocked_J37 (sC x 9 2 (if (0 : Int32) < ((x.2.1 9 2) - (x.2.1 9 1)) then ((x.2.1 9 2) - (x.2.1 9 1)) else (0 : Int32))) 0) else (fX6_drainAndTestBlocked_J37 (sC x 9 2 (if (0 : Int32) < ((x.2.1 9 2) - (x.2.1 9 1)) then ((x.2.1 9 2) - (x.2.1 9 1)) else (0 : Int32))) ((x.2.1 9 3) + 1))
set_option maxHeartbeats 4000000 in
set_option maxRecDepth 100000 in
theorem mX6_drainAndTestBlocked (l : Launch) (E : eE) (bb : Nat) (gd : Nat → Nat → Int32) (ch : Nat → Nat → Nat → Int32) (n : Nat) (hn : n < 3) (x : FS) : Met l yX6_drainAndTestBlocked wsX6_drainAndTestBlocked ({ frames := 1, cells := 0, slots := 0, locals := 21 }) (gPre E (cwf E bb gd ch n x) [.ref (bb + 21 + 14 * n + 9)]) (gQi E (cwf E bb gd ch n) (fX6_drainAndTestBlocked x) (cA bb)) 0 0 (cA bb) := by
  refine Met.ofW (cc := cX6_drainAndTestBlocked) (maxL := 1) (ret := (some .boolean)) (by decide) rfl ?_
  intro p e s m args below meth c s₁ B hml hv
  obtain ⟨rfl, hW, hK⟩ := hv
  have hx := B.exec
  have hb := B.bytes
  have hr := B.returns
  have hts := atoms_spec (ws := wsX6_drainAndTestBlocked) B.pre
  have hown : s.vm.findClass RX6 = some m.cls := findClass_of_methodNamed B.named
  have hlocks := B.notSynchronized
  have i6 : ∀ w ∈ wsX60, w ∈ wsX6_drainAndTestBlocked := by decide +kernel
  have kl18 := hts (.fieldLink RX6 18 "DosePump$Line" "flow" "I") (by decide +kernel)
  have kl22 := hts (.fieldLink RX6 22 "DosePump$Line" "pressure" "I") (by decide +kernel)
  have kl48 := hts (.fieldLink RX6 48 "DosePump$Line" "tightTicks" "I") (by decide +kernel)
  have hS : va_S (cA bb) s.heap s.heap [] := va_S.rf
  have hl := lv_entry ([.ref (bb + 21 + 14 * n + 9)]) (n := 1) (Nat.le_of_ble_eq_true rfl)
  rw [lg_entry_eq]
  generalize (lg_sl ([.ref (bb + 21 + 14 * n + 9)]) ++ List.replicate (1 - (lg_sl ([.ref (bb + 21 + 14 * n + 9)])).length) Slot.unset).toArray = ls at hl ⊢
  have hl : lv_has ls 1 [(0, .ref (bb + 21 + 14 * n + 9))] := hl
  have J37 : ∀ (H : Heap) (locs : List Loc) (ls : Array Slot) (y : FS) (w0 : Int32), cwf E bb gd ch n y H → va_S (cA bb) s.heap H locs → lv_has ls 1 [(0, .ref (bb + 21 + 14 * n + 9))] → fX6_drainAndTestBlocked x = fX6_drainAndTestBlocked_J37 y w0 → W p l e (headSpec wsX6_drainAndTestBlocked { frames := 1, cells := 0, slots := 0, locals := 21 }).room s m ([.ref (bb + 21 + 14 * n + 9)] : List Value).toArray below meth c H locs 0 0 (MQ below (gQi E (cwf E bb gd ch n) (fX6_drainAndTestBlocked x) (cA bb)) ([.ref (bb + 21 + 14 * n + 9)] : List Value).toArray s 0 0 (cA bb)) (F0 m 37 ls [.int (w0), .ref (bb + 21 + 14 * n + 9)]) := by
    intro H locs ls y w0 hW hS hl hf
    replace hf : fX6_drainAndTestBlocked x = (if (3 : Int32) ≤ w0 then (((sC (sC (sC y 9 3 (w0)) 9 2 (0)) 9 3 (0)), 1)) else (((sC y 9 3 (w0)), 0))) := hf
    refine fx_put (ci := 6) (v := .int (w0)) hx hb hts i6 tyX6_ok nmX6 hown hK (cwf_C (o := 9) hW hn (by decide)) (cA_C hn (by decide)) hS rfl 3 (by decide) kl48 rfl rfl rfl (Nat.le_of_ble_eq_true rfl) dX6_drainAndTestBlocked_37 (fun H locs hat hne hS => ?_)
    have hW : cwf E bb gd ch n (sC y 9 3 (w0)) H := cwf_sC (o := 9) (k := 3) (v := w0) hW hn (by decide) hat hne
    refine lv_aload_n hx hb dX6_drainAndTestBlocked_40 rfl (lv_at hl 0 rfl) ?_
    refine fx_get (ci := 6) (v := .int (w0)) hx hb hts i6 hown hK (cwf_C (o := 9) hW hn (by decide)) rfl 3 (by decide) kl48 rfl dX6_drainAndTestBlocked_41 ?_
    refine lv_iconst (v := 3) hx hb dX6_drainAndTestBlocked_44 (by decide) ?_
    refine lv_icmp_ge (tgt := 50) hx hb dX6_drainAndTestBlocked_45 (by decide) (fun c_45 => ?_) (fun c_45 => ?_)
    · have hf_45 := hf.trans (if_pos c_45)
      refine lv_aload_n hx hb dX6_drainAndTestBlocked_50 rfl (lv_at hl 0 rfl) ?_
      refine lv_iconst (v := 0) hx hb dX6_drainAndTestBlocked_51 (by decide) ?_
      refine fx_put (ci := 6) (v := .int (0)) hx hb hts i6 tyX6_ok nmX6 hown hK (cwf_C (o := 9) hW hn (by decide)) (cA_C hn (by decide)) hS rfl 2 (by decide) kl22 rfl rfl rfl (Nat.le_of_ble_eq_true rfl) dX6_drainAndTestBlocked_52 (fun H locs hat hne hS => ?_)
      have hW : cwf E bb gd ch n (sC (sC y 9 3 (w0)) 9 2 (0)) H := cwf_sC (o := 9) (k := 2) (v := 0) hW hn (by decide) hat hne
      refine lv_aload_n hx hb dX6_drainAndTestBlocked_55 rfl (lv_at hl 0 rfl) ?_
      refine lv_iconst (v := 0) hx hb dX6_drainAndTestBlocked_56 (by decide) ?_
      refine fx_put (ci := 6) (v := .int (0)) hx hb hts i6 tyX6_ok nmX6 hown hK (cwf_C (o := 9) hW hn (by decide)) (cA_C hn (by decide)) hS rfl 3 (by decide) kl48 rfl rfl rfl (Nat.le_of_ble_eq_true rfl) dX6_drainAndTestBlocked_57 (fun H locs hat hne hS => ?_)
      have hW : cwf E bb gd ch n (sC (sC (sC y 9 3 (w0)) 9 2 (0)) 9 3 (0)) H := cwf_sC (o := 9) (k := 3) (v := 0) hW hn (by decide) hat hne
      refine lv_iconst (v := 1) hx hb dX6_drainAndTestBlocked_60 (by decide) ?_
      exact gx_iret hx hb hr (by decide) hlocks hK hf_45 hW hS dX6_drainAndTestBlocked_61
    · have hf_45 := hf.trans (if_neg c_45)
      refine lv_iconst (v := 0) hx hb dX6_drainAndTestBlocked_48 (by decide) ?_
      exact gx_iret hx hb hr (by decide) hlocks hK hf_45 hW hS dX6_drainAndTestBlocked_49
  have hf : fX6_drainAndTestBlocked x = (if (if (0 : Int32) < ((x.2.1 9 2) - (x.2.1 9 1)) then ((x.2.1 9 2) - (x.2.1 9 1)) else (0 : Int32)) < 100 then (fX6_drainAndTestBlocked_J37 (sC x 9 2 (if (0 : Int32) < ((x.2.1 9 2) - (x.2.1 9 1)) then ((x.2.1 9 2) - (x.2.1 9 1)) else (0 : Int32))) 0) else (fX6_drainAndTestBlocked_J37 (sC x 9 2 (if (0 : Int32) < ((x.2.1 9 2) - (x.2.1 9 1)) then ((x.2.1 9 2) - (x.2.1 9 1)) else (0 : Int32))) ((x.2.1 9 3) + 1))) := rfl
  refine lv_aload_n hx hb dX6_drainAndTestBlocked_0 rfl (lv_at hl 0 rfl) ?_
  refine lv_iconst (v := 0) hx hb dX6_drainAndTestBlocked_1 (by decide) ?_
  refine lv_aload_n hx hb dX6_drainAndTestBlocked_2 rfl (lv_at hl 0 rfl) ?_
  refine fx_get (ci := 6) (v := .int (x.2.1 9 2)) hx hb hts i6 hown hK (cwf_C (o := 9) hW hn (by decide)) rfl 2 (by decide) kl22 rfl dX6_drainAndTestBlocked_3 ?_
  refine lv_aload_n hx hb dX6_drainAndTestBlocked_6 rfl (lv_at hl 0 rfl) ?_
  refine fx_get (ci := 6) (v := .int (x.2.1 9 1)) hx hb hts i6 hown hK (cwf_C (o := 9) hW hn (by decide)) rfl 1 (by decide) kl18 rfl dX6_drainAndTestBlocked_7 ?_
  refine lv_isub hx hb dX6_drainAndTestBlocked_10 ?_
  refine va_mmax hx hb (hml.trans hl.1.symm) hown (hts (.methodLink RX6 42 Lib.Math.max.name) (by decide +kernel)) (hts (.static Lib.Math.max.name) (by decide +kernel)) (hts (.initialized "java/lang/Math") (by decide +kernel)) (hts (.code Lib.Math.max.name Lib.Math.max.code 2 (some .int)) (by decide +kernel)) (Nat.le_of_ble_eq_true rfl) (Nat.le_of_ble_eq_true rfl) (Nat.le_of_ble_eq_true rfl) (Nat.le_of_ble_eq_true rfl) dX6_drainAndTestBlocked_11 ?_
  refine fx_put (ci := 6) (v := .int (if (0 : Int32) < ((x.2.1 9 2) - (x.2.1 9 1)) then ((x.2.1 9 2) - (x.2.1 9 1)) else (0 : Int32))) hx hb hts i6 tyX6_ok nmX6 hown hK (cwf_C (o := 9) hW hn (by decide)) (cA_C hn (by decide)) hS rfl 2 (by decide) kl22 rfl rfl rfl (Nat.le_of_ble_eq_true rfl) dX6_drainAndTestBlocked_14 (fun H locs hat hne hS => ?_)
  have hW : cwf E bb gd ch n (sC x 9 2 (if (0 : Int32) < ((x.2.1 9 2) - (x.2.1 9 1)) then ((x.2.1 9 2) - (x.2.1 9 1)) else (0 : Int32))) H := cwf_sC (o := 9) (k := 2) (v := if (0 : Int32) < ((x.2.1 9 2) - (x.2.1 9 1)) then ((x.2.1 9 2) - (x.2.1 9 1)) else (0 : Int32)) hW hn (by decide) hat hne
  refine lv_aload_n hx hb dX6_drainAndTestBlocked_17 rfl (lv_at hl 0 rfl) ?_
  refine lv_aload_n hx hb dX6_drainAndTestBlocked_18 rfl (lv_at hl 0 rfl) ?_
  refine fx_get (ci := 6) (v := .int (if (0 : Int32) < ((x.2.1 9 2) - (x.2.1 9 1)) then ((x.2.1 9 2) - (x.2.1 9 1)) else (0 : Int32))) hx hb hts i6 hown hK (cwf_C (o := 9) hW hn (by decide)) rfl 2 (by decide) kl22 rfl dX6_drainAndTestBlocked_19 ?_
  refine lv_bipush (v := 100) hx hb dX6_drainAndTestBlocked_22 (by decide) ?_
  refine lv_icmp_lt (tgt := 36) hx hb dX6_drainAndTestBlocked_24 (by decide) (fun c_24 => ?_) (fun c_24 => ?_)
  · have hf_24 := hf.trans (if_pos c_24)
    refine lv_iconst (v := 0) hx hb dX6_drainAndTestBlocked_36 (by decide) ?_
    exact J37 _ _ _ (sC x 9 2 (if (0 : Int32) < ((x.2.1 9 2) - (x.2.1 9 1)) then ((x.2.1 9 2) - (x.2.1 9 1)) else (0 : Int32))) 0 hW hS (lv_sub hl [0] rfl) hf_24
  · have hf_24 := hf.trans (if_neg c_24)
    refine lv_aload_n hx hb dX6_drainAndTestBlocked_27 rfl (lv_at hl 0 rfl) ?_
    refine fx_get (ci := 6) (v := .int (x.2.1 9 3)) hx hb hts i6 hown hK (cwf_C (o := 9) hW hn (by decide)) rfl 3 (by decide) kl48 rfl dX6_drainAndTestBlocked_28 ?_
    refine lv_iconst (v := 1) hx hb dX6_drainAndTestBlocked_31 (by decide) ?_
    refine lv_iadd hx hb dX6_drainAndTestBlocked_32 ?_
    refine lv_goto (tgt := 37) hx hb dX6_drainAndTestBlocked_33 (by decide) ?_
    exact J37 _ _ _ (sC x 9 2 (if (0 : Int32) < ((x.2.1 9 2) - (x.2.1 9 1)) then ((x.2.1 9 2) - (x.2.1 9 1)) else (0 : Int32))) ((x.2.1 9 3) + 1) hW hS (lv_sub hl [0] rfl) hf_24

theorem okX6_drainAndTestBlocked {x : FS} (hok : okF x) : okF (fX6_drainAndTestBlocked x).1 := by
  unfold fX6_drainAndTestBlocked fX6_drainAndTestBlocked_J37
  (repeat' split) <;> exact hok
