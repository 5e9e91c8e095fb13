set_option maxHeartbeats 4000000 in
set_option maxRecDepth 100000 in
theorem lc_mains {p : Program} {e : Env} {s : State} {m : MethodId} {below : List Frame} {meth : Method} {c : Code} {l : Launch} {b L : Nat} {xs : Nat → Int32} {E : eE} {z : Nat} {Q : State → Prop} (C : LC p l s m c b L xs E z) {i k ce sl : Nat} {x : PS} {f : Nat → Int64} {y : RS} {H : Heap} {locs : List Loc} {ls : Array Slot} (hi : i + 8 ≤ L) (hs : Sim (k + 1) x y) (hB : cW E z (x, f) y H) (hS : va_S (nA z) s.heap H locs) (hl : lv_has ls 7 [(4, .int (nI i)), (3, .ref (z + 109)), (2, .ref (z + 63)), (1, .ref z), (0, .ref b)]) (hce : ce + 2 ≤ 601024) (hsl : sl + 12 ≤ 7293034) (KC : (∀ (x : PS) (f : Nat → Int64) (y : RS) (H : Heap) (locs : List Loc) (ls : Array Slot), Sim k x y → cW E z (x, f) y H → va_S (nA z) s.heap H locs → lv_has ls 7 [(4, .int (nI i)), (3, .ref (z + 109)), (2, .ref (z + 63)), (1, .ref z), (0, .ref b)] → W p l e room_1 s m #[Value.ref b] below meth c H locs (ce + 2) (sl + 12) Q (F0 m 1067 ls []))) : W p l e room_1 s m #[Value.ref b] below meth c H locs ce sl Q (F0 m 684 ls []) := by
  obtain ⟨hx, hb, hml, hown, hts, hX0, hbz, hzs, hK, hxs, hNc, hl9, hL⟩ := C
  have hpre := sim_pre hs
  by_cases hbo : xs (i + 1) = 0
  · refine lv_aload_n hx hb dL_law_684 rfl (lv_at hl 3 rfl) ?_
    refine lv_aload_n hx hb dL_law_685 rfl (lv_at hl 4 rfl) ?_
    refine lv_iload hx hb dL_law_686 (lv_at hl 0 rfl) ?_
    refine lv_iconst (v := 1) hx hb dL_law_688 (by decide) ?_
    refine lv_iadd hx hb dL_law_689 ?_
    refine qx_sld (q := i + 1) hx hb hX0 hbz hzs hS (nI_add i 1) (by omega) hL dL_law_690 ?_
    refine lv_if_eq (tgt := 698) hx hb dL_law_691 (by decide) (fun c9 => ?_) (fun c9 => absurd hbo c9)
    refine lv_iconst (v := 0) hx hb dL_law_698 (by decide) ?_
    refine gy_i (As := [.int 0]) (rest := []) ⟨hx, hb, hml, hown, hts⟩ (mX10_mains l E z x 0 (Or.inl rfl) hpre.2.2.2.2) (cwV 1 hts (by unfold wsV; exact goodIn_app (goodIn_of _ (by decide +kernel)) gi_X10_mains) rfl rfl rfl (by decide +kernel) ⟨(Nat.le_of_ble_eq_true rfl), (Nat.le_of_ble_eq_true rfl)⟩) hB.2.1.1 hK (fx_recv hK (pw_P (o := 0) hB.2.1.1 (by decide)) rfl) rfl hl.1 rfl (Nat.le_of_ble_eq_true rfl) dL_law_699 ⟨by show ce ≤ 601024; omega, by show sl ≤ 7293034; omega⟩ hS cA_nA (fun H locs hR hz hk hS => ?_)
    have hB := cW_p hB hz hk hR
    refine lv_aload_n hx hb dL_law_702 rfl (lv_at hl 2 rfl) ?_
    refine lv_aload_n hx hb dL_law_703 rfl (lv_at hl 4 rfl) ?_
    refine lv_iload hx hb dL_law_704 (lv_at hl 0 rfl) ?_
    refine lv_iconst (v := 1) hx hb dL_law_706 (by decide) ?_
    refine lv_iadd hx hb dL_law_707 ?_
    refine qx_sld (q := i + 1) hx hb hX0 hbz hzs hS (nI_add i 1) (by omega) hL dL_law_708 ?_
    refine lv_if_eq (tgt := 716) hx hb dL_law_709 (by decide) (fun c9 => ?_) (fun c9 => absurd hbo c9)
    refine lv_iconst (v := 0) hx hb dL_law_716 (by decide) ?_
    refine gy_i (As := [.int 0]) (rest := [.int (fX10_mains 0 x).2]) ⟨hx, hb, hml, hown, hts⟩ (mX11_mains l E (z + 63) y 0 (Or.inl rfl) hs.2.2.2.1.2.2 (601 * (k + 1)) (4824 * (k + 1)) hs.2.1) (cwV 1 hts (by unfold wsV; exact goodIn_app (goodIn_of _ (by decide +kernel)) gi_X11_mains) rfl rfl rfl (by decide +kernel) ⟨(Nat.le_of_ble_eq_true rfl), (Nat.le_of_ble_eq_true rfl)⟩) hB.2.2 hK (fx_recv hK (rwc_0 hB.2.2) rfl) rfl hl.1 rfl (Nat.le_of_ble_eq_true rfl) dL_law_717 ⟨by show ce ≤ 601024; omega, by show sl ≤ 7293034; omega⟩ hS rA_nA (fun H locs hR hz hk hS => ?_)
    have hB := cW_m hB hz hk hR
    refine lv_icmp_eq (tgt := 1067) hx hb dL_law_720 (by decide) (fun c9 => ?_) (fun c9 => (c9 (by first | exact (sim_mains (p1 := 0) hs (Or.inl rfl)).1 | exact ((sim_mains (p1 := 0) hs (Or.inl rfl)).1).symm)).elim)
    exact W.widen (k := ce + 2) (n := sl + 12) (by omega) (by omega) (KC (fX10_mains 0 x).1 f (fX11_mains 0 y).1 _ _ _ (sim_mains (p1 := 0) hs (Or.inl rfl)).2 hB hS (lv_sub hl [0, 1, 2, 3, 4] rfl))
  · refine lv_aload_n hx hb dL_law_684 rfl (lv_at hl 3 rfl) ?_
    refine lv_aload_n hx hb dL_law_685 rfl (lv_at hl 4 rfl) ?_
    refine lv_iload hx hb dL_law_686 (lv_at hl 0 rfl) ?_
    refine lv_iconst (v := 1) hx hb dL_law_688 (by decide) ?_
    refine lv_iadd hx hb dL_law_689 ?_
    refine qx_sld (q := i + 1) hx hb hX0 hbz hzs hS (nI_add i 1) (by omega) hL dL_law_690 ?_
    refine lv_if_eq (tgt := 698) hx hb dL_law_691 (by decide) (fun c9 => absurd c9 hbo) (fun c9 => ?_)
    refine lv_iconst (v := 1) hx hb dL_law_694 (by decide) ?_
    refine lv_goto (tgt := 699) hx hb dL_law_695 (by decide) ?_
    refine gy_i (As := [.int 1]) (rest := []) ⟨hx, hb, hml, hown, hts⟩ (mX10_mains l E z x 1 (Or.inr rfl) hpre.2.2.2.2) (cwV 1 hts (by unfold wsV; exact goodIn_app (goodIn_of _ (by decide +kernel)) gi_X10_mains) rfl rfl rfl (by decide +kernel) ⟨(Nat.le_of_ble_eq_true rfl), (Nat.le_of_ble_eq_true rfl)⟩) hB.2.1.1 hK (fx_recv hK (pw_P (o := 0) hB.2.1.1 (by decide)) rfl) rfl hl.1 rfl (Nat.le_of_ble_eq_true rfl) dL_law_699 ⟨by show ce ≤ 601024; omega, by show sl ≤ 7293034; omega⟩ hS cA_nA (fun H locs hR hz hk hS => ?_)
    have hB := cW_p hB hz hk hR
    refine lv_aload_n hx hb dL_law_702 rfl (lv_at hl 2 rfl) ?_
    refine lv_aload_n hx hb dL_law_703 rfl (lv_at hl 4 rfl) ?_
    refine lv_iload hx hb dL_law_704 (lv_at hl 0 rfl) ?_
    refine lv_iconst (v := 1) hx hb dL_law_706 (by decide) ?_
    refine lv_iadd hx hb dL_law_707 ?_
    refine qx_sld (q := i + 1) hx hb hX0 hbz hzs hS (nI_add i 1) (by omega) hL dL_law_708 ?_
    refine lv_if_eq (tgt := 716) hx hb dL_law_709 (by decide) (fun c9 => absurd c9 hbo) (fun c9 => ?_)
    refine lv_iconst (v := 1) hx hb dL_law_712 (by decide) ?_
    refine lv_goto (tgt := 717) hx hb dL_law_713 (by decide) ?_
    refine gy_i (As := [.int 1]) (rest := [.int (fX10_mains 1 x).2]) ⟨hx, hb, hml, hown, hts⟩ (mX11_mains l E (z + 63) y 1 (Or.inr rfl) hs.2.2.2.1.2.2 (601 * (k + 1)) (4824 * (k + 1)) hs.2.1) (cwV 1 hts (by unfold wsV; exact goodIn_app (goodIn_of _ (by decide +kernel)) gi_X11_mains) rfl rfl rfl (by decide +kernel) ⟨(Nat.le_of_ble_eq_true rfl), (Nat.le_of_ble_eq_true rfl)⟩) hB.2.2 hK (fx_recv hK (rwc_0 hB.2.2) rfl) rfl hl.1 rfl (Nat.le_of_ble_eq_true rfl) dL_law_717 ⟨by show ce ≤ 601024; omega, by show sl ≤ 7293034; omega⟩ hS rA_nA (fun H locs hR hz hk hS => ?_)
    have hB := cW_m hB hz hk hR
    refine lv_icmp_eq (tgt := 1067) hx hb dL_law_720 (by decide) (fun c9 => ?_) (fun c9 => (c9 (by first | exact (sim_mains (p1 := 1) hs (Or.inr rfl)).1 | exact ((sim_mains (p1 := 1) hs (Or.inr rfl)).1).symm)).elim)
    exact W.widen (k := ce + 2) (n := sl + 12) (by omega) (by omega) (KC (fX10_mains 1 x).1 f (fX11_mains 1 y).1 _ _ _ (sim_mains (p1 := 1) hs (Or.inr rfl)).2 hB hS (lv_sub hl [0, 1, 2, 3, 4] rfl))
