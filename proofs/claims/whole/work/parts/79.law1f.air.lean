set_option maxHeartbeats 4000000 in
set_option maxRecDepth 100000 in
theorem lc_air {p : Program} {e : Env} {s : State} {m : MethodId} {below : List Frame} {meth : Method} {c : Code} {l : Launch} {b L : Nat} {xs : Nat → Int32} {E : eE} {z : Nat} {Q : State → Prop} (C : LC p l s m c b L xs E z) {i k ce sl : Nat} {x : PS} {f : Nat → Int64} {y : RS} {H : Heap} {locs : List Loc} {ls : Array Slot} (hi : i + 8 ≤ L) (hs : Sim (k + 1) x y) (hB : cW E z (x, f) y H) (hS : va_S (nA z) s.heap H locs) (hl : lv_has ls 7 [(4, .int (nI i)), (3, .ref (z + 109)), (2, .ref (z + 63)), (1, .ref z), (0, .ref b)]) (hce : ce + 2 ≤ 601024) (hsl : sl + 12 ≤ 7293034) (KC : (∀ (x : PS) (f : Nat → Int64) (y : RS) (H : Heap) (locs : List Loc) (ls : Array Slot), Sim k x y → cW E z (x, f) y H → va_S (nA z) s.heap H locs → lv_has ls 7 [(4, .int (nI i)), (3, .ref (z + 109)), (2, .ref (z + 63)), (1, .ref z), (0, .ref b)] → W p l e room_1 s m #[Value.ref b] below meth c H locs (ce + 2) (sl + 12) Q (F0 m 1067 ls []))) : W p l e room_1 s m #[Value.ref b] below meth c H locs ce sl Q (F0 m 502 ls []) := by
  obtain ⟨hx, hb, hml, hown, hts, hX0, hbz, hzs, hK, hxs, hNc, hl9, hL⟩ := C
  have hpre := sim_pre hs
  by_cases hbo : xs (i + 2) = 0
  · refine lv_aload_n hx hb dL_law_502 rfl (lv_at hl 3 rfl) ?_
    refine lv_aload_n hx hb dL_law_503 rfl (lv_at hl 4 rfl) ?_
    refine lv_iload hx hb dL_law_504 (lv_at hl 0 rfl) ?_
    refine lv_iconst (v := 1) hx hb dL_law_506 (by decide) ?_
    refine lv_iadd hx hb dL_law_507 ?_
    refine qx_sld (q := i + 1) hx hb hX0 hbz hzs hS (nI_add i 1) (by omega) hL dL_law_508 ?_
    refine lv_aload_n hx hb dL_law_509 rfl (lv_at hl 4 rfl) ?_
    refine lv_iload hx hb dL_law_510 (lv_at hl 0 rfl) ?_
    refine lv_iconst (v := 2) hx hb dL_law_512 (by decide) ?_
    refine lv_iadd hx hb dL_law_513 ?_
    refine qx_sld (q := i + 2) hx hb hX0 hbz hzs hS (nI_add i 2) (by omega) hL dL_law_514 ?_
    refine lv_if_eq (tgt := 522) hx hb dL_law_515 (by decide) (fun c9 => ?_) (fun c9 => absurd hbo c9)
    refine lv_iconst (v := 0) hx hb dL_law_522 (by decide) ?_
    refine lv_aload_n hx hb dL_law_523 rfl (lv_at hl 1 rfl) ?_
    refine qx_L (g := (gL_air (xs (i + 1)) 0 x f)) (As := [.ref (z + 0), .int (xs (i + 1)), .int 0, .ref (z + 109)]) (rest := []) ⟨hx, hb, hml, hown, hts⟩ (mL_air l hl9 E z (z + 109) _ z_oa x f (xs (i + 1)) 0 (Or.inl rfl) hpre.2.2.1 cod_air) (vx_cwSW 4 hts (by unfold va_wsS; exact goodIn_app (goodIn_of _ (by decide +kernel)) gi_L_air) rfl rfl rfl (by decide +kernel) ⟨(Nat.le_of_ble_eq_true rfl), (Nat.le_of_ble_eq_true rfl)⟩) hB hK hxs hNc rfl hl.1 rfl (Nat.le_of_ble_eq_true rfl) dL_law_524 ⟨by show ce + 1 ≤ 601024; omega, by show sl + 6 ≤ 7293034; omega⟩ hS (fun H locs hB hS => ?_)
    have hR9 := sim_air (p1 := (xs (i + 1))) (p2 := 0) (f := f) hs (Or.inl rfl)
    generalize (gL_air (xs (i + 1)) 0 x f) = g at hB hR9 ⊢
    refine lv_istore (lv' := [(5, .int g.2), (4, .int (nI i)), (3, .ref (z + 109)), (2, .ref (z + 63)), (1, .ref z), (0, .ref b)]) hx hb dL_law_527 hl (by decide) rfl (fun ls hl => ?_)
    refine lv_aload_n hx hb dL_law_529 rfl (lv_at hl 3 rfl) ?_
    refine lv_aload_n hx hb dL_law_530 rfl (lv_at hl 5 rfl) ?_
    refine lv_iload hx hb dL_law_531 (lv_at hl 1 rfl) ?_
    refine lv_iconst (v := 1) hx hb dL_law_533 (by decide) ?_
    refine lv_iadd hx hb dL_law_534 ?_
    refine qx_sld (q := i + 1) hx hb hX0 hbz hzs hS (nI_add i 1) (by omega) hL dL_law_535 ?_
    refine lv_aload_n hx hb dL_law_536 rfl (lv_at hl 5 rfl) ?_
    refine lv_iload hx hb dL_law_537 (lv_at hl 1 rfl) ?_
    refine lv_iconst (v := 2) hx hb dL_law_539 (by decide) ?_
    refine lv_iadd hx hb dL_law_540 ?_
    refine qx_sld (q := i + 2) hx hb hX0 hbz hzs hS (nI_add i 2) (by omega) hL dL_law_541 ?_
    refine lv_if_eq (tgt := 549) hx hb dL_law_542 (by decide) (fun c9 => ?_) (fun c9 => absurd hbo c9)
    refine lv_iconst (v := 0) hx hb dL_law_549 (by decide) ?_
    refine gy_i (As := [.int (xs (i + 1)), .int 0]) (rest := []) ⟨hx, hb, hml, hown, hts⟩ (mX11_air l E (z + 63) y (xs (i + 1)) 0 (Or.inl rfl) (hs.2.2.2.1.1 _) (601 * (k + 1)) (4824 * (k + 1)) hs.2.1) (cwV 2 hts (by unfold wsV; exact goodIn_app (goodIn_of _ (by decide +kernel)) gi_X11_air) rfl rfl rfl (by decide +kernel) ⟨(Nat.le_of_ble_eq_true rfl), (Nat.le_of_ble_eq_true rfl)⟩) hB.2.2 hK (fx_recv hK (rwc_0 hB.2.2) rfl) rfl hl.1 rfl (Nat.le_of_ble_eq_true rfl) dL_law_550 ⟨by show ce + _ ≤ 601024; omega, by show sl + _ ≤ 7293034; omega⟩ hS rA_nA (fun H locs hR hz hk hS => ?_)
    have hB := cW_m hB hz hk hR
    generalize (fX11_air (xs (i + 1)) 0 y) = r at hB hR9 ⊢
    refine lv_istore (lv' := [(6, .int r.2), (5, .int g.2), (4, .int (nI i)), (3, .ref (z + 109)), (2, .ref (z + 63)), (1, .ref z), (0, .ref b)]) hx hb dL_law_553 hl (by decide) rfl (fun ls hl => ?_)
    refine lv_aload_n hx hb dL_law_555 rfl (lv_at hl 4 rfl) ?_
    refine gy_i (As := []) (rest := []) ⟨hx, hb, hml, hown, hts⟩ (mX11_thrown l E (z + 63) r.1) (cwV 0 hts (by unfold wsV; exact goodIn_app (goodIn_of _ (by decide +kernel)) gi_X11_thrown) rfl rfl rfl (by decide +kernel) ⟨(Nat.le_of_ble_eq_true rfl), (Nat.le_of_ble_eq_true rfl)⟩) hB.2.2 hK (fx_recv hK (rwc_0 hB.2.2) rfl) rfl hl.1 rfl (Nat.le_of_ble_eq_true rfl) dL_law_556 ⟨by show ce + _ ≤ 601024; omega, by show sl + _ ≤ 7293034; omega⟩ hS rA_nA (fun H locs hR hz hk hS => ?_)
    have hB := cW_m hB hz hk hR
    refine lv_iload hx hb dL_law_559 (lv_at hl 1 rfl) ?_
    refine lv_icmp_eq (tgt := 566) hx hb dL_law_561 (by decide) (fun c9 => ?_) (fun c9 => (c9 (by first | exact hR9.1 | exact (hR9.1).symm)).elim)
    refine lv_iload hx hb dL_law_566 (lv_at hl 1 rfl) ?_
    refine lv_if_ne (tgt := 590) hx hb dL_law_568 (by decide) (fun c7 => ?_) (fun c7 => ?_)
    · refine lv_goto (tgt := 1067) hx hb dL_law_590 (by decide) ?_
      exact W.widen (k := ce + 2) (n := sl + 12) (by omega) (by omega) (KC g.1.1 g.1.2 r.1 _ _ _ hR9.2.2 hB hS (lv_sub hl [2, 3, 4, 5, 6] rfl))
    · refine lv_aload_n hx hb dL_law_571 rfl (lv_at hl 3 rfl) ?_
      refine lv_iconst (v := 0) hx hb dL_law_572 (by decide) ?_
      refine qx_out hx hb hK hB dL_law_573 ?_
      refine lv_iload hx hb dL_law_574 (lv_at hl 0 rfl) ?_
      refine lv_if_eq (tgt := 583) hx hb dL_law_576 (by decide) (fun c8 => ?_) (fun c8 => ?_)
      · refine lv_lconst (v := 0) hx hb dL_law_583 (by decide) ?_
        refine W.lcmp hx hb dL_law_584 ?_
        refine lv_if_eq (tgt := 590) hx hb dL_law_585 (by decide) (fun c9 => ?_) (fun c9 => absurd (show lg_cmp (g.1.2 0) _ = 0 by rw [hR9.2.1 c7, if_pos c8]; exact lg_self) c9)
        refine lv_goto (tgt := 1067) hx hb dL_law_590 (by decide) ?_
        exact W.widen (k := ce + 2) (n := sl + 12) (by omega) (by omega) (KC g.1.1 g.1.2 r.1 _ _ _ hR9.2.2 hB hS (lv_sub hl [2, 3, 4, 5, 6] rfl))
      · refine lv_lconst (v := 1) hx hb dL_law_579 (by decide) ?_
        refine lv_goto (tgt := 584) hx hb dL_law_580 (by decide) ?_
        refine W.lcmp hx hb dL_law_584 ?_
        refine lv_if_eq (tgt := 590) hx hb dL_law_585 (by decide) (fun c9 => ?_) (fun c9 => absurd (show lg_cmp (g.1.2 0) _ = 0 by rw [hR9.2.1 c7, if_neg c8]; exact lg_self) c9)
        refine lv_goto (tgt := 1067) hx hb dL_law_590 (by decide) ?_
        exact W.widen (k := ce + 2) (n := sl + 12) (by omega) (by omega) (KC g.1.1 g.1.2 r.1 _ _ _ hR9.2.2 hB hS (lv_sub hl [2, 3, 4, 5, 6] rfl))
  · refine lv_aload_n hx hb dL_law_502 rfl (lv_at hl 3 rfl) ?_
    refine lv_aload_n hx hb dL_law_503 rfl (lv_at hl 4 rfl) ?_
    refine lv_iload hx hb dL_law_504 (lv_at hl 0 rfl) ?_
    refine lv_iconst (v := 1) hx hb dL_law_506 (by decide) ?_
    refine lv_iadd hx hb dL_law_507 ?_
    refine qx_sld (q := i + 1) hx hb hX0 hbz hzs hS (nI_add i 1) (by omega) hL dL_law_508 ?_
    refine lv_aload_n hx hb dL_law_509 rfl (lv_at hl 4 rfl) ?_
    refine lv_iload hx hb dL_law_510 (lv_at hl 0 rfl) ?_
    refine lv_iconst (v := 2) hx hb dL_law_512 (by decide) ?_
    refine lv_iadd hx hb dL_law_513 ?_
    refine qx_sld (q := i + 2) hx hb hX0 hbz hzs hS (nI_add i 2) (by omega) hL dL_law_514 ?_
    refine lv_if_eq (tgt := 522) hx hb dL_law_515 (by decide) (fun c9 => absurd c9 hbo) (fun c9 => ?_)
    refine lv_iconst (v := 1) hx hb dL_law_518 (by decide) ?_
    refine lv_goto (tgt := 523) hx hb dL_law_519 (by decide) ?_
    refine lv_aload_n hx hb dL_law_523 rfl (lv_at hl 1 rfl) ?_
    refine qx_L (g := (gL_air (xs (i + 1)) 1 x f)) (As := [.ref (z + 0), .int (xs (i + 1)), .int 1, .ref (z + 109)]) (rest := []) ⟨hx, hb, hml, hown, hts⟩ (mL_air l hl9 E z (z + 109) _ z_oa x f (xs (i + 1)) 1 (Or.inr rfl) hpre.2.2.1 cod_air) (vx_cwSW 4 hts (by unfold va_wsS; exact goodIn_app (goodIn_of _ (by decide +kernel)) gi_L_air) rfl rfl rfl (by decide +kernel) ⟨(Nat.le_of_ble_eq_true rfl), (Nat.le_of_ble_eq_true rfl)⟩) hB hK hxs hNc rfl hl.1 rfl (Nat.le_of_ble_eq_true rfl) dL_law_524 ⟨by show ce + 1 ≤ 601024; omega, by show sl + 6 ≤ 7293034; omega⟩ hS (fun H locs hB hS => ?_)
    have hR9 := sim_air (p1 := (xs (i + 1))) (p2 := 1) (f := f) hs (Or.inr rfl)
    generalize (gL_air (xs (i + 1)) 1 x f) = g at hB hR9 ⊢
    refine lv_istore (lv' := [(5, .int g.2), (4, .int (nI i)), (3, .ref (z + 109)), (2, .ref (z + 63)), (1, .ref z), (0, .ref b)]) hx hb dL_law_527 hl (by decide) rfl (fun ls hl => ?_)
    refine lv_aload_n hx hb dL_law_529 rfl (lv_at hl 3 rfl) ?_
    refine lv_aload_n hx hb dL_law_530 rfl (lv_at hl 5 rfl) ?_
    refine lv_iload hx hb dL_law_531 (lv_at hl 1 rfl) ?_
    refine lv_iconst (v := 1) hx hb dL_law_533 (by decide) ?_
    refine lv_iadd hx hb dL_law_534 ?_
    refine qx_sld (q := i + 1) hx hb hX0 hbz hzs hS (nI_add i 1) (by omega) hL dL_law_535 ?_
    refine lv_aload_n hx hb dL_law_536 rfl (lv_at hl 5 rfl) ?_
    refine lv_iload hx hb dL_law_537 (lv_at hl 1 rfl) ?_
    refine lv_iconst (v := 2) hx hb dL_law_539 (by decide) ?_
    refine lv_iadd hx hb dL_law_540 ?_
    refine qx_sld (q := i + 2) hx hb hX0 hbz hzs hS (nI_add i 2) (by omega) hL dL_law_541 ?_
    refine lv_if_eq (tgt := 549) hx hb dL_law_542 (by decide) (fun c9 => absurd c9 hbo) (fun c9 => ?_)
    refine lv_iconst (v := 1) hx hb dL_law_545 (by decide) ?_
    refine lv_goto (tgt := 550) hx hb dL_law_546 (by decide) ?_
    refine gy_i (As := [.int (xs (i + 1)), .int 1]) (rest := []) ⟨hx, hb, hml, hown, hts⟩ (mX11_air l E (z + 63) y (xs (i + 1)) 1 (Or.inr rfl) (hs.2.2.2.1.1 _) (601 * (k + 1)) (4824 * (k + 1)) hs.2.1) (cwV 2 hts (by unfold wsV; exact goodIn_app (goodIn_of _ (by decide +kernel)) gi_X11_air) rfl rfl rfl (by decide +kernel) ⟨(Nat.le_of_ble_eq_true rfl), (Nat.le_of_ble_eq_true rfl)⟩) hB.2.2 hK (fx_recv hK (rwc_0 hB.2.2) rfl) rfl hl.1 rfl (Nat.le_of_ble_eq_true rfl) dL_law_550 ⟨by show ce + _ ≤ 601024; omega, by show sl + _ ≤ 7293034; omega⟩ hS rA_nA (fun H locs hR hz hk hS => ?_)
    have hB := cW_m hB hz hk hR
    generalize (fX11_air (xs (i + 1)) 1 y) = r at hB hR9 ⊢
    refine lv_istore (lv' := [(6, .int r.2), (5, .int g.2), (4, .int (nI i)), (3, .ref (z + 109)), (2, .ref (z + 63)), (1, .ref z), (0, .ref b)]) hx hb dL_law_553 hl (by decide) rfl (fun ls hl => ?_)
    refine lv_aload_n hx hb dL_law_555 rfl (lv_at hl 4 rfl) ?_
    refine gy_i (As := []) (rest := []) ⟨hx, hb, hml, hown, hts⟩ (mX11_thrown l E (z + 63) r.1) (cwV 0 hts (by unfold wsV; exact goodIn_app (goodIn_of _ (by decide +kernel)) gi_X11_thrown) rfl rfl rfl (by decide +kernel) ⟨(Nat.le_of_ble_eq_true rfl), (Nat.le_of_ble_eq_true rfl)⟩) hB.2.2 hK (fx_recv hK (rwc_0 hB.2.2) rfl) rfl hl.1 rfl (Nat.le_of_ble_eq_true rfl) dL_law_556 ⟨by show ce + _ ≤ 601024; omega, by show sl + _ ≤ 7293034; omega⟩ hS rA_nA (fun H locs hR hz hk hS => ?_)
    have hB := cW_m hB hz hk hR
    refine lv_iload hx hb dL_law_559 (lv_at hl 1 rfl) ?_
    refine lv_icmp_eq (tgt := 566) hx hb dL_law_561 (by decide) (fun c9 => ?_) (fun c9 => (c9 (by first | exact hR9.1 | exact (hR9.1).symm)).elim)
    refine lv_iload hx hb dL_law_566 (lv_at hl 1 rfl) ?_
    refine lv_if_ne (tgt := 590) hx hb dL_law_568 (by decide) (fun c7 => ?_) (fun c7 => ?_)
    · refine lv_goto (tgt := 1067) hx hb dL_law_590 (by decide) ?_
      exact W.widen (k := ce + 2) (n := sl + 12) (by omega) (by omega) (KC g.1.1 g.1.2 r.1 _ _ _ hR9.2.2 hB hS (lv_sub hl [2, 3, 4, 5, 6] rfl))
    · refine lv_aload_n hx hb dL_law_571 rfl (lv_at hl 3 rfl) ?_
      refine lv_iconst (v := 0) hx hb dL_law_572 (by decide) ?_
      refine qx_out hx hb hK hB dL_law_573 ?_
      refine lv_iload hx hb dL_law_574 (lv_at hl 0 rfl) ?_
      refine lv_if_eq (tgt := 583) hx hb dL_law_576 (by decide) (fun c8 => ?_) (fun c8 => ?_)
      · refine lv_lconst (v := 0) hx hb dL_law_583 (by decide) ?_
        refine W.lcmp hx hb dL_law_584 ?_
        refine lv_if_eq (tgt := 590) hx hb dL_law_585 (by decide) (fun c9 => ?_) (fun c9 => absurd (show lg_cmp (g.1.2 0) _ = 0 by rw [hR9.2.1 c7, if_pos c8]; exact lg_self) c9)
        refine lv_goto (tgt := 1067) hx hb dL_law_590 (by decide) ?_
        exact W.widen (k := ce + 2) (n := sl + 12) (by omega) (by omega) (KC g.1.1 g.1.2 r.1 _ _ _ hR9.2.2 hB hS (lv_sub hl [2, 3, 4, 5, 6] rfl))
      · refine lv_lconst (v := 1) hx hb dL_law_579 (by decide) ?_
        refine lv_goto (tgt := 584) hx hb dL_law_580 (by decide) ?_
        refine W.lcmp hx hb dL_law_584 ?_
        refine lv_if_eq (tgt := 590) hx hb dL_law_585 (by decide) (fun c9 => ?_) (fun c9 => absurd (show lg_cmp (g.1.2 0) _ = 0 by rw [hR9.2.1 c7, if_neg c8]; exact lg_self) c9)
        refine lv_goto (tgt := 1067) hx hb dL_law_590 (by decide) ?_
        exact W.widen (k := ce + 2) (n := sl + 12) (by omega) (by omega) (KC g.1.1 g.1.2 r.1 _ _ _ hR9.2.2 hB hS (lv_sub hl [2, 3, 4, 5, 6] rfl))
