set_option maxHeartbeats 4000000 in
set_option maxRecDepth 100000 in
theorem lc_flow {p : Program} {e : Env} {s : State} {m : MethodId} {below : List Frame} {meth : Method} {c : Code} {l : Launch} {b L : Nat} {xs : Nat → Int32} {E : eE} {z : Nat} {Q : State → Prop} (C : LC p l s m c b L xs E z) {i k ce sl : Nat} {x : PS} {f : Nat → Int64} {y : RS} {H : Heap} {locs : List Loc} {ls : Array Slot} (hi : i + 8 ≤ L) (hs : Sim (k + 1) x y) (hB : cW E z (x, f) y H) (hS : va_S (nA z) s.heap H locs) (hl : lv_has ls 7 [(4, .int (nI i)), (3, .ref (z + 109)), (2, .ref (z + 63)), (1, .ref z), (0, .ref b)]) (hce : ce + 2 ≤ 601024) (hsl : sl + 12 ≤ 7293034) (KC : (∀ (x : PS) (f : Nat → Int64) (y : RS) (H : Heap) (locs : List Loc) (ls : Array Slot), Sim k x y → cW E z (x, f) y H → va_S (nA z) s.heap H locs → lv_has ls 7 [(4, .int (nI i)), (3, .ref (z + 109)), (2, .ref (z + 63)), (1, .ref z), (0, .ref b)] → W p l e room_1 s m #[Value.ref b] below meth c H locs (ce + 2) (sl + 12) Q (F0 m 1067 ls []))) : W p l e room_1 s m #[Value.ref b] below meth c H locs ce sl Q (F0 m 434 ls []) := by
  obtain ⟨hx, hb, hml, hown, hts, hX0, hbz, hzs, hK, hxs, hNc, hl9, hL⟩ := C
  have hpre := sim_pre hs
  refine lv_aload_n hx hb dL_law_434 rfl (lv_at hl 3 rfl) ?_
  refine lv_aload_n hx hb dL_law_435 rfl (lv_at hl 4 rfl) ?_
  refine lv_iload hx hb dL_law_436 (lv_at hl 0 rfl) ?_
  refine lv_iconst (v := 1) hx hb dL_law_438 (by decide) ?_
  refine lv_iadd hx hb dL_law_439 ?_
  refine qx_sld (q := i + 1) hx hb hX0 hbz hzs hS (nI_add i 1) (by omega) hL dL_law_440 ?_
  refine lv_aload_n hx hb dL_law_441 rfl (lv_at hl 4 rfl) ?_
  refine lv_iload hx hb dL_law_442 (lv_at hl 0 rfl) ?_
  refine lv_iconst (v := 2) hx hb dL_law_444 (by decide) ?_
  refine lv_iadd hx hb dL_law_445 ?_
  refine qx_sld (q := i + 2) hx hb hX0 hbz hzs hS (nI_add i 2) (by omega) hL dL_law_446 ?_
  refine lv_aload_n hx hb dL_law_447 rfl (lv_at hl 1 rfl) ?_
  refine qx_L (g := (gL_flow (xs (i + 1)) (xs (i + 2)) x f)) (As := [.ref (z + 0), .int (xs (i + 1)), .int (xs (i + 2)), .ref (z + 109)]) (rest := []) ⟨hx, hb, hml, hown, hts⟩ (mL_flow l hl9 E z (z + 109) _ z_oa x f (xs (i + 1)) (xs (i + 2)) cod_flow) (vx_cwSW 4 hts (by unfold va_wsS; exact goodIn_app (goodIn_of _ (by decide +kernel)) gi_L_flow) rfl rfl rfl (by decide +kernel) ⟨(Nat.le_of_ble_eq_true rfl), (Nat.le_of_ble_eq_true rfl)⟩) hB hK hxs hNc rfl hl.1 rfl (Nat.le_of_ble_eq_true rfl) dL_law_448 ⟨by show ce + 2 ≤ 601024; omega, by show sl + 12 ≤ 7293034; omega⟩ hS (fun H locs hB hS => ?_)
  have hR9 := sim_flow (p1 := (xs (i + 1))) (p2 := (xs (i + 2))) (f := f) hs
  generalize (gL_flow (xs (i + 1)) (xs (i + 2)) x f) = g at hB hR9 ⊢
  refine lv_istore (lv' := [(5, .int g.2), (4, .int (nI i)), (3, .ref (z + 109)), (2, .ref (z + 63)), (1, .ref z), (0, .ref b)]) hx hb dL_law_451 hl (by decide) rfl (fun ls hl => ?_)
  refine lv_aload_n hx hb dL_law_453 rfl (lv_at hl 3 rfl) ?_
  refine lv_aload_n hx hb dL_law_454 rfl (lv_at hl 5 rfl) ?_
  refine lv_iload hx hb dL_law_455 (lv_at hl 1 rfl) ?_
  refine lv_iconst (v := 1) hx hb dL_law_457 (by decide) ?_
  refine lv_iadd hx hb dL_law_458 ?_
  refine qx_sld (q := i + 1) hx hb hX0 hbz hzs hS (nI_add i 1) (by omega) hL dL_law_459 ?_
  refine lv_aload_n hx hb dL_law_460 rfl (lv_at hl 5 rfl) ?_
  refine lv_iload hx hb dL_law_461 (lv_at hl 1 rfl) ?_
  refine lv_iconst (v := 2) hx hb dL_law_463 (by decide) ?_
  refine lv_iadd hx hb dL_law_464 ?_
  refine qx_sld (q := i + 2) hx hb hX0 hbz hzs hS (nI_add i 2) (by omega) hL dL_law_465 ?_
  refine gy_i (As := [.int (xs (i + 1)), .int (xs (i + 2))]) (rest := []) ⟨hx, hb, hml, hown, hts⟩ (mX11_flow l E (z + 63) y (xs (i + 1)) (xs (i + 2)) (601 * (k + 1)) (4824 * (k + 1)) hs.2.1) (cwV 2 hts (by unfold wsV; exact goodIn_app (goodIn_of _ (by decide +kernel)) gi_X11_flow) rfl rfl rfl (by decide +kernel) ⟨(Nat.le_of_ble_eq_true rfl), (Nat.le_of_ble_eq_true rfl)⟩) hB.2.2 hK (fx_recv hK (rwc_0 hB.2.2) rfl) rfl hl.1 rfl (Nat.le_of_ble_eq_true rfl) dL_law_466 ⟨by show ce + _ ≤ 601024; omega, by show sl + _ ≤ 7293034; omega⟩ hS rA_nA (fun H locs hR hz hk hS => ?_)
  have hB := cW_m hB hz hk hR
  generalize (fX11_flow (xs (i + 1)) (xs (i + 2)) y) = r at hB hR9 ⊢
  refine lv_istore (lv' := [(6, .int r.2), (5, .int g.2), (4, .int (nI i)), (3, .ref (z + 109)), (2, .ref (z + 63)), (1, .ref z), (0, .ref b)]) hx hb dL_law_469 hl (by decide) rfl (fun ls hl => ?_)
  refine lv_aload_n hx hb dL_law_471 rfl (lv_at hl 4 rfl) ?_
  refine gy_i (As := []) (rest := []) ⟨hx, hb, hml, hown, hts⟩ (mX11_thrown l E (z + 63) r.1) (cwV 0 hts (by unfold wsV; exact goodIn_app (goodIn_of _ (by decide +kernel)) gi_X11_thrown) rfl rfl rfl (by decide +kernel) ⟨(Nat.le_of_ble_eq_true rfl), (Nat.le_of_ble_eq_true rfl)⟩) hB.2.2 hK (fx_recv hK (rwc_0 hB.2.2) rfl) rfl hl.1 rfl (Nat.le_of_ble_eq_true rfl) dL_law_472 ⟨by show ce + _ ≤ 601024; omega, by show sl + _ ≤ 7293034; omega⟩ hS rA_nA (fun H locs hR hz hk hS => ?_)
  have hB := cW_m hB hz hk hR
  refine lv_iload hx hb dL_law_475 (lv_at hl 1 rfl) ?_
  refine lv_icmp_eq (tgt := 482) hx hb dL_law_477 (by decide) (fun c9 => ?_) (fun c9 => (c9 (by first | exact hR9.1 | exact (hR9.1).symm)).elim)
  refine lv_iload hx hb dL_law_482 (lv_at hl 1 rfl) ?_
  refine lv_if_ne (tgt := 499) hx hb dL_law_484 (by decide) (fun c7 => ?_) (fun c7 => ?_)
  · refine lv_goto (tgt := 1067) hx hb dL_law_499 (by decide) ?_
    exact W.widen (k := ce + 2) (n := sl + 12) (by omega) (by omega) (KC g.1.1 g.1.2 r.1 _ _ _ hR9.2.2 hB hS (lv_sub hl [2, 3, 4, 5, 6] rfl))
  · refine lv_aload_n hx hb dL_law_487 rfl (lv_at hl 3 rfl) ?_
    refine lv_iconst (v := 0) hx hb dL_law_488 (by decide) ?_
    refine qx_out hx hb hK hB dL_law_489 ?_
    refine lv_iload hx hb dL_law_490 (lv_at hl 0 rfl) ?_
    refine lv_i2l (v := r.2.toInt64) hx hb dL_law_492 rfl ?_
    refine W.lcmp hx hb dL_law_493 ?_
    refine lv_if_eq (tgt := 499) hx hb dL_law_494 (by decide) (fun c9 => ?_) (fun c9 => absurd (show lg_cmp (g.1.2 0) r.2.toInt64 = 0 by rw [hR9.2.1 c7]; exact lg_self) c9)
    refine lv_goto (tgt := 1067) hx hb dL_law_499 (by decide) ?_
    exact W.widen (k := ce + 2) (n := sl + 12) (by omega) (by omega) (KC g.1.1 g.1.2 r.1 _ _ _ hR9.2.2 hB hS (lv_sub hl [2, 3, 4, 5, 6] rfl))
