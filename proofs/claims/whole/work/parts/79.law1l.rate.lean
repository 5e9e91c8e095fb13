set_option maxHeartbeats 4000000 in
set_option maxRecDepth 100000 in
theorem lc_rate {p : Program} {e : Env} {s : State} {m : MethodId} {below : List Frame} {meth : Method} {c : Code} {l : Launch} {b L : Nat} {xs : Nat → Int32} {E : eE} {z : Nat} {Q : State → Prop} (C : LC p l s m c b L xs E z) {i k ce sl : Nat} {x : PS} {f : Nat → Int64} {y : RS} {H : Heap} {locs : List Loc} {ls : Array Slot} (hi : i + 8 ≤ L) (hs : Sim (k + 1) x y) (hB : cW E z (x, f) y H) (hS : va_S (nA z) s.heap H locs) (hl : lv_has ls 7 [(4, .int (nI i)), (3, .ref (z + 109)), (2, .ref (z + 63)), (1, .ref z), (0, .ref b)]) (hce : ce + 2 ≤ 601024) (hsl : sl + 12 ≤ 7293034) (KC : (∀ (x : PS) (f : Nat → Int64) (y : RS) (H : Heap) (locs : List Loc) (ls : Array Slot), Sim k x y → cW E z (x, f) y H → va_S (nA z) s.heap H locs → lv_has ls 7 [(4, .int (nI i)), (3, .ref (z + 109)), (2, .ref (z + 63)), (1, .ref z), (0, .ref b)] → W p l e room_1 s m #[Value.ref b] below meth c H locs (ce + 2) (sl + 12) Q (F0 m 1067 ls []))) : W p l e room_1 s m #[Value.ref b] below meth c H locs ce sl Q (F0 m 905 ls []) := by
  obtain ⟨hx, hb, hml, hown, hts, hX0, hbz, hzs, hK, hxs, hNc, hl9, hL⟩ := C
  have hpre := sim_pre hs
  refine lv_aload_n hx hb dL_law_905 rfl (lv_at hl 3 rfl) ?_
  refine lv_aload_n hx hb dL_law_906 rfl (lv_at hl 4 rfl) ?_
  refine lv_iload hx hb dL_law_907 (lv_at hl 0 rfl) ?_
  refine lv_iconst (v := 1) hx hb dL_law_909 (by decide) ?_
  refine lv_iadd hx hb dL_law_910 ?_
  refine qx_sld (q := i + 1) hx hb hX0 hbz hzs hS (nI_add i 1) (by omega) hL dL_law_911 ?_
  refine lv_aload_n hx hb dL_law_912 rfl (lv_at hl 4 rfl) ?_
  refine lv_iload hx hb dL_law_913 (lv_at hl 0 rfl) ?_
  refine lv_iconst (v := 2) hx hb dL_law_915 (by decide) ?_
  refine lv_iadd hx hb dL_law_916 ?_
  refine qx_sld (q := i + 2) hx hb hX0 hbz hzs hS (nI_add i 2) (by omega) hL dL_law_917 ?_
  refine lv_aload_n hx hb dL_law_918 rfl (lv_at hl 4 rfl) ?_
  refine lv_iload hx hb dL_law_919 (lv_at hl 0 rfl) ?_
  refine lv_iconst (v := 3) hx hb dL_law_921 (by decide) ?_
  refine lv_iadd hx hb dL_law_922 ?_
  refine qx_sld (q := i + 3) hx hb hX0 hbz hzs hS (nI_add i 3) (by omega) hL dL_law_923 ?_
  refine lv_aload_n hx hb dL_law_924 rfl (lv_at hl 1 rfl) ?_
  refine qx_L (g := (gL_rate (xs (i + 1)) (xs (i + 2)) (xs (i + 3)) x f)) (As := [.ref (z + 0), .int (xs (i + 1)), .int (xs (i + 2)), .int (xs (i + 3)), .ref (z + 109)]) (rest := []) ⟨hx, hb, hml, hown, hts⟩ (mL_rate l hl9 E z (z + 109) _ z_oa x f (xs (i + 1)) (xs (i + 2)) (xs (i + 3)) cod_rate) (vx_cwSW 5 hts (by unfold va_wsS; exact goodIn_app (goodIn_of _ (by decide +kernel)) gi_L_rate) rfl rfl rfl (by decide +kernel) ⟨(Nat.le_of_ble_eq_true rfl), (Nat.le_of_ble_eq_true rfl)⟩) hB hK hxs hNc rfl hl.1 rfl (Nat.le_of_ble_eq_true rfl) dL_law_925 ⟨by show ce + 2 ≤ 601024; omega, by show sl + 12 ≤ 7293034; omega⟩ hS (fun H locs hB hS => ?_)
  have hR9 := sim_rate (p1 := (xs (i + 1))) (p2 := (xs (i + 2))) (p3 := (xs (i + 3))) (f := f) hs
  generalize (gL_rate (xs (i + 1)) (xs (i + 2)) (xs (i + 3)) x f) = g at hB hR9 ⊢
  refine lv_istore (lv' := [(5, .int g.2), (4, .int (nI i)), (3, .ref (z + 109)), (2, .ref (z + 63)), (1, .ref z), (0, .ref b)]) hx hb dL_law_928 hl (by decide) rfl (fun ls hl => ?_)
  refine lv_aload_n hx hb dL_law_930 rfl (lv_at hl 3 rfl) ?_
  refine lv_aload_n hx hb dL_law_931 rfl (lv_at hl 5 rfl) ?_
  refine lv_iload hx hb dL_law_932 (lv_at hl 1 rfl) ?_
  refine lv_iconst (v := 1) hx hb dL_law_934 (by decide) ?_
  refine lv_iadd hx hb dL_law_935 ?_
  refine qx_sld (q := i + 1) hx hb hX0 hbz hzs hS (nI_add i 1) (by omega) hL dL_law_936 ?_
  refine lv_aload_n hx hb dL_law_937 rfl (lv_at hl 5 rfl) ?_
  refine lv_iload hx hb dL_law_938 (lv_at hl 1 rfl) ?_
  refine lv_iconst (v := 2) hx hb dL_law_940 (by decide) ?_
  refine lv_iadd hx hb dL_law_941 ?_
  refine qx_sld (q := i + 2) hx hb hX0 hbz hzs hS (nI_add i 2) (by omega) hL dL_law_942 ?_
  refine lv_aload_n hx hb dL_law_943 rfl (lv_at hl 5 rfl) ?_
  refine lv_iload hx hb dL_law_944 (lv_at hl 1 rfl) ?_
  refine lv_iconst (v := 3) hx hb dL_law_946 (by decide) ?_
  refine lv_iadd hx hb dL_law_947 ?_
  refine qx_sld (q := i + 3) hx hb hX0 hbz hzs hS (nI_add i 3) (by omega) hL dL_law_948 ?_
  refine gy_i (As := [.int (xs (i + 1)), .int (xs (i + 2)), .int (xs (i + 3))]) (rest := []) ⟨hx, hb, hml, hown, hts⟩ (mX11_rate l E (z + 63) y (xs (i + 1)) (xs (i + 2)) (xs (i + 3)) hs.2.2.1 (601 * (k + 1)) (4824 * (k + 1)) hs.2.1) (cwV 3 hts (by unfold wsV; exact goodIn_app (goodIn_of _ (by decide +kernel)) gi_X11_rate) rfl rfl rfl (by decide +kernel) ⟨(Nat.le_of_ble_eq_true rfl), (Nat.le_of_ble_eq_true rfl)⟩) hB.2.2 hK (fx_recv hK (rwc_0 hB.2.2) rfl) rfl hl.1 rfl (Nat.le_of_ble_eq_true rfl) dL_law_949 ⟨by show ce + _ ≤ 601024; omega, by show sl + _ ≤ 7293034; omega⟩ hS rA_nA (fun H locs hR hz hk hS => ?_)
  have hB := cW_m hB hz hk hR
  generalize (fX11_rate (xs (i + 1)) (xs (i + 2)) (xs (i + 3)) y) = r at hB hR9 ⊢
  refine lv_istore (lv' := [(6, .int r.2), (5, .int g.2), (4, .int (nI i)), (3, .ref (z + 109)), (2, .ref (z + 63)), (1, .ref z), (0, .ref b)]) hx hb dL_law_952 hl (by decide) rfl (fun ls hl => ?_)
  refine lv_aload_n hx hb dL_law_954 rfl (lv_at hl 4 rfl) ?_
  refine gy_i (As := []) (rest := []) ⟨hx, hb, hml, hown, hts⟩ (mX11_thrown l E (z + 63) r.1) (cwV 0 hts (by unfold wsV; exact goodIn_app (goodIn_of _ (by decide +kernel)) gi_X11_thrown) rfl rfl rfl (by decide +kernel) ⟨(Nat.le_of_ble_eq_true rfl), (Nat.le_of_ble_eq_true rfl)⟩) hB.2.2 hK (fx_recv hK (rwc_0 hB.2.2) rfl) rfl hl.1 rfl (Nat.le_of_ble_eq_true rfl) dL_law_955 ⟨by show ce + _ ≤ 601024; omega, by show sl + _ ≤ 7293034; omega⟩ hS rA_nA (fun H locs hR hz hk hS => ?_)
  have hB := cW_m hB hz hk hR
  refine lv_iload hx hb dL_law_958 (lv_at hl 1 rfl) ?_
  refine lv_icmp_eq (tgt := 965) hx hb dL_law_960 (by decide) (fun c9 => ?_) (fun c9 => (c9 (by first | exact hR9.1 | exact (hR9.1).symm)).elim)
  refine lv_iload hx hb dL_law_965 (lv_at hl 1 rfl) ?_
  refine lv_if_ne (tgt := 982) hx hb dL_law_967 (by decide) (fun c7 => ?_) (fun c7 => ?_)
  · refine lv_goto (tgt := 1067) hx hb dL_law_982 (by decide) ?_
    exact W.widen (k := ce + 2) (n := sl + 12) (by omega) (by omega) (KC g.1.1 g.1.2 r.1 _ _ _ hR9.2.2 hB hS (lv_sub hl [2, 3, 4, 5, 6] rfl))
  · refine lv_aload_n hx hb dL_law_970 rfl (lv_at hl 3 rfl) ?_
    refine lv_iconst (v := 0) hx hb dL_law_971 (by decide) ?_
    refine qx_out hx hb hK hB dL_law_972 ?_
    refine lv_iload hx hb dL_law_973 (lv_at hl 0 rfl) ?_
    refine lv_i2l (v := r.2.toInt64) hx hb dL_law_975 rfl ?_
    refine W.lcmp hx hb dL_law_976 ?_
    refine lv_if_eq (tgt := 982) hx hb dL_law_977 (by decide) (fun c9 => ?_) (fun c9 => absurd (show lg_cmp (g.1.2 0) r.2.toInt64 = 0 by rw [hR9.2.1 c7]; exact lg_self) c9)
    refine lv_goto (tgt := 1067) hx hb dL_law_982 (by decide) ?_
    exact W.widen (k := ce + 2) (n := sl + 12) (by omega) (by omega) (KC g.1.1 g.1.2 r.1 _ _ _ hR9.2.2 hB hS (lv_sub hl [2, 3, 4, 5, 6] rfl))
