set_option maxHeartbeats 4000000 in
set_option maxRecDepth 100000 in
theorem lc_chain {p : Program} {e : Env} {s : State} {m : MethodId} {below : List Frame} {meth : Method} {c : Code} {l : Launch} {b L : Nat} {xs : Nat → Int32} {E : eE} {z : Nat} {Q : State → Prop} (C : LC p l s m c b L xs E z) {i k ce sl : Nat} {x : PS} {f : Nat → Int64} {y : RS} {H : Heap} {locs : List Loc} {ls : Array Slot} (hi : i + 8 ≤ L) (hs : Sim (k + 1) x y) (hB : cW E z (x, f) y H) (hS : va_S (nA z) s.heap H locs) (hl : lv_has ls 7 [(4, .int (nI i)), (3, .ref (z + 109)), (2, .ref (z + 63)), (1, .ref z), (0, .ref b)]) (hce : ce + 2 ≤ 601024) (hsl : sl + 12 ≤ 7293034) (KC : (∀ (x : PS) (f : Nat → Int64) (y : RS) (H : Heap) (locs : List Loc) (ls : Array Slot), Sim k x y → cW E z (x, f) y H → va_S (nA z) s.heap H locs → lv_has ls 7 [(4, .int (nI i)), (3, .ref (z + 109)), (2, .ref (z + 63)), (1, .ref z), (0, .ref b)] → W p l e room_1 s m #[Value.ref b] below meth c H locs (ce + 2) (sl + 12) Q (F0 m 1067 ls []))) : W p l e room_1 s m #[Value.ref b] below meth c H locs ce sl Q (F0 m 1053 ls []) := by
  obtain ⟨hx, hb, hml, hown, hts, hX0, hbz, hzs, hK, hxs, hNc, hl9, hL⟩ := C
  have hpre := sim_pre hs
  refine lv_aload_n hx hb dL_law_1053 rfl (lv_at hl 3 rfl) ?_
  refine gy_l (As := []) (rest := []) ⟨hx, hb, hml, hown, hts⟩ (mX10_chain l E z x) (cwV 0 hts (by unfold wsV; exact goodIn_app (goodIn_of _ (by decide +kernel)) gi_X10_chain) rfl rfl rfl (by decide +kernel) ⟨(Nat.le_of_ble_eq_true rfl), (Nat.le_of_ble_eq_true rfl)⟩) hB.2.1.1 hK (fx_recv hK (pw_P (o := 0) hB.2.1.1 (by decide)) rfl) rfl hl.1 rfl (Nat.le_of_ble_eq_true rfl) dL_law_1054 ⟨by show ce ≤ 601024; omega, by show sl ≤ 7293034; omega⟩ hS cA_nA (fun H locs hR hz hk hS => ?_)
  have hB := cW_p hB hz hk hR
  refine lv_aload_n hx hb dL_law_1057 rfl (lv_at hl 2 rfl) ?_
  refine gy_l (As := []) (rest := [.long (fX10_chain x)]) ⟨hx, hb, hml, hown, hts⟩ (mX11_chain l E (z + 63) y  (601 * (k + 1)) (4824 * (k + 1)) hs.2.1) (cwV 0 hts (by unfold wsV; exact goodIn_app (goodIn_of _ (by decide +kernel)) gi_X11_chain) rfl rfl rfl (by decide +kernel) ⟨(Nat.le_of_ble_eq_true rfl), (Nat.le_of_ble_eq_true rfl)⟩) hB.2.2 hK (fx_recv hK (rwc_0 hB.2.2) rfl) rfl hl.1 rfl (Nat.le_of_ble_eq_true rfl) dL_law_1058 ⟨by show ce ≤ 601024; omega, by show sl ≤ 7293034; omega⟩ hS rA_nA (fun H locs hR hz hk hS => ?_)
  have hB := cW_m hB hz hk hR
  refine W.lcmp hx hb dL_law_1061 ?_
  refine lv_if_eq (tgt := 1067) hx hb dL_law_1062 (by decide) (fun c9 => ?_) (fun c9 => absurd (show lg_cmp (fX10_chain x) (fX11_chain y).2 = 0 by rw [(sim_chain hs).1]; exact lg_self) c9)
  exact W.widen (k := ce + 2) (n := sl + 12) (by omega) (by omega) (KC x f (fX11_chain y).1 _ _ _ (sim_chain hs).2 hB hS (lv_sub hl [0, 1, 2, 3, 4] rfl))
