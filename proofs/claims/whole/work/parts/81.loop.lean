/-! the law's loop -/
theorem law_end {p : Program} {e : Env} {s : State} {m : MethodId} {below : List Frame} {meth : Method} {c : Code} {l : Launch} {b z : Nat} (hx : p.tables.exec = Jvm.exec) (hb : c.code = cL_law) (hr : meth.sig.returnType = ret) (hlocks : meth.locks = false) (hzs : s.heap.size = z) {ce sl : Nat} {H : Heap} {locs : List Loc} {ls : Array Slot} (hS : va_S (nA z) s.heap H locs) (hce : ce ≤ 601024) (hsl : sl ≤ 7293034) : W p l e room_1 s m #[Value.ref b] below meth c H locs ce sl (lw_Z below #[Value.ref b] s) (F0 m 1073 ls []) := by
  refine va_forget (fun q hq => by rw [hzs]; exact hS.2.2 q hq) ?_
  refine W.widen (k := 601024) (n := 7293034) hce hsl ?_
  refine lv_iconst (v := 1) hx hb dL_law_1073 (by decide) ?_
  exact lw_ret hx hb hr hlocks dL_law_1074
theorem law_gt {i L : Nat} (hi : i ≤ 4200) (hL : L ≤ 4096) (h : ¬ nI i > nI L - 8) : i + 8 ≤ L := by
  have h2 := pk_sub_toInt (a := L) (b := 8) (by omega) (by omega)
  rw [show nI 8 = (8 : Int32) from rfl] at h2
  have h3 : ¬ (nI L - 8) < nI i := h
  rw [Int32.lt_iff_toInt_lt, h2, nI_toInt (by omega)] at h3
  omega
set_option maxHeartbeats 4000000 in
set_option maxRecDepth 100000 in
theorem law_switch {p : Program} {e : Env} {s : State} {m : MethodId} {below : List Frame} {meth : Method} {c : Code} {l : Launch} {b L : Nat} {xs : Nat → Int32} {E : eE} {z : Nat} {Q : State → Prop} (C : LC p l s m c b L xs E z) {i k ce sl : Nat} {x : PS} {f : Nat → Int64} {y : RS} {H : Heap} {locs : List Loc} {ls : Array Slot} (hi : i + 8 ≤ L) (hs : Sim (k + 1) x y) (hB : cW E z (x, f) y H) (hS : va_S (nA z) s.heap H locs) (hl : lv_has ls 7 [(4, .int (nI i)), (3, .ref (z + 109)), (2, .ref (z + 63)), (1, .ref z), (0, .ref b)]) (hce : ce + 2 ≤ 601024) (hsl : sl + 12 ≤ 7293034) (KC : (∀ (x : PS) (f : Nat → Int64) (y : RS) (H : Heap) (locs : List Loc) (ls : Array Slot), Sim k x y → cW E z (x, f) y H → va_S (nA z) s.heap H locs → lv_has ls 7 [(4, .int (nI i)), (3, .ref (z + 109)), (2, .ref (z + 63)), (1, .ref z), (0, .ref b)] → W p l e room_1 s m #[Value.ref b] below meth c H locs (ce + 2) (sl + 12) Q (F0 m 1067 ls []))) : W p l e room_1 s m #[Value.ref b] below meth c H locs ce sl Q (F0 m 33 ls []) := by
  have C0 := C
  obtain ⟨hx, hb, hml, hown, hts, hX0, hbz, hzs, hK, hxs, hNc, hl9, hL⟩ := C
  refine lv_aload_n hx hb dL_law_33 rfl (lv_at hl 4 rfl) ?_
  refine lv_iload hx hb dL_law_34 (lv_at hl 0 rfl) ?_
  refine qx_sld (q := i) hx hb hX0 hbz hzs hS rfl (by omega) hL dL_law_36 ?_
  refine lv_bipush (v := 15) hx hb dL_law_37 (by decide) ?_
  refine lv_iand hx hb dL_law_39 ?_
  obtain ⟨j, hj, ej⟩ := pk_andE (xs i) (m := 15) 4 (by decide)
  have hj : j < 16 := hj
  rcases (show j = 0 ∨ j = 1 ∨ j = 2 ∨ j = 3 ∨ j = 4 ∨ j = 5 ∨ j = 6 ∨ j = 7 ∨ j = 8 ∨ j = 9 ∨ j = 10 ∨ j = 11 ∨ j = 12 ∨ j = 13 ∨ j = 14 ∨ j = 15 by omega) with rfl | rfl | rfl | rfl | rfl | rfl | rfl | rfl | rfl | rfl | rfl | rfl | rfl | rfl | rfl | rfl
  · refine gx_tab (tgt := 112) hx hb ej dL_law_40 (by decide) (by decide) rfl (by decide) ?_
    exact lc_drug C0 hi hs hB hS hl hce hsl KC
  · refine gx_tab (tgt := 224) hx hb ej dL_law_40 (by decide) (by decide) rfl (by decide) ?_
    exact lc_more C0 hi hs hB hS hl hce hsl KC
  · refine gx_tab (tgt := 322) hx hb ej dL_law_40 (by decide) (by decide) rfl (by decide) ?_
    exact lc_key C0 hi hs hB hS hl hce hsl KC
  · refine gx_tab (tgt := 378) hx hb ej dL_law_40 (by decide) (by decide) rfl (by decide) ?_
    exact lc_ticks C0 hi hs hB hS hl hce hsl KC
  · refine gx_tab (tgt := 434) hx hb ej dL_law_40 (by decide) (by decide) rfl (by decide) ?_
    exact lc_flow C0 hi hs hB hS hl hce hsl KC
  · refine gx_tab (tgt := 502) hx hb ej dL_law_40 (by decide) (by decide) rfl (by decide) ?_
    exact lc_air C0 hi hs hB hS hl hce hsl KC
  · refine gx_tab (tgt := 593) hx hb ej dL_law_40 (by decide) (by decide) rfl (by decide) ?_
    exact lc_door C0 hi hs hB hS hl hce hsl KC
  · refine gx_tab (tgt := 684) hx hb ej dL_law_40 (by decide) (by decide) rfl (by decide) ?_
    exact lc_mains C0 hi hs hB hS hl hce hsl KC
  · refine gx_tab (tgt := 725) hx hb ej dL_law_40 (by decide) (by decide) rfl (by decide) ?_
    exact lc_about C0 hi hs hB hS hl hce hsl KC
  · refine gx_tab (tgt := 781) hx hb ej dL_law_40 (by decide) (by decide) rfl (by decide) ?_
    exact lc_channel C0 hi hs hB hS hl hce hsl KC
  · refine gx_tab (tgt := 849) hx hb ej dL_law_40 (by decide) (by decide) rfl (by decide) ?_
    exact lc_entry C0 hi hs hB hS hl hce hsl KC
  · refine gx_tab (tgt := 905) hx hb ej dL_law_40 (by decide) (by decide) rfl (by decide) ?_
    exact lc_rate C0 hi hs hB hS hl hce hsl KC
  · refine gx_tab (tgt := 985) hx hb ej dL_law_40 (by decide) (by decide) rfl (by decide) ?_
    exact lc_log C0 hi hs hB hS hl hce hsl KC
  · refine gx_tab (tgt := 1053) hx hb ej dL_law_40 (by decide) (by decide) rfl (by decide) ?_
    exact lc_chain C0 hi hs hB hS hl hce hsl KC
  · refine lv_tableOut (tgt := 1067) hx hb dL_law_40 (Or.inr (by rw [ej]; decide)) (by decide) ?_
    exact W.widen (k := ce + 2) (n := sl + 12) (by omega) (by omega) (KC x f y H locs ls (sim_dn hs) hB hS hl)
  · refine lv_tableOut (tgt := 1067) hx hb dL_law_40 (Or.inr (by rw [ej]; decide)) (by decide) ?_
    exact W.widen (k := ce + 2) (n := sl + 12) (by omega) (by omega) (KC x f y H locs ls (sim_dn hs) hB hS hl)
set_option maxHeartbeats 4000000 in
theorem law_loop {p : Program} {e : Env} {s : State} {m : MethodId} {below : List Frame} {meth : Method} {c : Code} {l : Launch} {b L : Nat} {xs : Nat → Int32} {E : eE} {z : Nat} (C : LC p l s m c b L xs E z) (hr : meth.sig.returnType = ret) (hlocks : meth.locks = false) : ∀ (n j : Nat), j + n = 513 → ∀ (x : PS) (f : Nat → Int64) (y : RS) (H : Heap) (locs : List Loc) (ls : Array Slot), Sim n x y → cW E z (x, f) y H → va_S (nA z) s.heap H locs → lv_has ls 7 [(4, .int (nI (8 * j))), (3, .ref (z + 109)), (2, .ref (z + 63)), (1, .ref z), (0, .ref b)] → W p l e room_1 s m #[Value.ref b] below meth c H locs (110 + 2 * j) (36645 + 12 * j) (lw_Z below #[Value.ref b] s) (F0 m 23 ls []) := by
  intro n
  have C0 := C
  obtain ⟨hx, hb, hml, hown, hts, hX0, hbz, hzs, hK, hxs, hNc, hl9, hL⟩ := C
  induction n with
  | zero =>
    intro j hjn x f y H locs ls hs hB hS hl
    refine lv_iload hx hb dL_law_23 (lv_at hl 0 rfl) ?_
    refine lv_aload_n hx hb dL_law_25 rfl (lv_at hl 4 rfl) ?_
    refine qx_len hx hb hX0 hbz hzs hS dL_law_26 ?_
    refine lv_bipush (v := 8) hx hb dL_law_27 (by decide) ?_
    refine lv_isub hx hb dL_law_29 ?_
    refine lv_icmp_gt (tgt := 1073) hx hb dL_law_30 (by decide) (fun _ => law_end hx hb hr hlocks hzs hS (by omega) (by omega)) (fun c9 => ?_)
    exact absurd (law_gt (by omega) hL c9) (by omega)
  | succ k ih =>
    intro j hjn x f y H locs ls hs hB hS hl
    refine lv_iload hx hb dL_law_23 (lv_at hl 0 rfl) ?_
    refine lv_aload_n hx hb dL_law_25 rfl (lv_at hl 4 rfl) ?_
    refine qx_len hx hb hX0 hbz hzs hS dL_law_26 ?_
    refine lv_bipush (v := 8) hx hb dL_law_27 (by decide) ?_
    refine lv_isub hx hb dL_law_29 ?_
    refine lv_icmp_gt (tgt := 1073) hx hb dL_law_30 (by decide) (fun _ => law_end hx hb hr hlocks hzs hS (by omega) (by omega)) (fun c9 => ?_)
    refine law_switch C0 (law_gt (by omega) hL c9) hs hB hS hl (by omega) (by omega) (fun x f y H locs ls hs hB hS hl => ?_)
    refine lv_iinc (k := 0) (v := nI (8 * (j + 1))) (lv' := [(4, .int (nI (8 * (j + 1)))), (3, .ref (z + 109)), (2, .ref (z + 63)), (1, .ref z), (0, .ref b)]) hx hb dL_law_1067 hl rfl (nI_add (8 * j) 8) (by decide) rfl (fun ls hl => ?_)
    refine lv_goto (tgt := 23) hx hb dL_law_1070 (by decide) ?_
    exact ih (j + 1) (by omega) x f y H locs ls hs hB hS hl
