set_option maxHeartbeats 4000000 in
set_option maxRecDepth 100000 in
theorem lc_more {p : Program} {e : Env} {s : State} {m : MethodId} {below : List Frame} {meth : Method} {c : Code} {l : Launch} {b L : Nat} {xs : Nat → Int32} {E : eE} {z : Nat} {Q : State → Prop} (C : LC p l s m c b L xs E z) {i k ce sl : Nat} {x : PS} {f : Nat → Int64} {y : RS} {H : Heap} {locs : List Loc} {ls : Array Slot} (hi : i + 8 ≤ L) (hs : Sim (k + 1) x y) (hB : cW E z (x, f) y H) (hS : va_S (nA z) s.heap H locs) (hl : lv_has ls 7 [(4, .int (nI i)), (3, .ref (z + 109)), (2, .ref (z + 63)), (1, .ref z), (0, .ref b)]) (hce : ce + 2 ≤ 601024) (hsl : sl + 12 ≤ 7293034) (KC : (∀ (x : PS) (f : Nat → Int64) (y : RS) (H : Heap) (locs : List Loc) (ls : Array Slot), Sim k x y → cW E z (x, f) y H → va_S (nA z) s.heap H locs → lv_has ls 7 [(4, .int (nI i)), (3, .ref (z + 109)), (2, .ref (z + 63)), (1, .ref z), (0, .ref b)] → W p l e room_1 s m #[Value.ref b] below meth c H locs (ce + 2) (sl + 12) Q (F0 m 1067 ls []))) : W p l e room_1 s m #[Value.ref b] below meth c H locs ce sl Q (F0 m 224 ls []) := by
  obtain ⟨hx, hb, hml, hown, hts, hX0, hbz, hzs, hK, hxs, hNc, hl9, hL⟩ := C
  have hpre := sim_pre hs
  refine lv_aload_n hx hb dL_law_224 rfl (lv_at hl 3 rfl) ?_
  refine lv_aload_n hx hb dL_law_225 rfl (lv_at hl 4 rfl) ?_
  refine lv_iload hx hb dL_law_226 (lv_at hl 0 rfl) ?_
  refine lv_iconst (v := 1) hx hb dL_law_228 (by decide) ?_
  refine lv_iadd hx hb dL_law_229 ?_
  refine qx_sld (q := i + 1) hx hb hX0 hbz hzs hS (nI_add i 1) (by omega) hL dL_law_230 ?_
  refine lv_aload_n hx hb dL_law_231 rfl (lv_at hl 4 rfl) ?_
  refine lv_iload hx hb dL_law_232 (lv_at hl 0 rfl) ?_
  refine lv_iconst (v := 2) hx hb dL_law_234 (by decide) ?_
  refine lv_iadd hx hb dL_law_235 ?_
  refine qx_sld (q := i + 2) hx hb hX0 hbz hzs hS (nI_add i 2) (by omega) hL dL_law_236 ?_
  refine lv_aload_n hx hb dL_law_237 rfl (lv_at hl 4 rfl) ?_
  refine lv_iload hx hb dL_law_238 (lv_at hl 0 rfl) ?_
  refine lv_iconst (v := 3) hx hb dL_law_240 (by decide) ?_
  refine lv_iadd hx hb dL_law_241 ?_
  refine qx_sld (q := i + 3) hx hb hX0 hbz hzs hS (nI_add i 3) (by omega) hL dL_law_242 ?_
  refine lv_aload_n hx hb dL_law_243 rfl (lv_at hl 4 rfl) ?_
  refine lv_iload hx hb dL_law_244 (lv_at hl 0 rfl) ?_
  refine lv_iconst (v := 4) hx hb dL_law_246 (by decide) ?_
  refine lv_iadd hx hb dL_law_247 ?_
  refine qx_sld (q := i + 4) hx hb hX0 hbz hzs hS (nI_add i 4) (by omega) hL dL_law_248 ?_
  refine lv_aload_n hx hb dL_law_249 rfl (lv_at hl 4 rfl) ?_
  refine lv_iload hx hb dL_law_250 (lv_at hl 0 rfl) ?_
  refine lv_iconst (v := 5) hx hb dL_law_252 (by decide) ?_
  refine lv_iadd hx hb dL_law_253 ?_
  refine qx_sld (q := i + 5) hx hb hX0 hbz hzs hS (nI_add i 5) (by omega) hL dL_law_254 ?_
  refine lv_aload_n hx hb dL_law_255 rfl (lv_at hl 4 rfl) ?_
  refine lv_iload hx hb dL_law_256 (lv_at hl 0 rfl) ?_
  refine lv_bipush (v := 6) hx hb dL_law_258 (by decide) ?_
  refine lv_iadd hx hb dL_law_260 ?_
  refine qx_sld (q := i + 6) hx hb hX0 hbz hzs hS (nI_add i 6) (by omega) hL dL_law_261 ?_
  refine qx_L (g := (gL_more (xs (i + 1)) (xs (i + 2)) (xs (i + 3)) (xs (i + 4)) (xs (i + 5)) (xs (i + 6)) x f)) (As := [.ref (z + 0), .int (xs (i + 1)), .int (xs (i + 2)), .int (xs (i + 3)), .int (xs (i + 4)), .int (xs (i + 5)), .int (xs (i + 6))]) (rest := []) ⟨hx, hb, hml, hown, hts⟩ (mL_more l hl9 E z (z + 109) _ z_oa x f (xs (i + 1)) (xs (i + 2)) (xs (i + 3)) (xs (i + 4)) (xs (i + 5)) (xs (i + 6)) hpre.1) (vx_cwSW 7 hts (by unfold va_wsS; exact goodIn_app (goodIn_of _ (by decide +kernel)) gi_L_more) rfl rfl rfl (by decide +kernel) ⟨(Nat.le_of_ble_eq_true rfl), (Nat.le_of_ble_eq_true rfl)⟩) hB hK hxs hNc rfl hl.1 rfl (Nat.le_of_ble_eq_true rfl) dL_law_262 ⟨by show ce + 2 ≤ 601024; omega, by show sl + 12 ≤ 7293034; omega⟩ hS (fun H locs hB hS => ?_)
  have hR9 := sim_more (p1 := (xs (i + 1))) (p2 := (xs (i + 2))) (p3 := (xs (i + 3))) (p4 := (xs (i + 4))) (p5 := (xs (i + 5))) (p6 := (xs (i + 6))) (f := f) hs
  generalize (gL_more (xs (i + 1)) (xs (i + 2)) (xs (i + 3)) (xs (i + 4)) (xs (i + 5)) (xs (i + 6)) x f) = g at hB hR9 ⊢
  refine lv_istore (lv' := [(5, .int g.2), (4, .int (nI i)), (3, .ref (z + 109)), (2, .ref (z + 63)), (1, .ref z), (0, .ref b)]) hx hb dL_law_265 hl (by decide) rfl (fun ls hl => ?_)
  refine lv_aload_n hx hb dL_law_267 rfl (lv_at hl 3 rfl) ?_
  refine lv_aload_n hx hb dL_law_268 rfl (lv_at hl 5 rfl) ?_
  refine lv_iload hx hb dL_law_269 (lv_at hl 1 rfl) ?_
  refine lv_iconst (v := 1) hx hb dL_law_271 (by decide) ?_
  refine lv_iadd hx hb dL_law_272 ?_
  refine qx_sld (q := i + 1) hx hb hX0 hbz hzs hS (nI_add i 1) (by omega) hL dL_law_273 ?_
  refine lv_aload_n hx hb dL_law_274 rfl (lv_at hl 5 rfl) ?_
  refine lv_iload hx hb dL_law_275 (lv_at hl 1 rfl) ?_
  refine lv_iconst (v := 2) hx hb dL_law_277 (by decide) ?_
  refine lv_iadd hx hb dL_law_278 ?_
  refine qx_sld (q := i + 2) hx hb hX0 hbz hzs hS (nI_add i 2) (by omega) hL dL_law_279 ?_
  refine lv_aload_n hx hb dL_law_280 rfl (lv_at hl 5 rfl) ?_
  refine lv_iload hx hb dL_law_281 (lv_at hl 1 rfl) ?_
  refine lv_iconst (v := 3) hx hb dL_law_283 (by decide) ?_
  refine lv_iadd hx hb dL_law_284 ?_
  refine qx_sld (q := i + 3) hx hb hX0 hbz hzs hS (nI_add i 3) (by omega) hL dL_law_285 ?_
  refine lv_aload_n hx hb dL_law_286 rfl (lv_at hl 5 rfl) ?_
  refine lv_iload hx hb dL_law_287 (lv_at hl 1 rfl) ?_
  refine lv_iconst (v := 4) hx hb dL_law_289 (by decide) ?_
  refine lv_iadd hx hb dL_law_290 ?_
  refine qx_sld (q := i + 4) hx hb hX0 hbz hzs hS (nI_add i 4) (by omega) hL dL_law_291 ?_
  refine lv_aload_n hx hb dL_law_292 rfl (lv_at hl 5 rfl) ?_
  refine lv_iload hx hb dL_law_293 (lv_at hl 1 rfl) ?_
  refine lv_iconst (v := 5) hx hb dL_law_295 (by decide) ?_
  refine lv_iadd hx hb dL_law_296 ?_
  refine qx_sld (q := i + 5) hx hb hX0 hbz hzs hS (nI_add i 5) (by omega) hL dL_law_297 ?_
  refine lv_aload_n hx hb dL_law_298 rfl (lv_at hl 5 rfl) ?_
  refine lv_iload hx hb dL_law_299 (lv_at hl 1 rfl) ?_
  refine lv_bipush (v := 6) hx hb dL_law_301 (by decide) ?_
  refine lv_iadd hx hb dL_law_303 ?_
  refine qx_sld (q := i + 6) hx hb hX0 hbz hzs hS (nI_add i 6) (by omega) hL dL_law_304 ?_
  refine gy_v (As := [.int (xs (i + 1)), .int (xs (i + 2)), .int (xs (i + 3)), .int (xs (i + 4)), .int (xs (i + 5)), .int (xs (i + 6))]) (rest := []) ⟨hx, hb, hml, hown, hts⟩ (mX11_more l E (z + 63) y (xs (i + 1)) (xs (i + 2)) (xs (i + 3)) (xs (i + 4)) (xs (i + 5)) (xs (i + 6)) (601 * (k + 1)) (4824 * (k + 1)) hs.2.1) (cwV 6 hts (by unfold wsV; exact goodIn_app (goodIn_of _ (by decide +kernel)) gi_X11_more) rfl rfl rfl (by decide +kernel) ⟨(Nat.le_of_ble_eq_true rfl), (Nat.le_of_ble_eq_true rfl)⟩) hB.2.2 hK (fx_recv hK (rwc_0 hB.2.2) rfl) rfl hl.1 rfl (Nat.le_of_ble_eq_true rfl) dL_law_305 ⟨by show ce + _ ≤ 601024; omega, by show sl + _ ≤ 7293034; omega⟩ hS rA_nA (fun H locs hR hz hk hS => ?_)
  have hB := cW_m hB hz hk hR
  generalize (fX11_more (xs (i + 1)) (xs (i + 2)) (xs (i + 3)) (xs (i + 4)) (xs (i + 5)) (xs (i + 6)) y) = r at hB hR9 ⊢
  refine lv_aload_n hx hb dL_law_308 rfl (lv_at hl 3 rfl) ?_
  refine gy_i (As := []) (rest := []) ⟨hx, hb, hml, hown, hts⟩ (mX11_thrown l E (z + 63) r) (cwV 0 hts (by unfold wsV; exact goodIn_app (goodIn_of _ (by decide +kernel)) gi_X11_thrown) rfl rfl rfl (by decide +kernel) ⟨(Nat.le_of_ble_eq_true rfl), (Nat.le_of_ble_eq_true rfl)⟩) hB.2.2 hK (fx_recv hK (rwc_0 hB.2.2) rfl) rfl hl.1 rfl (Nat.le_of_ble_eq_true rfl) dL_law_309 ⟨by show ce + _ ≤ 601024; omega, by show sl + _ ≤ 7293034; omega⟩ hS rA_nA (fun H locs hR hz hk hS => ?_)
  have hB := cW_m hB hz hk hR
  refine lv_iload hx hb dL_law_312 (lv_at hl 0 rfl) ?_
  refine lv_icmp_eq (tgt := 319) hx hb dL_law_314 (by decide) (fun c9 => ?_) (fun c9 => (c9 (by first | exact hR9.1 | exact (hR9.1).symm)).elim)
  refine lv_goto (tgt := 1067) hx hb dL_law_319 (by decide) ?_
  exact W.widen (k := ce + 2) (n := sl + 12) (by omega) (by omega) (KC g.1.1 g.1.2 r _ _ _ hR9.2 hB hS (lv_sub hl [1, 2, 3, 4, 5] rfl))
