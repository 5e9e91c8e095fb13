set_option maxHeartbeats 4000000 in
set_option maxRecDepth 100000 in
theorem lc_drug {p : Program} {e : Env} {s : State} {m : MethodId} {below : List Frame} {meth : Method} {c : Code} {l : Launch} {b L : Nat} {xs : Nat → Int32} {E : eE} {z : Nat} {Q : State → Prop} (C : LC p l s m c b L xs E z) {i k ce sl : Nat} {x : PS} {f : Nat → Int64} {y : RS} {H : Heap} {locs : List Loc} {ls : Array Slot} (hi : i + 8 ≤ L) (hs : Sim (k + 1) x y) (hB : cW E z (x, f) y H) (hS : va_S (nA z) s.heap H locs) (hl : lv_has ls 7 [(4, .int (nI i)), (3, .ref (z + 109)), (2, .ref (z + 63)), (1, .ref z), (0, .ref b)]) (hce : ce + 2 ≤ 601024) (hsl : sl + 12 ≤ 7293034) (KC : (∀ (x : PS) (f : Nat → Int64) (y : RS) (H : Heap) (locs : List Loc) (ls : Array Slot), Sim k x y → cW E z (x, f) y H → va_S (nA z) s.heap H locs → lv_has ls 7 [(4, .int (nI i)), (3, .ref (z + 109)), (2, .ref (z + 63)), (1, .ref z), (0, .ref b)] → W p l e room_1 s m #[Value.ref b] below meth c H locs (ce + 2) (sl + 12) Q (F0 m 1067 ls []))) : W p l e room_1 s m #[Value.ref b] below meth c H locs ce sl Q (F0 m 112 ls []) := by
  obtain ⟨hx, hb, hml, hown, hts, hX0, hbz, hzs, hK, hxs, hNc, hl9, hL⟩ := C
  have hpre := sim_pre hs
  refine lv_aload_n hx hb dL_law_112 rfl (lv_at hl 3 rfl) ?_
  refine lv_aload_n hx hb dL_law_113 rfl (lv_at hl 4 rfl) ?_
  refine lv_iload hx hb dL_law_114 (lv_at hl 0 rfl) ?_
  refine lv_iconst (v := 1) hx hb dL_law_116 (by decide) ?_
  refine lv_iadd hx hb dL_law_117 ?_
  refine qx_sld (q := i + 1) hx hb hX0 hbz hzs hS (nI_add i 1) (by omega) hL dL_law_118 ?_
  refine lv_aload_n hx hb dL_law_119 rfl (lv_at hl 4 rfl) ?_
  refine lv_iload hx hb dL_law_120 (lv_at hl 0 rfl) ?_
  refine lv_iconst (v := 2) hx hb dL_law_122 (by decide) ?_
  refine lv_iadd hx hb dL_law_123 ?_
  refine qx_sld (q := i + 2) hx hb hX0 hbz hzs hS (nI_add i 2) (by omega) hL dL_law_124 ?_
  refine lv_aload_n hx hb dL_law_125 rfl (lv_at hl 4 rfl) ?_
  refine lv_iload hx hb dL_law_126 (lv_at hl 0 rfl) ?_
  refine lv_iconst (v := 3) hx hb dL_law_128 (by decide) ?_
  refine lv_iadd hx hb dL_law_129 ?_
  refine qx_sld (q := i + 3) hx hb hX0 hbz hzs hS (nI_add i 3) (by omega) hL dL_law_130 ?_
  refine lv_aload_n hx hb dL_law_131 rfl (lv_at hl 4 rfl) ?_
  refine lv_iload hx hb dL_law_132 (lv_at hl 0 rfl) ?_
  refine lv_iconst (v := 4) hx hb dL_law_134 (by decide) ?_
  refine lv_iadd hx hb dL_law_135 ?_
  refine qx_sld (q := i + 4) hx hb hX0 hbz hzs hS (nI_add i 4) (by omega) hL dL_law_136 ?_
  refine lv_aload_n hx hb dL_law_137 rfl (lv_at hl 4 rfl) ?_
  refine lv_iload hx hb dL_law_138 (lv_at hl 0 rfl) ?_
  refine lv_iconst (v := 5) hx hb dL_law_140 (by decide) ?_
  refine lv_iadd hx hb dL_law_141 ?_
  refine qx_sld (q := i + 5) hx hb hX0 hbz hzs hS (nI_add i 5) (by omega) hL dL_law_142 ?_
  refine lv_aload_n hx hb dL_law_143 rfl (lv_at hl 4 rfl) ?_
  refine lv_iload hx hb dL_law_144 (lv_at hl 0 rfl) ?_
  refine lv_bipush (v := 6) hx hb dL_law_146 (by decide) ?_
  refine lv_iadd hx hb dL_law_148 ?_
  refine qx_sld (q := i + 6) hx hb hX0 hbz hzs hS (nI_add i 6) (by omega) hL dL_law_149 ?_
  refine lv_aload_n hx hb dL_law_150 rfl (lv_at hl 4 rfl) ?_
  refine lv_iload hx hb dL_law_151 (lv_at hl 0 rfl) ?_
  refine lv_bipush (v := 7) hx hb dL_law_153 (by decide) ?_
  refine lv_iadd hx hb dL_law_155 ?_
  refine qx_sld (q := i + 7) hx hb hX0 hbz hzs hS (nI_add i 7) (by omega) hL dL_law_156 ?_
  refine qx_L (g := (gL_drug (xs (i + 1)) (xs (i + 2)) (xs (i + 3)) (xs (i + 4)) (xs (i + 5)) (xs (i + 6)) (xs (i + 7)) x f)) (As := [.ref (z + 0), .int (xs (i + 1)), .int (xs (i + 2)), .int (xs (i + 3)), .int (xs (i + 4)), .int (xs (i + 5)), .int (xs (i + 6)), .int (xs (i + 7))]) (rest := []) ⟨hx, hb, hml, hown, hts⟩ (mL_drug l hl9 E z (z + 109) _ z_oa x f (xs (i + 1)) (xs (i + 2)) (xs (i + 3)) (xs (i + 4)) (xs (i + 5)) (xs (i + 6)) (xs (i + 7)) hpre.1) (vx_cwSW 8 hts (by unfold va_wsS; exact goodIn_app (goodIn_of _ (by decide +kernel)) gi_L_drug) rfl rfl rfl (by decide +kernel) ⟨(Nat.le_of_ble_eq_true rfl), (Nat.le_of_ble_eq_true rfl)⟩) hB hK hxs hNc rfl hl.1 rfl (Nat.le_of_ble_eq_true rfl) dL_law_157 ⟨by show ce + 1 ≤ 601024; omega, by show sl + 6 ≤ 7293034; omega⟩ hS (fun H locs hB hS => ?_)
  have hR9 := sim_drug (p1 := (xs (i + 1))) (p2 := (xs (i + 2))) (p3 := (xs (i + 3))) (p4 := (xs (i + 4))) (p5 := (xs (i + 5))) (p6 := (xs (i + 6))) (p7 := (xs (i + 7))) (f := f) hs
  generalize (gL_drug (xs (i + 1)) (xs (i + 2)) (xs (i + 3)) (xs (i + 4)) (xs (i + 5)) (xs (i + 6)) (xs (i + 7)) x f) = g at hB hR9 ⊢
  refine lv_istore (lv' := [(5, .int g.2), (4, .int (nI i)), (3, .ref (z + 109)), (2, .ref (z + 63)), (1, .ref z), (0, .ref b)]) hx hb dL_law_160 hl (by decide) rfl (fun ls hl => ?_)
  refine lv_aload_n hx hb dL_law_162 rfl (lv_at hl 3 rfl) ?_
  refine lv_aload_n hx hb dL_law_163 rfl (lv_at hl 5 rfl) ?_
  refine lv_iload hx hb dL_law_164 (lv_at hl 1 rfl) ?_
  refine lv_iconst (v := 1) hx hb dL_law_166 (by decide) ?_
  refine lv_iadd hx hb dL_law_167 ?_
  refine qx_sld (q := i + 1) hx hb hX0 hbz hzs hS (nI_add i 1) (by omega) hL dL_law_168 ?_
  refine lv_aload_n hx hb dL_law_169 rfl (lv_at hl 5 rfl) ?_
  refine lv_iload hx hb dL_law_170 (lv_at hl 1 rfl) ?_
  refine lv_iconst (v := 2) hx hb dL_law_172 (by decide) ?_
  refine lv_iadd hx hb dL_law_173 ?_
  refine qx_sld (q := i + 2) hx hb hX0 hbz hzs hS (nI_add i 2) (by omega) hL dL_law_174 ?_
  refine lv_aload_n hx hb dL_law_175 rfl (lv_at hl 5 rfl) ?_
  refine lv_iload hx hb dL_law_176 (lv_at hl 1 rfl) ?_
  refine lv_iconst (v := 3) hx hb dL_law_178 (by decide) ?_
  refine lv_iadd hx hb dL_law_179 ?_
  refine qx_sld (q := i + 3) hx hb hX0 hbz hzs hS (nI_add i 3) (by omega) hL dL_law_180 ?_
  refine lv_aload_n hx hb dL_law_181 rfl (lv_at hl 5 rfl) ?_
  refine lv_iload hx hb dL_law_182 (lv_at hl 1 rfl) ?_
  refine lv_iconst (v := 4) hx hb dL_law_184 (by decide) ?_
  refine lv_iadd hx hb dL_law_185 ?_
  refine qx_sld (q := i + 4) hx hb hX0 hbz hzs hS (nI_add i 4) (by omega) hL dL_law_186 ?_
  refine lv_aload_n hx hb dL_law_187 rfl (lv_at hl 5 rfl) ?_
  refine lv_iload hx hb dL_law_188 (lv_at hl 1 rfl) ?_
  refine lv_iconst (v := 5) hx hb dL_law_190 (by decide) ?_
  refine lv_iadd hx hb dL_law_191 ?_
  refine qx_sld (q := i + 5) hx hb hX0 hbz hzs hS (nI_add i 5) (by omega) hL dL_law_192 ?_
  refine lv_aload_n hx hb dL_law_193 rfl (lv_at hl 5 rfl) ?_
  refine lv_iload hx hb dL_law_194 (lv_at hl 1 rfl) ?_
  refine lv_bipush (v := 6) hx hb dL_law_196 (by decide) ?_
  refine lv_iadd hx hb dL_law_198 ?_
  refine qx_sld (q := i + 6) hx hb hX0 hbz hzs hS (nI_add i 6) (by omega) hL dL_law_199 ?_
  refine lv_aload_n hx hb dL_law_200 rfl (lv_at hl 5 rfl) ?_
  refine lv_iload hx hb dL_law_201 (lv_at hl 1 rfl) ?_
  refine lv_bipush (v := 7) hx hb dL_law_203 (by decide) ?_
  refine lv_iadd hx hb dL_law_205 ?_
  refine qx_sld (q := i + 7) hx hb hX0 hbz hzs hS (nI_add i 7) (by omega) hL dL_law_206 ?_
  refine gy_v (As := [.int (xs (i + 1)), .int (xs (i + 2)), .int (xs (i + 3)), .int (xs (i + 4)), .int (xs (i + 5)), .int (xs (i + 6)), .int (xs (i + 7))]) (rest := []) ⟨hx, hb, hml, hown, hts⟩ (mX11_drug l E (z + 63) y (xs (i + 1)) (xs (i + 2)) (xs (i + 3)) (xs (i + 4)) (xs (i + 5)) (xs (i + 6)) (xs (i + 7)) (601 * (k + 1)) (4824 * (k + 1)) hs.2.1) (cwV 7 hts (by unfold wsV; exact goodIn_app (goodIn_of _ (by decide +kernel)) gi_X11_drug) rfl rfl rfl (by decide +kernel) ⟨(Nat.le_of_ble_eq_true rfl), (Nat.le_of_ble_eq_true rfl)⟩) hB.2.2 hK (fx_recv hK (rwc_0 hB.2.2) rfl) rfl hl.1 rfl (Nat.le_of_ble_eq_true rfl) dL_law_207 ⟨by show ce + _ ≤ 601024; omega, by show sl + _ ≤ 7293034; omega⟩ hS rA_nA (fun H locs hR hz hk hS => ?_)
  have hB := cW_m hB hz hk hR
  generalize (fX11_drug (xs (i + 1)) (xs (i + 2)) (xs (i + 3)) (xs (i + 4)) (xs (i + 5)) (xs (i + 6)) (xs (i + 7)) y) = r at hB hR9 ⊢
  refine lv_aload_n hx hb dL_law_210 rfl (lv_at hl 3 rfl) ?_
  refine gy_i (As := []) (rest := []) ⟨hx, hb, hml, hown, hts⟩ (mX11_thrown l E (z + 63) r) (cwV 0 hts (by unfold wsV; exact goodIn_app (goodIn_of _ (by decide +kernel)) gi_X11_thrown) rfl rfl rfl (by decide +kernel) ⟨(Nat.le_of_ble_eq_true rfl), (Nat.le_of_ble_eq_true rfl)⟩) hB.2.2 hK (fx_recv hK (rwc_0 hB.2.2) rfl) rfl hl.1 rfl (Nat.le_of_ble_eq_true rfl) dL_law_211 ⟨by show ce + _ ≤ 601024; omega, by show sl + _ ≤ 7293034; omega⟩ hS rA_nA (fun H locs hR hz hk hS => ?_)
  have hB := cW_m hB hz hk hR
  refine lv_iload hx hb dL_law_214 (lv_at hl 0 rfl) ?_
  refine lv_icmp_eq (tgt := 221) hx hb dL_law_216 (by decide) (fun c9 => ?_) (fun c9 => (c9 (by first | exact hR9.1 | exact (hR9.1).symm)).elim)
  refine lv_goto (tgt := 1067) hx hb dL_law_221 (by decide) ?_
  exact W.widen (k := ce + 2) (n := sl + 12) (by omega) (by omega) (KC g.1.1 g.1.2 r _ _ _ hR9.2 hB hS (lv_sub hl [1, 2, 3, 4, 5] rfl))
