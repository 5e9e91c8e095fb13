/-! the law's entry: the pump, the model, the row of one long -/
section ST
variable {E : eE} {b : Nat} {ws ws2 : List va_E} {H : Heap}
theorem kat_pre (hk : kat E b (ws ++ ws2) H) : kat E b ws (H.extract 0 (b + ws.length)) := by
  have hz : H.size = b + (ws.length + ws2.length) := by rw [hk.1, List.length_append]
  refine ⟨by rw [Array.size_extract]; omega, fun k q hq => ?_⟩
  have hl : k < ws.length := (List.getElem?_eq_some_iff.mp hq).1
  refine (hk.2 k q (by rw [List.getElem?_append_left hl]; exact hq)).kept ?_
  show (H.extract 0 (b + ws.length))[b + k]? = H[b + k]?
  rw [Array.getElem?_extract, if_pos (by omega), Nat.zero_add]
theorem kat_suf {a : Nat} (hk : kat E b (ws ++ ws2) H) (ha : b + ws.length = a) : kat E a ws2 H := by
  subst ha
  refine ⟨by rw [hk.1, List.length_append]; omega, fun k q hq => ?_⟩
  have h := hk.2 (ws.length + k) q (by rw [List.getElem?_append_right (by omega), Nat.add_sub_cancel_left]; exact hq)
  rw [← Nat.add_assoc] at h
  exact h
theorem ext_kept {n q : Nat} (hq : q < n) (hn : n ≤ H.size) : H[q]? = (H.extract 0 n)[q]? := by
  rw [Array.getElem?_extract, if_pos (by omega), Nat.zero_add]
end ST
section STX
variable {p : Program} {l : Launch} {e : Env} {R : Room} {s : State} {m : MethodId} {args : Array Value} {below : List Frame} {meth : Method} {c : Code} {H : Heap} {locs : List Loc} {cells slots : Nat} {Q : State → Prop}
variable {cc : ByteArray} {pc : Nat} {ls : Array Slot} {rest : List Value} {E : eE} {b a : Nat} {A : Nat → Prop} {H0 : Heap} {ws : List va_E}
theorem kx_newl (hexec : p.tables.exec = Jvm.exec) (hb : c.code = cc) (harr : (Cond.arrayClass .long).before args s = true) {cA : ClassId} (hcA : s.vm.findClass ("[" ++ (FieldType.long).toString) = some cA) (hk : kat E b ws H) (ha : b + ws.length = a) (hS : va_S A H0 H locs)
    {n : Int32} {N' : Nat} (hn : ¬ n < 0) (hN : n.toNatClampNeg = N') (hbytes : N' * componentBytes .long ≤ 536870912) (hcells : cells + 1 ≤ R.cells) (hslots : slots + N' ≤ R.slots) (hdg : decode cc pc = .ok (.newarray .long, 2))
    (kk : ∀ H1 : Heap, kat E b (ws ++ [.inl (cA, N', .inr (.inl (fun _ => 0)))]) H1 → va_S A H0 H1 locs → W p l e R s m args below meth c H1 locs (cells + 1) (slots + N') Q (F0 m (pc + 2) ls (.ref a :: rest))) : W p l e R s m args below meth c H locs cells slots Q (F0 m pc ls (.int n :: rest)) := by
  subst ha
  refine va_newaK (atype := .long) hexec hb harr rfl hdg rfl hn hN hbytes hcells hslots hk.1 fun H1 cA' e1 z1 o1 hAr hNm => ?_
  have hc : cA' = cA := Option.some.inj (hNm.symm.trans hcA)
  subst hc
  rw [← hk.1] at z1 o1
  refine kk H1 (kat_push hk z1 o1 ?_) (kS_push hS z1 o1)
  show H1[b + ws.length]? = some (vp_cell _ _)
  rw [vp_cell_l, e1]
  rfl
end STX
theorem st_cW {E : eE} {z : Nat} {H : Heap} (hk : kat E z ((((kP E z (kf z 16) (kg z 3) ++ kDr 16) ++ kCh E z 3) ++ kcX11_init E (z + 63)) ++ [.inl (eJ E, 1, .inr (.inl (fun _ => 0)))]) H) : cW E z (px0, fun _ => 0) ry0 H := by
  have hM : (kcX11_init E (z + 63)).length = 46 := rfl
  have hz : H.size = z + 110 := by rw [hk.1, List.length_append, List.length_append, kPC_len, hM]; rfl
  have hk1 := kat_suf (a := z + 109) hk (by rw [List.length_append, kPC_len, hM])
  have hk2 := kat_pre hk
  rw [show z + (((kP E z (kf z 16) (kg z 3) ++ kDr 16) ++ kCh E z 3) ++ kcX11_init E (z + 63)).length = z + 109 by rw [List.length_append, kPC_len, hM]] at hk2
  have hk3 := kat_suf (a := z + 63) hk2 (by rw [kPC_len])
  have hk4 := kat_pre hk2
  rw [show z + ((kP E z (kf z 16) (kg z 3) ++ kDr 16) ++ kCh E z 3).length = z + 63 by rw [kPC_len]] at hk4
  have hz2 : (H.extract 0 (z + 109)).size = z + 109 := by rw [Array.size_extract]; omega
  refine ⟨by omega, ⟨?_, hk1.2 0 _ rfl⟩, ?_⟩
  · refine pw_keep (pw_init hk4) (fun q hq => ?_)
    have hq : q < z + 63 := by unfold cA at hq; omega
    exact (ext_kept (by omega) (by omega)).trans (ext_kept hq (by omega))
  · refine rw_keep (rw_init hk3) (fun q hq => ?_)
    have hq : q < z + 109 := by unfold rA at hq; omega
    exact ext_kept hq (by omega)
set_option maxHeartbeats 4000000 in
set_option maxRecDepth 100000 in
theorem whole_start {p : Program} {e : Env} {s : State} {m : MethodId} {below : List Frame} {meth : Method} {c : Code} (l : Launch) (hl9 : l.stackTraces = false) {b L : Nat} {xs : Nat → Int32} (hL : L ≤ 4096) (C0 : lw_At p s m meth c b L xs) : W p l e room_1 s m #[Value.ref b] below meth c s.heap [] 0 0 (lw_Z below #[Value.ref b] s) (entryFrame m ([Value.ref b] : List Value).toArray 7) := by
  obtain ⟨hx, hb, hr, hml, hown, hts, hX, hbl, hlocks, hgv⟩ := C0
  have hb : c.code = cL_law := hb
  have hown : s.vm.findClass RL = some m.cls := hown
  obtain ⟨E, hK⟩ := st_gK hts
  have hB := st_kB hts
  have hNc := st_lNc hgv
  have hxs := st_xS hts hgv
  generalize hzs : s.heap.size = z at hxs hbl
  have C : LC p l s m c b L xs E z := ⟨hx, hb, hml, hown, hts, hX, hbl, hzs, hK, hxs, hNc, hl9, hL⟩
  have hl := lv_entry ([.ref b]) (n := 7) (Nat.le_of_ble_eq_true rfl)
  rw [lg_entry_eq]
  generalize (lg_sl ([.ref b]) ++ List.replicate (7 - (lg_sl ([.ref b])).length) Slot.unset).toArray = ls at hl ⊢
  have hl : lv_has ls 7 [(0, .ref b)] := hl
  have hk : kat E z [] s.heap := ⟨hzs, fun k q h => by simp at h⟩
  have hS : va_S (nA z) s.heap s.heap [] := va_S.rf
  have i10 : ∀ w ∈ wsX100, w ∈ lw_tbl := fun w hw => (gi_X10_init w ((by decide +kernel : ∀ w ∈ wsX100, w ∈ wsX10_init) w hw)).1
  have i11 : ∀ w ∈ wsX110, w ∈ lw_tbl := fun w hw => (gi_X11_init w ((by decide +kernel : ∀ w ∈ wsX110, w ∈ wsX11_init) w hw)).1
  refine kx_new (ci := 10) (fs := [.null, .null, .null, .int 0, .int 0, .int 0, .int 0, .int 0]) (ws := []) (a := z) hx hb hts i10 tyX10_ok hown (hts (.classLink RL 8 RX10) (by decide +kernel)) (hts (.instantiable RX10 8) (by decide +kernel)) (hts (.initialized RX10) (by decide +kernel)) hK hk rfl hS rfl (by decide +kernel) (Nat.le_of_ble_eq_true rfl) (Nat.le_of_ble_eq_true rfl) dL_law_0 (fun H hk hS => ?_)
  refine lv_dup hx hb dL_law_3 rfl ?_
  refine kx_call (ws := []) (q0 := .inr (10, [.null, .null, .null, .int 0, .int 0, .int 0, .int 0, .int 0])) (ws2 := ((kP E z (kf z 16) (kg z 3) ++ kDr 16) ++ kCh E z 3)) (As := []) (rest := [.ref z]) ⟨hx, hb, hml, hown, hts⟩ (kX10_init l E z) (cwI 0 hts gi_X10_init rfl rfl rfl (hts (.initialized RX10) (by decide +kernel)) (hts (.methodLink RL 57 yX10_init) (by decide +kernel)) (hts (.instanceMethod yX10_init) (by decide +kernel)) rfl (by decide +kernel) ⟨(Nat.le_of_ble_eq_true rfl), (Nat.le_of_ble_eq_true rfl)⟩) hk rfl hK hB rfl hl.1 rfl (Nat.le_of_ble_eq_true rfl) dL_law_4 ⟨(Nat.le_of_ble_eq_true rfl), (Nat.le_of_ble_eq_true rfl)⟩ hS (fun q h => h) (fun H locs hk hS => ?_)
  have hk : kat E z ((kP E z (kf z 16) (kg z 3) ++ kDr 16) ++ kCh E z 3) H := hk
  have hP : ((kP E z (kf z 16) (kg z 3) ++ kDr 16) ++ kCh E z 3).length = 63 := kPC_len
  have hcW := fun H => st_cW (E := E) (z := z) (H := H)
  generalize ((kP E z (kf z 16) (kg z 3) ++ kDr 16) ++ kCh E z 3) = P at hk hP hcW
  refine lv_astore_n (lv' := [(1, .ref z), (0, .ref b)]) hx hb dL_law_7 rfl hl (by decide) rfl (fun ls hl => ?_)
  refine kx_new (ci := 11) (fs := [.int 0, .null, .null, .null, .null, .null, .null, .null, .null, .null, .null, .null, .null, .null, .null, .null, .null, .null, .null, .null, .null, .null, .null, .null, .null, .null, .null, .null, .null, .null, .null, .null, .null, .null, .null, .null, .null, .null, .null, .null, .null, .null, .null, .null, .null, .int 0, .int 0, .int 0, .int 0, .int 0, .int 0, .null, .long 0]) (ws := P) (a := z + 63) hx hb hts i11 tyX11_ok hown (hts (.classLink RL 58 RX11) (by decide +kernel)) (hts (.instantiable RX11 53) (by decide +kernel)) (hts (.initialized RX11) (by decide +kernel)) hK hk (by rw [hP]) hS rfl (by decide +kernel) (Nat.le_of_ble_eq_true rfl) (Nat.le_of_ble_eq_true rfl) dL_law_8 (fun H hk hS => ?_)
  refine lv_dup hx hb dL_law_11 rfl ?_
  refine kx_call (ws := P) (q0 := .inr (11, [.int 0, .null, .null, .null, .null, .null, .null, .null, .null, .null, .null, .null, .null, .null, .null, .null, .null, .null, .null, .null, .null, .null, .null, .null, .null, .null, .null, .null, .null, .null, .null, .null, .null, .null, .null, .null, .null, .null, .null, .null, .null, .null, .null, .null, .null, .int 0, .int 0, .int 0, .int 0, .int 0, .int 0, .null, .long 0])) (ws2 := kcX11_init E (z + 63)) (As := []) (rest := [.ref (z + 63)]) ⟨hx, hb, hml, hown, hts⟩ (kX11_init l E (z + 63)) (cwI 0 hts gi_X11_init rfl rfl rfl (hts (.initialized RX11) (by decide +kernel)) (hts (.methodLink RL 60 yX11_init) (by decide +kernel)) (hts (.instanceMethod yX11_init) (by decide +kernel)) rfl (by decide +kernel) ⟨(Nat.le_of_ble_eq_true rfl), (Nat.le_of_ble_eq_true rfl)⟩) hk (by rw [hP]) hK hB rfl hl.1 rfl (Nat.le_of_ble_eq_true rfl) dL_law_12 ⟨(Nat.le_of_ble_eq_true rfl), (Nat.le_of_ble_eq_true rfl)⟩ hS (fun q h => by show z ≤ q; omega) (fun H locs hk hS => ?_)
  have hM : (P ++ kcX11_init E (z + 63)).length = 109 := by rw [List.length_append, hP]; rfl
  generalize P ++ kcX11_init E (z + 63) = PM at hk hM hcW
  refine lv_astore_n (lv' := [(2, .ref (z + 63)), (1, .ref z), (0, .ref b)]) hx hb dL_law_15 rfl hl (by decide) rfl (fun ls hl => ?_)
  refine lv_iconst (v := 1) hx hb dL_law_16 (by decide) ?_
  refine kx_newl (a := z + 109) (N' := 1) hx hb (hts (.arrayClass .long) (by decide +kernel)) (hK.2 4 (eJ E, .long) rfl).2 hk (by rw [hM]) hS (by decide) (by decide) (by decide) (Nat.le_of_ble_eq_true rfl) (Nat.le_of_ble_eq_true rfl) dL_law_17 (fun H hk hS => ?_)
  refine lv_astore_n (lv' := [(3, .ref (z + 109)), (2, .ref (z + 63)), (1, .ref z), (0, .ref b)]) hx hb dL_law_19 rfl hl (by decide) rfl (fun ls hl => ?_)
  refine lv_iconst (v := 0) hx hb dL_law_20 (by decide) ?_
  refine lv_istore (lv' := [(4, .int (nI (8 * 0))), (3, .ref (z + 109)), (2, .ref (z + 63)), (1, .ref z), (0, .ref b)]) hx hb dL_law_21 hl (by decide) rfl (fun ls hl => ?_)
  exact law_loop C hr hlocks 513 0 rfl px0 (fun _ => 0) ry0 _ _ _ sim_0 (hcW _ hk) hS hl
