/-! the pump's constructor -/
def kf (b d : Nat) : Nat → Option Nat := fun i => if i < d then some (b + 5 + i) else none
def kg (b n : Nat) : Nat → Option Nat := fun i => if i < n then some (b + 21 + 14 * i) else none
def kP (E : eE) (b : Nat) (f g : Nat → Option Nat) : List va_E := [.inr (10, [.ref (b + 1), .ref (b + 2), .ref (b + 3), .int 0, .int (36000), .int (1), .int 0, .int 0]), .inl (eR E, 16, .inr (.inr (.inr (.inr f)))), .inl (eC E, 3, .inr (.inr (.inr (.inr g)))), .inr (5, [.ref (b + 4), .int 0, .long (1)]), .inl (eI E, 256, .inl (fun _ => 0))]
def kD1 (p1 : Int32) : va_E := .inr (2, [.int (p1), .int 0, .int 0, .int (1), .int 0, .int 0, .int 0, .int 0, .int 0, .int 0, .int 0, .int 0, .int 0])
def kDr (d : Nat) : List va_E := (List.range d).map (fun j => kD1 (nI j))
def kCh (E : eE) (b : Nat) : Nat → List va_E
  | 0 => []
  | n + 1 => kCh E b n ++ kcX1_init E (b + 21 + 14 * n) (nI n)
theorem kDr_len {d : Nat} : (kDr d).length = d := by simp [kDr]
theorem kDr_succ {d : Nat} : kDr (d + 1) = kDr d ++ [kD1 (nI d)] := by simp [kDr, List.range_succ]
theorem kP_len {E : eE} {b : Nat} {f g : Nat → Option Nat} : (kP E b f g).length = 5 := rfl
theorem kCh_len {E : eE} {b n : Nat} : (kCh E b n).length = 14 * n := by
  induction n with
  | zero => rfl
  | succ n ih => show (kCh E b n ++ _).length = _; rw [List.length_append, ih]; show 14 * n + 14 = _; omega
theorem kPD_len {E : eE} {b d : Nat} {f g : Nat → Option Nat} : (kP E b f g ++ kDr d).length = 5 + d := by rw [List.length_append, kP_len, kDr_len]
theorem kPC_len {E : eE} {b n : Nat} {f g : Nat → Option Nat} : ((kP E b f g ++ kDr 16) ++ kCh E b n).length = 21 + 14 * n := by rw [List.length_append, kPD_len, kCh_len]
theorem kf_succ {b d : Nat} (hd : d < 16) : va_up (kf b d) (nI d).toNatClampNeg (some (b + 5 + d)) = kf b (d + 1) := by
  rw [nI_clamp (by omega)]
  funext i
  unfold va_up kf
  by_cases h : i = d
  · subst h; simp
  · by_cases h1 : i < d
    · rw [if_neg h, if_pos h1, if_pos (by omega)]
    · rw [if_neg h, if_neg h1, if_neg (by omega)]
theorem kg_succ {b n : Nat} (hd : n < 3) : va_up (kg b n) (nI n).toNatClampNeg (some (b + 21 + 14 * n)) = kg b (n + 1) := by
  rw [nI_clamp (by omega)]
  funext i
  unfold va_up kg
  by_cases h : i = n
  · subst h; simp
  · by_cases h1 : i < n
    · rw [if_neg h, if_pos h1, if_pos (by omega)]
    · rw [if_neg h, if_neg h1, if_neg (by omega)]
theorem kCh_get {E : eE} {b m n o : Nat} (hn : n < m) (ho : o < 14) : (kCh E b m)[14 * n + o]? = (kcX1_init E (b + 21 + 14 * n) (nI n))[o]? := by
  induction m with
  | zero => omega
  | succ m ih =>
    show (kCh E b m ++ _)[14 * n + o]? = _
    by_cases h : n < m
    · rw [List.getElem?_append_left (by rw [kCh_len]; omega)]
      exact ih h
    · have e : n = m := by omega
      subst e
      rw [List.getElem?_append_right (by rw [kCh_len]; omega), kCh_len, show 14 * n + o - 14 * n = o by omega]

theorem kDr_hd {E : eE} {b d m : Nat} {f g : Nat → Option Nat} (h : d < m) : (kP E b f g ++ kDr m)[5 + d]? = some (kD1 (nI d)) := by
  rw [List.getElem?_append_right (by rw [kP_len]; omega), kP_len, show 5 + d - 5 = d by omega]
  unfold kDr
  rw [List.getElem?_map, List.getElem?_range h]
  rfl
theorem kC_get {E : eE} {b n m o : Nat} {f g : Nat → Option Nat} (h : n < m) (ho : o < 14) : ((kP E b f g ++ kDr 16) ++ kCh E b m)[21 + 14 * n + o]? = (kcX1_init E (b + 21 + 14 * n) (nI n))[o]? := by
  rw [List.getElem?_append_right (by rw [kPD_len]; omega), kPD_len, show 21 + 14 * n + o - (5 + 16) = 14 * n + o by omega, kCh_get h ho]
theorem kCh_hd {E : eE} {b n : Nat} {f g : Nat → Option Nat} (_h : n < 3) : ((kP E b f g ++ kDr 16) ++ kCh E b (n + 1))[21 + 14 * n]? = some (.inr (1, [.int (nI n), .ref (b + 21 + 14 * n + 1), .ref (b + 21 + 14 * n + 4), .ref (b + 21 + 14 * n + 6), .ref (b + 21 + 14 * n + 9), .ref (b + 21 + 14 * n + 12), .int (0), .int 0, .int 0, .int 0, .int 0])) := kC_get (o := 0) (Nat.lt_succ_self n) (by decide)
set_option maxHeartbeats 4000000 in
set_option maxRecDepth 100000 in
theorem kX10_init (l : Launch) (E : eE) (b : Nat) : Met l yX10_init wsX10_init ({ frames := 4, cells := 62, slots := 11748, locals := 84 }) (kPre E b (.inr (10, [.null, .null, .null, .int 0, .int 0, .int 0, .int 0, .int 0])) [.ref b]) (kQ E b ((kP E b (kf b 16) (kg b 3) ++ kDr 16) ++ kCh E b 3)) 62 11748 (kA b) := by
  refine Met.ofW (cc := cX10_init) (maxL := 2) (ret := none) (by decide) rfl ?_
  intro p e s m args below meth c s₁ B hml hv
  obtain ⟨rfl, hk, hK, hB⟩ := hv
  have hx := B.exec
  have hb := B.bytes
  have hr := B.returns
  have hts := atoms_spec (ws := wsX10_init) B.pre
  have hown : s.vm.findClass RX10 = some m.cls := findClass_of_methodNamed B.named
  have hlocks := B.notSynchronized
  have hin : meth.name = "<init>" := (name_of_methodNamed B.named B.method).1
  have i1 : ∀ w ∈ wsX10, w ∈ wsX10_init := by decide +kernel
  have i2 : ∀ w ∈ wsX20, w ∈ wsX10_init := by decide +kernel
  have i5 : ∀ w ∈ wsX50, w ∈ wsX10_init := by decide +kernel
  have i10 : ∀ w ∈ wsX100, w ∈ wsX10_init := by decide +kernel
  have kl11 := hts (.fieldLink RX10 11 "DosePump" "drugs" "[LDosePump$Drug;") (by decide +kernel)
  have kl17 := hts (.fieldLink RX10 17 "DosePump" "channels" "[LDosePump$Channel;") (by decide +kernel)
  have kl24 := hts (.fieldLink RX10 24 "DosePump" "journal" "LDosePump$Journal;") (by decide +kernel)
  have kl29 := hts (.fieldLink RX10 29 "DosePump" "charge" "I") (by decide +kernel)
  have kl33 := hts (.fieldLink RX10 33 "DosePump" "onMains" "Z") (by decide +kernel)
  have hS : va_S (kA b) s.heap s.heap [] := va_S.rf
  have hl := lv_entry ([.ref b]) (n := 2) (Nat.le_of_ble_eq_true rfl)
  rw [lg_entry_eq]
  generalize (lg_sl ([.ref b]) ++ List.replicate (2 - (lg_sl ([.ref b])).length) Slot.unset).toArray = ls at hl ⊢
  have hl : lv_has ls 2 [(0, .ref b)] := hl
  have J73 : ∀ (k n : Nat) (H : Heap) (locs : List Loc) (ls : Array Slot), 3 - n = k → n ≤ 3 → kat E b ((kP E b (kf b 16) (kg b n) ++ kDr 16) ++ kCh E b n) H → va_S (kA b) s.heap H locs → lv_has ls 2 [(0, .ref b), (1, .int (nI n))] → W p l e (headSpec wsX10_init { frames := 4, cells := 62, slots := 11748, locals := 84 }).room s m ([.ref b] : List Value).toArray below meth c H locs (20 + 14 * n) (486 + 3754 * n) (MQ below (kQ E b ((kP E b (kf b 16) (kg b 3) ++ kDr 16) ++ kCh E b 3)) ([.ref b] : List Value).toArray s 62 11748 (kA b)) (F0 m 73 ls []) := by
    intro k
    induction k with
    | zero =>
      intro n H locs ls hkn hn3 hk hS hl
      have e : n = 3 := by omega
      subst e
      refine lv_iload_n hx hb dX10_init_73 rfl (lv_at hl 1 rfl) ?_
      refine lv_iconst (v := 3) hx hb dX10_init_74 (by decide) ?_
      refine lv_icmp_ge (tgt := 98) hx hb dX10_init_75 (by decide) (fun c9 => ?_) (fun c9 => absurd (nI_le (a := 3) (b := 3) (Nat.le_refl 3) (by decide)) c9)
      exact kx_vret hx hb hr hlocks hK hk hS dX10_init_98 (by decide) (by decide)
    | succ k ih =>
      intro n H locs ls hkn hn3 hk hS hl
      have hn : n < 3 := by omega
      refine lv_iload_n hx hb dX10_init_73 rfl (lv_at hl 1 rfl) ?_
      refine lv_iconst (v := 3) hx hb dX10_init_74 (by decide) ?_
      refine lv_icmp_ge (tgt := 98) hx hb dX10_init_75 (by decide) (fun c9 => absurd c9 (nI_ge (a := n) (b := 3) hn (by decide))) (fun c9 => ?_)
      refine lv_aload_n hx hb dX10_init_78 rfl (lv_at hl 0 rfl) ?_
      refine kx_get (ws := (kP E b (kf b 16) (kg b n) ++ kDr 16) ++ kCh E b n) (ci := 10) (v := .ref (b + 2)) hx hb hts i10 hown hK hk 0 rfl rfl rfl 1 (by decide) kl17 rfl dX10_init_79 ?_
      refine lv_iload_n hx hb dX10_init_82 rfl (lv_at hl 1 rfl) ?_
      refine kx_new (ci := 1) (fs := [.int 0, .null, .null, .null, .null, .null, .int 0, .int 0, .int 0, .int 0, .int 0]) (ws := (kP E b (kf b 16) (kg b n) ++ kDr 16) ++ kCh E b n) (a := b + 21 + 14 * n) hx hb hts i1 tyX1_ok hown (hts (.classLink RX10 15 RX1) (by decide +kernel)) (hts (.instantiable RX1 11) (by decide +kernel)) (hts (.initialized RX1) (by decide +kernel)) hK hk (by rw [kPC_len]; omega) hS rfl (by decide +kernel) (by show 20 + 14 * n + 1 ≤ 62; omega) (by show 486 + 3754 * n + 11 ≤ 11748; omega) dX10_init_83 (fun H hk hS => ?_)
      refine lv_dup hx hb dX10_init_86 rfl ?_
      refine lv_iload_n hx hb dX10_init_87 rfl (lv_at hl 1 rfl) ?_
      refine kx_call (ws := (kP E b (kf b 16) (kg b n) ++ kDr 16) ++ kCh E b n) (q0 := .inr (1, [.int 0, .null, .null, .null, .null, .null, .int 0, .int 0, .int 0, .int 0, .int 0])) (ws2 := kcX1_init E (b + 21 + 14 * n) (nI n)) (As := [.int (nI n)]) (rest := [.ref (b + 21 + 14 * n), .int (nI n), .ref (b + 2)]) ⟨hx, hb, hml, hown, hts⟩ (kX1_init l E (b + 21 + 14 * n) (nI n)) (cwI 1 hts gX10_init_X1_init rfl rfl rfl (hts (.initialized RX1) (by decide +kernel)) (hts (.methodLink RX10 40 yX1_init) (by decide +kernel)) (hts (.instanceMethod yX1_init) (by decide +kernel)) rfl (by decide +kernel) ⟨(Nat.le_of_ble_eq_true rfl), (Nat.le_of_ble_eq_true rfl)⟩) hk (by rw [kPC_len]; omega) hK hB rfl hl.1 rfl (Nat.le_of_ble_eq_true rfl) dX10_init_88 ⟨by show 20 + 14 * n + 1 + 13 ≤ 62; omega, by show 486 + 3754 * n + 11 + 3743 ≤ 11748; omega⟩ hS (fun q h => Nat.le_trans (by omega) h) (fun H locs hk hS => ?_)
      have hk : kat E b ((kP E b (kf b 16) (kg b n) ++ kDr 16) ++ kCh E b (n + 1)) H := by
        show kat E b ((kP E b (kf b 16) (kg b n) ++ kDr 16) ++ (kCh E b n ++ kcX1_init E (b + 21 + 14 * n) (nI n))) H
        rw [← List.append_assoc]; exact hk
      refine kx_ast (E := E) (b := b) (r := (RX1, TX1, 11)) (ws := (kP E b (kf b 16) (kg b n) ++ kDr 16) ++ kCh E b (n + 1)) (f := kg b n) (a := b + 2) (cA := eC E) (n := 3) (v := b + 21 + 14 * n) hx hb hK 2 1 hk 2 (21 + 14 * n) rfl rfl (Nat.le_add_right _ _) hS rfl (kCh_hd hn) (by omega) rfl (vp_in_nI hn (by decide)) dX10_init_91 (fun H locs hk hS => ?_)
      rw [kg_succ hn] at hk
      have hk : kat E b ((kP E b (kf b 16) (kg b (n + 1)) ++ kDr 16) ++ kCh E b (n + 1)) H := hk
      refine lv_iinc (v := nI n + 1) (lv' := [(1, .int (nI n + 1)), (0, .ref b)]) hx hb dX10_init_92 hl (k := 1) rfl (by first | rfl | decide) (by decide) rfl (fun ls hl => ?_)
      refine lv_goto (tgt := 73) hx hb dX10_init_95 (by decide) ?_
      rw [nI_1] at hl
      refine W.widen (k := 20 + 14 * (n + 1)) (n := 486 + 3754 * (n + 1)) (by omega) (by omega) ?_
      exact ih (n + 1) H locs ls (by omega) (by omega) hk hS (lv_sub hl [1, 0] rfl)
  have J45 : ∀ (k d : Nat) (H : Heap) (locs : List Loc) (ls : Array Slot), 16 - d = k → d ≤ 16 → kat E b (kP E b (kf b d) (fun _ => none) ++ kDr d) H → va_S (kA b) s.heap H locs → lv_has ls 2 [(0, .ref b), (1, .int (nI d))] → W p l e (headSpec wsX10_init { frames := 4, cells := 62, slots := 11748, locals := 84 }).room s m ([.ref b] : List Value).toArray below meth c H locs (4 + d) (278 + 13 * d) (MQ below (kQ E b ((kP E b (kf b 16) (kg b 3) ++ kDr 16) ++ kCh E b 3)) ([.ref b] : List Value).toArray s 62 11748 (kA b)) (F0 m 45 ls []) := by
    intro k
    induction k with
    | zero =>
      intro d H locs ls hkn hn3 hk hS hl
      have e : d = 16 := by omega
      subst e
      refine lv_iload_n hx hb dX10_init_45 rfl (lv_at hl 1 rfl) ?_
      refine lv_bipush (v := 16) hx hb dX10_init_46 (by decide) ?_
      refine lv_icmp_ge (tgt := 71) hx hb dX10_init_48 (by decide) (fun c9 => ?_) (fun c9 => absurd (nI_le (a := 16) (b := 16) (Nat.le_refl 16) (by decide)) c9)
      refine lv_iconst (v := 0) hx hb dX10_init_71 (by decide) ?_
      refine lv_istore_n (lv' := [(1, .int 0), (0, .ref b)]) hx hb dX10_init_72 rfl hl (by decide) rfl (fun ls hl => ?_)
      refine W.widen (k := 20 + 14 * 0) (n := 486 + 3754 * 0) (by omega) (by omega) ?_
      refine J73 3 0 H locs ls rfl (by decide) ?_ hS (lv_sub hl [1, 0] rfl)
      show kat E b ((kP E b (kf b 16) (kg b 0) ++ kDr 16) ++ []) H
      rw [List.append_nil, show kg b 0 = fun _ => none from by funext i; unfold kg; rw [if_neg (by omega)]]
      exact hk
    | succ k ih =>
      intro d H locs ls hkn hn3 hk hS hl
      have hd : d < 16 := by omega
      refine lv_iload_n hx hb dX10_init_45 rfl (lv_at hl 1 rfl) ?_
      refine lv_bipush (v := 16) hx hb dX10_init_46 (by decide) ?_
      refine lv_icmp_ge (tgt := 71) hx hb dX10_init_48 (by decide) (fun c9 => absurd c9 (nI_ge (a := d) (b := 16) hd (by decide))) (fun c9 => ?_)
      refine lv_aload_n hx hb dX10_init_51 rfl (lv_at hl 0 rfl) ?_
      refine kx_get (ws := kP E b (kf b d) (fun _ => none) ++ kDr d) (ci := 10) (v := .ref (b + 1)) hx hb hts i10 hown hK hk 0 rfl rfl rfl 0 (by decide) kl11 rfl dX10_init_52 ?_
      refine lv_iload_n hx hb dX10_init_55 rfl (lv_at hl 1 rfl) ?_
      refine kx_new (ci := 2) (fs := [.int 0, .int 0, .int 0, .int 0, .int 0, .int 0, .int 0, .int 0, .int 0, .int 0, .int 0, .int 0, .int 0]) (ws := kP E b (kf b d) (fun _ => none) ++ kDr d) (a := b + 5 + d) hx hb hts i2 tyX2_ok hown (hts (.classLink RX10 9 RX2) (by decide +kernel)) (hts (.instantiable RX2 13) (by decide +kernel)) (hts (.initialized RX2) (by decide +kernel)) hK hk (by rw [kPD_len]; omega) hS rfl (by decide +kernel) (by show 4 + d + 1 ≤ 62; omega) (by show 278 + 13 * d + 13 ≤ 11748; omega) dX10_init_56 (fun H hk hS => ?_)
      refine lv_dup hx hb dX10_init_59 rfl ?_
      refine lv_iload_n hx hb dX10_init_60 rfl (lv_at hl 1 rfl) ?_
      refine kx_call (ws := kP E b (kf b d) (fun _ => none) ++ kDr d) (q0 := .inr (2, [.int 0, .int 0, .int 0, .int 0, .int 0, .int 0, .int 0, .int 0, .int 0, .int 0, .int 0, .int 0, .int 0])) (ws2 := kcX2_init E (b + 5 + d) (nI d)) (As := [.int (nI d)]) (rest := [.ref (b + 5 + d), .int (nI d), .ref (b + 1)]) ⟨hx, hb, hml, hown, hts⟩ (kX2_init l E (b + 5 + d) (nI d)) (cwI 1 hts gX10_init_X2_init rfl rfl rfl (hts (.initialized RX2) (by decide +kernel)) (hts (.methodLink RX10 37 yX2_init) (by decide +kernel)) (hts (.instanceMethod yX2_init) (by decide +kernel)) rfl (by decide +kernel) ⟨(Nat.le_of_ble_eq_true rfl), (Nat.le_of_ble_eq_true rfl)⟩) hk (by rw [kPD_len]; omega) hK hB rfl hl.1 rfl (Nat.le_of_ble_eq_true rfl) dX10_init_61 ⟨by show 4 + d + 1 + 0 ≤ 62; omega, by show 278 + 13 * d + 13 + 0 ≤ 11748; omega⟩ hS (fun q h => Nat.le_trans (by omega) h) (fun H locs hk hS => ?_)
      have hk : kat E b (kP E b (kf b d) (fun _ => none) ++ kDr (d + 1)) H := by
        rw [kDr_succ, ← List.append_assoc]; exact hk
      refine kx_ast (E := E) (b := b) (r := (RX2, TX2, 13)) (ws := kP E b (kf b d) (fun _ => none) ++ kDr (d + 1)) (f := kf b d) (a := b + 1) (cA := eR E) (n := 16) (v := b + 5 + d) hx hb hK 3 2 hk 1 (5 + d) rfl rfl (Nat.le_add_right _ _) hS rfl (kDr_hd (Nat.lt_succ_self d)) (by omega) rfl (vp_in_nI hd (by decide)) dX10_init_64 (fun H locs hk hS => ?_)
      rw [kf_succ hd] at hk
      have hk : kat E b (kP E b (kf b (d + 1)) (fun _ => none) ++ kDr (d + 1)) H := hk
      refine lv_iinc (v := nI d + 1) (lv' := [(1, .int (nI d + 1)), (0, .ref b)]) hx hb dX10_init_65 hl (k := 1) rfl (by first | rfl | decide) (by decide) rfl (fun ls hl => ?_)
      refine lv_goto (tgt := 45) hx hb dX10_init_68 (by decide) ?_
      rw [nI_1] at hl
      refine W.widen (k := 4 + (d + 1)) (n := 278 + 13 * (d + 1)) (by omega) (by omega) ?_
      exact ih (d + 1) H locs ls (by omega) (by omega) hk hS (lv_sub hl [1, 0] rfl)
  refine lv_aload_n hx hb dX10_init_0 rfl (lv_at hl 0 rfl) ?_
  refine W.objInit hx hb hown (hts (.methodLink RX10 1 objectInit) (by decide +kernel)) (hts (.instanceMethod objectInit) (by decide +kernel)) (hts (.code objectInit ⟨#[0xb1]⟩ 1 none) (by decide +kernel)) rfl (hl.1.trans hml.symm) rfl dX10_init_1 (Nat.le_of_ble_eq_true rfl) (Nat.le_of_ble_eq_true rfl) ?_
  refine W.eq (g2 := F0 m 4 ls []) rfl ?_
  refine lv_aload_n hx hb dX10_init_4 rfl (lv_at hl 0 rfl) ?_
  refine lv_bipush (v := 16) hx hb dX10_init_5 (by decide) ?_
  refine kx_newq (C := "DosePump$Drug") (ws := [.inr (10, [.null, .null, .null, .int 0, .int 0, .int 0, .int 0, .int 0])]) (a := (b + 1)) (N' := 16) (cA := eR E) hx hb hown (hts (.classLink RX10 9 RX2) (by decide +kernel)) hB.2.1 (hK.2 3 _ rfl).2.choose_spec.choose_spec.2.2.2 hk rfl hS (by decide) (by decide) (by decide) (Nat.le_of_ble_eq_true rfl) (Nat.le_of_ble_eq_true rfl) dX10_init_7 (fun H hk hS => ?_)
  have hk : kat E b [.inr (10, [.null, .null, .null, .int 0, .int 0, .int 0, .int 0, .int 0]), .inl (eR E, 16, .inr (.inr (.inr (.inr (fun _ => none)))))] H := hk
  refine kx_put (ws := [.inr (10, [.null, .null, .null, .int 0, .int 0, .int 0, .int 0, .int 0]), .inl (eR E, 16, .inr (.inr (.inr (.inr (fun _ => none)))))]) (ci := 10) (v := .ref (b + 1)) hx hb hts i10 tyX10_ok nmX10 hown hK hk 0 rfl rfl (Nat.le_refl _) hS rfl 0 (by decide) kl11 (Or.inr ⟨rfl, hin, rfl⟩) rfl rfl (Nat.le_of_ble_eq_true rfl) dX10_init_10 (fun H locs hk hS => ?_)
  have hk : kat E b [.inr (10, [.ref (b + 1), .null, .null, .int 0, .int 0, .int 0, .int 0, .int 0]), .inl (eR E, 16, .inr (.inr (.inr (.inr (fun _ => none)))))] H := hk
  refine lv_aload_n hx hb dX10_init_13 rfl (lv_at hl 0 rfl) ?_
  refine lv_iconst (v := 3) hx hb dX10_init_14 (by decide) ?_
  refine kx_newq (C := "DosePump$Channel") (ws := [.inr (10, [.ref (b + 1), .null, .null, .int 0, .int 0, .int 0, .int 0, .int 0]), .inl (eR E, 16, .inr (.inr (.inr (.inr (fun _ => none)))))]) (a := (b + 2)) (N' := 3) (cA := eC E) hx hb hown (hts (.classLink RX10 15 RX1) (by decide +kernel)) hB.2.2 (hK.2 2 _ rfl).2.choose_spec.choose_spec.2.2.2 hk rfl hS (by decide) (by decide) (by decide) (Nat.le_of_ble_eq_true rfl) (Nat.le_of_ble_eq_true rfl) dX10_init_15 (fun H hk hS => ?_)
  have hk : kat E b [.inr (10, [.ref (b + 1), .null, .null, .int 0, .int 0, .int 0, .int 0, .int 0]), .inl (eR E, 16, .inr (.inr (.inr (.inr (fun _ => none))))), .inl (eC E, 3, .inr (.inr (.inr (.inr (fun _ => none)))))] H := hk
  refine kx_put (ws := [.inr (10, [.ref (b + 1), .null, .null, .int 0, .int 0, .int 0, .int 0, .int 0]), .inl (eR E, 16, .inr (.inr (.inr (.inr (fun _ => none))))), .inl (eC E, 3, .inr (.inr (.inr (.inr (fun _ => none)))))]) (ci := 10) (v := .ref (b + 2)) hx hb hts i10 tyX10_ok nmX10 hown hK hk 0 rfl rfl (Nat.le_refl _) hS rfl 1 (by decide) kl17 (Or.inr ⟨rfl, hin, rfl⟩) rfl rfl (Nat.le_of_ble_eq_true rfl) dX10_init_18 (fun H locs hk hS => ?_)
  have hk : kat E b [.inr (10, [.ref (b + 1), .ref (b + 2), .null, .int 0, .int 0, .int 0, .int 0, .int 0]), .inl (eR E, 16, .inr (.inr (.inr (.inr (fun _ => none))))), .inl (eC E, 3, .inr (.inr (.inr (.inr (fun _ => none)))))] H := hk
  refine lv_aload_n hx hb dX10_init_21 rfl (lv_at hl 0 rfl) ?_
  refine kx_new (ci := 5) (fs := [.null, .int 0, .long 0]) (ws := [.inr (10, [.ref (b + 1), .ref (b + 2), .null, .int 0, .int 0, .int 0, .int 0, .int 0]), .inl (eR E, 16, .inr (.inr (.inr (.inr (fun _ => none))))), .inl (eC E, 3, .inr (.inr (.inr (.inr (fun _ => none)))))]) (a := (b + 3)) hx hb hts i5 tyX5_ok hown (hts (.classLink RX10 21 RX5) (by decide +kernel)) (hts (.instantiable RX5 3) (by decide +kernel)) (hts (.initialized RX5) (by decide +kernel)) hK hk rfl hS rfl (by decide +kernel) (Nat.le_of_ble_eq_true rfl) (Nat.le_of_ble_eq_true rfl) dX10_init_22 (fun H hk hS => ?_)
  have hk : kat E b [.inr (10, [.ref (b + 1), .ref (b + 2), .null, .int 0, .int 0, .int 0, .int 0, .int 0]), .inl (eR E, 16, .inr (.inr (.inr (.inr (fun _ => none))))), .inl (eC E, 3, .inr (.inr (.inr (.inr (fun _ => none))))), .inr (5, [.null, .int 0, .long 0])] H := hk
  refine lv_dup hx hb dX10_init_25 rfl ?_
  refine kx_callN (ws := [.inr (10, [.ref (b + 1), .ref (b + 2), .null, .int 0, .int 0, .int 0, .int 0, .int 0]), .inl (eR E, 16, .inr (.inr (.inr (.inr (fun _ => none))))), .inl (eC E, 3, .inr (.inr (.inr (.inr (fun _ => none)))))]) (q0 := .inr (5, [.null, .int 0, .long 0])) (ws2 := kcX5_init E (b + 3)) (As := []) (rest := [.ref (b + 3), .ref b]) ⟨hx, hb, hml, hown, hts⟩ (kX5_init l E (b + 3)) ⟨va_cnB 0 hts gX10_init_X5_init_n23 rfl rfl rfl (hB.1 (.methodLinkNest RX10 23 yX5_init "DosePump") (by decide +kernel)) (hts (.initialized RX5) (by decide +kernel)) (by decide +kernel) ⟨(Nat.le_of_ble_eq_true rfl), (Nat.le_of_ble_eq_true rfl)⟩, rfl, hts (.instanceMethod yX5_init) (by decide +kernel)⟩ hk rfl hK hB rfl hl.1 rfl (Nat.le_of_ble_eq_true rfl) dX10_init_26 ⟨(Nat.le_of_ble_eq_true rfl), (Nat.le_of_ble_eq_true rfl)⟩ hS (fun q h => Nat.le_trans (Nat.le_add_right _ _) h) (fun H locs hk hS => ?_)
  have hk : kat E b [.inr (10, [.ref (b + 1), .ref (b + 2), .null, .int 0, .int 0, .int 0, .int 0, .int 0]), .inl (eR E, 16, .inr (.inr (.inr (.inr (fun _ => none))))), .inl (eC E, 3, .inr (.inr (.inr (.inr (fun _ => none))))), .inr (5, [.ref (b + 4), .int 0, .long (1)]), .inl (eI E, 256, .inl (fun _ => 0))] H := hk
  refine kx_put (ws := [.inr (10, [.ref (b + 1), .ref (b + 2), .null, .int 0, .int 0, .int 0, .int 0, .int 0]), .inl (eR E, 16, .inr (.inr (.inr (.inr (fun _ => none))))), .inl (eC E, 3, .inr (.inr (.inr (.inr (fun _ => none))))), .inr (5, [.ref (b + 4), .int 0, .long (1)]), .inl (eI E, 256, .inl (fun _ => 0))]) (ci := 10) (v := .ref (b + 3)) hx hb hts i10 tyX10_ok nmX10 hown hK hk 0 rfl rfl (Nat.le_refl _) hS rfl 2 (by decide) kl24 (Or.inr ⟨rfl, hin, rfl⟩) rfl rfl (Nat.le_of_ble_eq_true rfl) dX10_init_29 (fun H locs hk hS => ?_)
  have hk : kat E b [.inr (10, [.ref (b + 1), .ref (b + 2), .ref (b + 3), .int 0, .int 0, .int 0, .int 0, .int 0]), .inl (eR E, 16, .inr (.inr (.inr (.inr (fun _ => none))))), .inl (eC E, 3, .inr (.inr (.inr (.inr (fun _ => none))))), .inr (5, [.ref (b + 4), .int 0, .long (1)]), .inl (eI E, 256, .inl (fun _ => 0))] H := hk
  refine lv_aload_n hx hb dX10_init_32 rfl (lv_at hl 0 rfl) ?_
  refine lv_ldc hx hb hown (hts (.constant RX10 28 (36000)) (by decide +kernel)) dX10_init_33 ?_
  refine kx_put (ws := [.inr (10, [.ref (b + 1), .ref (b + 2), .ref (b + 3), .int 0, .int 0, .int 0, .int 0, .int 0]), .inl (eR E, 16, .inr (.inr (.inr (.inr (fun _ => none))))), .inl (eC E, 3, .inr (.inr (.inr (.inr (fun _ => none))))), .inr (5, [.ref (b + 4), .int 0, .long (1)]), .inl (eI E, 256, .inl (fun _ => 0))]) (ci := 10) (v := .int (36000)) hx hb hts i10 tyX10_ok nmX10 hown hK hk 0 rfl rfl (Nat.le_refl _) hS rfl 4 (by decide) kl29 (Or.inl rfl) rfl rfl (Nat.le_of_ble_eq_true rfl) dX10_init_35 (fun H locs hk hS => ?_)
  have hk : kat E b [.inr (10, [.ref (b + 1), .ref (b + 2), .ref (b + 3), .int 0, .int (36000), .int 0, .int 0, .int 0]), .inl (eR E, 16, .inr (.inr (.inr (.inr (fun _ => none))))), .inl (eC E, 3, .inr (.inr (.inr (.inr (fun _ => none))))), .inr (5, [.ref (b + 4), .int 0, .long (1)]), .inl (eI E, 256, .inl (fun _ => 0))] H := hk
  refine lv_aload_n hx hb dX10_init_38 rfl (lv_at hl 0 rfl) ?_
  refine lv_iconst (v := 1) hx hb dX10_init_39 (by decide) ?_
  refine kx_put (ws := [.inr (10, [.ref (b + 1), .ref (b + 2), .ref (b + 3), .int 0, .int (36000), .int 0, .int 0, .int 0]), .inl (eR E, 16, .inr (.inr (.inr (.inr (fun _ => none))))), .inl (eC E, 3, .inr (.inr (.inr (.inr (fun _ => none))))), .inr (5, [.ref (b + 4), .int 0, .long (1)]), .inl (eI E, 256, .inl (fun _ => 0))]) (ci := 10) (v := .int (1)) hx hb hts i10 tyX10_ok nmX10 hown hK hk 0 rfl rfl (Nat.le_refl _) hS rfl 5 (by decide) kl33 (Or.inl rfl) (by decide) (by decide) (Nat.le_of_ble_eq_true rfl) dX10_init_40 (fun H locs hk hS => ?_)
  have hk : kat E b [.inr (10, [.ref (b + 1), .ref (b + 2), .ref (b + 3), .int 0, .int (36000), .int (1), .int 0, .int 0]), .inl (eR E, 16, .inr (.inr (.inr (.inr (fun _ => none))))), .inl (eC E, 3, .inr (.inr (.inr (.inr (fun _ => none))))), .inr (5, [.ref (b + 4), .int 0, .long (1)]), .inl (eI E, 256, .inl (fun _ => 0))] H := hk
  refine lv_iconst (v := 0) hx hb dX10_init_43 (by decide) ?_
  refine lv_istore_n (lv' := [(1, .int 0), (0, .ref b)]) hx hb dX10_init_44 rfl hl (by decide) rfl (fun ls hl => ?_)
  refine W.widen (k := 4 + 0) (n := 278 + 13 * 0) (by decide) (by decide) ?_
  refine J45 16 0 H locs ls rfl (by decide) ?_ hS (lv_sub hl [1, 0] rfl)
  show kat E b (kP E b (kf b 0) (fun _ => none) ++ []) H
  rw [List.append_nil, show kf b 0 = fun _ => none from by funext i; unfold kf; rw [if_neg (by omega)]]
  exact hk
