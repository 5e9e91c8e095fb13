/-! rows for the law's body: pump at z, model at z + 63, the row of one long at z + 109 -/
abbrev nA (z : Nat) : Nat → Prop := fun q => z ≤ q
def cW (E : eE) (z : Nat) (w : PS × (Nat → Int64)) (y : RS) (H : Heap) : Prop := z + 110 ≤ H.size ∧ lW E z (z + 109) w H ∧ rw_ E (z + 63) y H
theorem rw_keep {E : eE} {rr : Nat} {y : RS} {H H1 : Heap} (h : rw_ E rr y H) (hk : ∀ q : Nat, rA rr q → H1[q]? = H[q]?) : rw_ E rr y H1 := fun o ho => (h o ho).kept (hk _ (rA_o ho))
theorem lW_keep {E : eE} {bb oa : Nat} {w : PS × (Nat → Int64)} {H H1 : Heap} (h : lW E bb oa w H) (hk : ∀ q : Nat, (cA bb q ∨ q = oa) → H1[q]? = H[q]?) : lW E bb oa w H1 := ⟨pw_keep h.1 (fun q hq => hk q (Or.inl hq)), h.2.kept (hk oa (Or.inr rfl))⟩
theorem z_oa {z : Nat} : ¬ cA z (z + 109) := fun h => by unfold cA at h; omega
section QX
variable {p : Program} {l : Launch} {e : Env} {R : Room} {s : State} {m : MethodId} {args : Array Value} {below : List Frame} {meth : Method} {c : Code} {H : Heap} {locs : List Loc} {cells slots : Nat} {Q : State → Prop}
variable {y : MethodName} {bytes cc : ByteArray} {maxL nL n index pc : Nat} {ret : Option FieldType} {ws : List Cond} {rm : Room} {Ts : List Cond} {own C : String} {b : Nat} {As rest st0 : List Value} {ls : Array Slot} {E : eE} {B : Heap → Prop} {A0 A1 : Nat → Prop} {H0 : Heap}
/-- calls of methods that make nothing; what they leave alone -/
theorem gy_v {S : Type} {Wp : S → Heap → Prop} {y0 : S} (S9 : CallFix p m c cc nL s args Ts own) (hM : Met l y ws rm (gPre E B (.ref b :: As)) (gQv E Wp y0 A1) 0 0 A1) (cw : CallW R s args own C index y bytes maxL ret ws rm 0 0 n) (hB : B H) (hK : gK E s) (hrec : ∃ cell : Cell, H[b]? = some cell ∧ cell.vm.isStatics = false ∧ s.vm.findClass C = some cell.cls)
    (hn : As.length = n) (hsize : ls.size = nL) (hstack : st0 = As.reverse ++ .ref b :: rest) (hroom : (rest.map fun v => v.category).sum ≤ 8) (hdg : decode cc pc = .ok (.invokevirtual index, 3)) (hf : cells ≤ R.cells ∧ slots ≤ R.slots) (hS : va_S A0 H0 H locs) (hA : ∀ q, A1 q → A0 q)
    (kk : ∀ (H1 : Heap) (locs1 : List Loc), Wp y0 H1 → H.size ≤ H1.size → (∀ q : Nat, q < H.size → ¬ A1 q → H1[q]? = H[q]?) → va_S A0 H0 H1 locs1 → W p l e R s m args below meth c H1 locs1 cells slots Q (F0 m (pc + 3) ls rest)) : W p l e R s m args below meth c H locs cells slots Q (F0 m pc ls st0) := by
  refine va_callv (va_runV (g := F0 m pc ls st0) (As := As) (rest := rest) S9 hM cw ⟨gPre_blind, hrec, fun U hU hW => ⟨rfl, by rw [hU]; exact hB, va_K.moved hW.alike hK⟩⟩ rfl hn hsize hstack (lv_room hroom) hdg hf) hS (fun q _ h => hA q h) hA (fun u t H1 locs1 ht hvm hw hb1 hz hk hS1 => ?_)
  obtain ⟨h1, -⟩ := hb1
  rw [ht] at h1
  subst hw
  exact kk H1 locs1 h1 hz hk hS1
theorem gy_i {S : Type} {Wp : S → Heap → Prop} {y0 : S × Int32} (S9 : CallFix p m c cc nL s args Ts own) (hM : Met l y ws rm (gPre E B (.ref b :: As)) (gQi E Wp y0 A1) 0 0 A1) (cw : CallW R s args own C index y bytes maxL ret ws rm 0 0 n) (hB : B H) (hK : gK E s) (hrec : ∃ cell : Cell, H[b]? = some cell ∧ cell.vm.isStatics = false ∧ s.vm.findClass C = some cell.cls)
    (hn : As.length = n) (hsize : ls.size = nL) (hstack : st0 = As.reverse ++ .ref b :: rest) (hroom : (rest.map fun v => v.category).sum ≤ 8) (hdg : decode cc pc = .ok (.invokevirtual index, 3)) (hf : cells ≤ R.cells ∧ slots ≤ R.slots) (hS : va_S A0 H0 H locs) (hA : ∀ q, A1 q → A0 q)
    (kk : ∀ (H1 : Heap) (locs1 : List Loc), Wp y0.1 H1 → H.size ≤ H1.size → (∀ q : Nat, q < H.size → ¬ A1 q → H1[q]? = H[q]?) → va_S A0 H0 H1 locs1 → W p l e R s m args below meth c H1 locs1 cells slots Q (F0 m (pc + 3) ls (.int y0.2 :: rest))) : W p l e R s m args below meth c H locs cells slots Q (F0 m pc ls st0) := by
  refine va_calli (va_runV (g := F0 m pc ls st0) (As := As) (rest := rest) S9 hM cw ⟨gPre_blind, hrec, fun U hU hW => ⟨rfl, by rw [hU]; exact hB, va_K.moved hW.alike hK⟩⟩ rfl hn hsize hstack (lv_room hroom) hdg hf) hS (fun q _ h => hA q h) hA (fun r u t H1 locs1 ht hvm hw hb1 hz hk hS1 => ?_)
  obtain ⟨h1, -⟩ := hb1
  rw [ht] at h1
  subst hw
  exact kk H1 locs1 h1 hz hk hS1
theorem gy_l {S : Type} {Wp : S → Heap → Prop} {y0 : S × Int64} (S9 : CallFix p m c cc nL s args Ts own) (hM : Met l y ws rm (gPre E B (.ref b :: As)) (gQl E Wp y0 A1) 0 0 A1) (cw : CallW R s args own C index y bytes maxL ret ws rm 0 0 n) (hB : B H) (hK : gK E s) (hrec : ∃ cell : Cell, H[b]? = some cell ∧ cell.vm.isStatics = false ∧ s.vm.findClass C = some cell.cls)
    (hn : As.length = n) (hsize : ls.size = nL) (hstack : st0 = As.reverse ++ .ref b :: rest) (hroom : (rest.map fun v => v.category).sum ≤ 8) (hdg : decode cc pc = .ok (.invokevirtual index, 3)) (hf : cells ≤ R.cells ∧ slots ≤ R.slots) (hS : va_S A0 H0 H locs) (hA : ∀ q, A1 q → A0 q)
    (kk : ∀ (H1 : Heap) (locs1 : List Loc), Wp y0.1 H1 → H.size ≤ H1.size → (∀ q : Nat, q < H.size → ¬ A1 q → H1[q]? = H[q]?) → va_S A0 H0 H1 locs1 → W p l e R s m args below meth c H1 locs1 cells slots Q (F0 m (pc + 3) ls (.long y0.2 :: rest))) : W p l e R s m args below meth c H locs cells slots Q (F0 m pc ls st0) := by
  refine va_calll (va_runV (g := F0 m pc ls st0) (As := As) (rest := rest) S9 hM cw ⟨gPre_blind, hrec, fun U hU hW => ⟨rfl, by rw [hU]; exact hB, va_K.moved hW.alike hK⟩⟩ rfl hn hsize hstack (lv_room hroom) hdg hf) hS (fun q _ h => hA q h) hA (fun r u t H1 locs1 ht hvm hw hb1 hz hk hS1 => ?_)
  obtain ⟨h1, -⟩ := hb1
  rw [ht] at h1
  subst hw
  exact kk H1 locs1 h1 hz hk hS1
variable {z : Nat} {x : PS} {f : Nat → Int64} {yy : RS} {k1 n1 : Nat} {hh : List (Nat × Nat × Nat × Nat)}
theorem lA_nA (hz : z + 110 ≤ H.size) : ∀ q, lA z (z + 109) H.size q → nA z q := fun q h => by
  unfold lA cA at h
  show z ≤ q
  omega
/-- a call of the law's own methods -/
theorem qx_L {g : (PS × (Nat → Int64)) × Int32} (S9 : CallFix p m c cc nL s args Ts own) (hM : vx_Met l y ws rm (lPre E z (z + 109) H.size (x, f) As) (xQi E (lW E z (z + 109)) (0, g) (lA z (z + 109) H.size)) (fun _ _ _ => False) k1 n1 (lA z (z + 109) H.size)) (cw : vx_CSW R s args own index y bytes maxL ret hh ws rm k1 n1 n) (hB : cW E z (x, f) yy H) (hK : gK E s) (hxs : xS (nA z) s) (hNc : lNc s)
    (hn : As.length = n) (hsize : ls.size = nL) (hstack : st0 = As.reverse ++ rest) (hroom : (rest.map fun v => v.category).sum ≤ 8) (hdg : decode cc pc = .ok (.invokestatic index, 3)) (hf : cells + k1 ≤ R.cells ∧ slots + n1 ≤ R.slots) (hS : va_S (nA z) s.heap H locs)
    (kk : ∀ (H1 : Heap) (locs1 : List Loc), cW E z g.1 yy H1 → va_S (nA z) s.heap H1 locs1 → W p l e R s m args below meth c H1 locs1 (cells + k1) (slots + n1) Q (F0 m (pc + 3) ls (.int g.2 :: rest))) : W p l e R s m args below meth c H locs cells slots Q (F0 m pc ls st0) := by
  intro T9 hT X
  have hA := lA_nA hB.1
  rcases (vx_runSX (g := F0 m pc ls st0) (As := As) (rest := rest) S9 hM cw ⟨lPre_blind, fun U hU hW => ⟨rfl, by rw [hU], by rw [hU]; exact hB.2.1, va_K.moved hW.alike hK, xS_narrow hA (xS_warm hW (fun a h1 h2 => by rw [hU]; exact hS.2.1 a h1 h2) hxs), lNc_moved hW.alike hNc⟩⟩ rfl hn hsize hstack (lv_room hroom) hdg hf) T9 hT X with ⟨v, st₀, t, T', L, h0, X', hL, e1, e2, ⟨⟨r, u, hv, hp, hb⟩, hF⟩, st⟩ | ⟨q, st₀, t, T', L, E', ce, h0, X', hL, e1, e2, hq, _⟩
  · cases hv
    obtain ⟨kz, kq, kS⟩ := vx_keep h0 e1 hS (fun q _ h => hA q h) hA hL hF
    have e3 : g = (u, r) := congrArg Prod.snd hp
    subst e3
    have hr2 : rw_ E (z + 63) yy T'.heap := rw_keep hB.2.2 (fun q hq => kq q (by unfold rA at hq; have := hB.1; omega) (fun h => by unfold rA at hq; unfold lA cA at h; have := hB.1; omega))
    obtain ⟨t2, a1, b1⟩ := kk T'.heap (locs ++ L) ⟨Nat.le_trans hB.1 kz, by rw [e1]; exact hb.1, hr2⟩ kS T' rfl X'
    exact ⟨t2, st t2 a1, b1⟩
  · exact hq.elim
/-- the script -/
theorem qx_sld {bs L : Nat} {xs : Nat → Int32} {j : Int32} {q : Nat} (hexec : p.tables.exec = Jvm.exec) (hb : c.code = cc) (hX0 : va_X bs L xs s s.heap) (hbz : bs < z) (hzs : s.heap.size = z) (hS : va_S (nA z) s.heap H locs) (hj : j = nI q) (hq : q < L) (hL : L ≤ 4096) (hdg : decode cc pc = .ok (.iaload, 1))
    (kk : W p l e R s m args below meth c H locs cells slots Q (F0 m (pc + 1) ls (.int (xs q) :: rest))) : W p l e R s m args below meth c H locs cells slots Q (F0 m pc ls (.int j :: .ref bs :: rest)) := by
  obtain ⟨scr, h1, h2, h3, h4, h5⟩ := hX0.kept (hS.2.1 bs (by omega) (fun h => by have h' : z ≤ bs := h; omega))
  subst hj
  have hc : (nI q).toNatClampNeg = q := nI_clamp (by omega)
  exact W.iald hexec hb h1 h2 h3 (by rw [h4]; exact nI_in hq (by omega)) (by rw [hc]; exact h5 q hq) rfl rfl hdg kk
theorem qx_len {bs L : Nat} {xs : Nat → Int32} (hexec : p.tables.exec = Jvm.exec) (hb : c.code = cc) (hX0 : va_X bs L xs s s.heap) (hbz : bs < z) (hzs : s.heap.size = z) (hS : va_S (nA z) s.heap H locs) (hdg : decode cc pc = .ok (.arraylength, 1))
    (kk : W p l e R s m args below meth c H locs cells slots Q (F0 m (pc + 1) ls (.int (nI L) :: rest))) : W p l e R s m args below meth c H locs cells slots Q (F0 m pc ls (.ref bs :: rest)) := by
  obtain ⟨scr, h1, h2, h3, h4, h5⟩ := hX0.kept (hS.2.1 bs (by omega) (fun h => by have h' : z ≤ bs := h; omega))
  exact W.alen hexec hb h1 h2 (by rw [h4]; rfl) rfl rfl hdg kk
theorem qx_out (hexec : p.tables.exec = Jvm.exec) (hb : c.code = cc) (hK : gK E s) (hB : cW E z (x, f) yy H) (hdg : decode cc pc = .ok (.laload, 1))
    (kk : W p l e R s m args below meth c H locs cells slots Q (F0 m (pc + 1) ls (.long (f 0) :: rest))) : W p l e R s m args below meth c H locs cells slots Q (F0 m pc ls (.int 0 :: .ref (z + 109) :: rest)) := by
  refine W.lald hexec hb hB.2.1.2 ((hK.2 4 (eJ E, .long) rfl).1 1 (fun j => .long (f j))) (fun q => by cases q) (by show ¬ ((0 : Int32) < 0 ∨ (arrV _ _ _).slots.size ≤ _); rw [arrV_size]; exact (show ¬ ((0 : Int32) < 0 ∨ 1 ≤ (0 : Int32).toNatClampNeg) by decide)) ?_ rfl rfl hdg kk
  show (arrV _ _ _).slots[(0 : Int32).toNatClampNeg]? = _
  exact arrV_read _ _ (show (0 : Int32).toNatClampNeg < 1 by decide)
theorem cW_m {w : PS × (Nat → Int64)} {y' : RS} {H1 : Heap} (hB : cW E z w yy H) (hz : H.size ≤ H1.size) (hk : ∀ q : Nat, q < H.size → ¬ rA (z + 63) q → H1[q]? = H[q]?) (hr : rw_ E (z + 63) y' H1) : cW E z w y' H1 := ⟨Nat.le_trans hB.1 hz, lW_keep hB.2.1 (fun q hq => hk q (by unfold cA at hq; have := hB.1; omega) (fun h => by unfold cA at hq; unfold rA at h; omega)), hr⟩
theorem cW_p {x' : PS} {H1 : Heap} (hB : cW E z (x, f) yy H) (hz : H.size ≤ H1.size) (hk : ∀ q : Nat, q < H.size → ¬ cA z q → H1[q]? = H[q]?) (hr : pw E z x' H1) : cW E z (x', f) yy H1 := ⟨Nat.le_trans hB.1 hz, ⟨hr, hB.2.1.2.kept (hk _ (by have := hB.1; omega) z_oa)⟩, rw_keep hB.2.2 (fun q hq => hk q (by unfold rA at hq; have := hB.1; omega) (fun h => by unfold cA at h; unfold rA at hq; omega))⟩
end QX
theorem rA_nA {z : Nat} : ∀ q, rA (z + 63) q → nA z q := fun q h => by unfold rA at h; show z ≤ q; omega
theorem cA_nA {z : Nat} : ∀ q, cA z q → nA z q := fun q h => by unfold cA at h; show z ≤ q; omega
theorem lg_self {x : Int64} : lg_cmp x x = 0 := (lg_cmp_eq x x).mpr rfl
