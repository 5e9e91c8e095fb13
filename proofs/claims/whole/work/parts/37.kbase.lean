/-! constructors: cells laid one behind another from b on, on top of the heap -/
def kat (E : eE) (b : Nat) (ws : List va_E) (H : Heap) : Prop := H.size = b + ws.length ∧ ∀ (k : Nat) (q : va_E), ws[k]? = some q → va_at (eD E) vwCl (b + k, q) H
abbrev kA (b : Nat) : Nat → Prop := fun q => b ≤ q
def kN : List Cond := [.methodLinkNest RX10 23 yX5_init "DosePump", .methodLinkNest RX1 11 yX3_init "DosePump", .methodLinkNest RX3 11 yX9_init "DosePump", .methodLinkNest RX1 20 yX7_init "DosePump", .methodLinkNest RX1 27 yX0_init "DosePump", .methodLinkNest RX1 34 yX6_init "DosePump", .methodLinkNest RX1 41 yX4_init "DosePump"]
def kB (U : State) : Prop := (∀ w ∈ kN, va_Nw w U) ∧ va_AO "DosePump$Drug" U ∧ va_AO "DosePump$Channel" U
theorem kB_warm {s U : State} (hW : s.WarmedH U.vm) (h : kB s) : kB U := by
  refine ⟨fun w hw => ?_, h.2.1.moved hW.alike, h.2.2.moved hW.alike⟩
  have h1 := h.1 w hw
  simp only [kN, List.mem_cons, List.not_mem_nil, or_false] at hw
  rcases hw with rfl | rfl | rfl | rfl | rfl | rfl | rfl <;> exact va_Nw.warmM hW h1
def kPre (E : eE) (b : Nat) (q0 : va_E) (av : List Value) : Array Value → State → Prop := va_Pc av (fun U => kat E b [q0] U.heap ∧ gK E U ∧ kB U)
def kQ (E : eE) (b : Nat) (ws : List va_E) : Array Value → State → Outcome → State → Prop := va_Qv (fun _ : Unit => True) (fun _ t => kat E b ws t.heap ∧ gK E t) (kA b)
theorem kPre_blind {E : eE} {b : Nat} {q0 : va_E} {av : List Value} : FrameBlind (kPre E b q0 av) := by
  intro a U g mk h
  obtain ⟨h1, h2, h3, h4⟩ := h
  exact ⟨h1, h2, va_K.moved (u := U) (U := U.calling g mk a) (Vm.Alike.refl U.vm) h3, kB_warm (s := U) (U := U.calling g mk a) (State.WarmedH.refl U) h4⟩
section KA
variable {E : eE} {b : Nat} {ws : List va_E} {H H1 : Heap}
theorem kat_push {q : va_E} (hk : kat E b ws H) (h1 : H1.size = H.size + 1) (ho : ∀ q : Nat, q < H.size → H1[q]? = H[q]?) (hq : va_at (eD E) vwCl (b + ws.length, q) H1) : kat E b (ws ++ [q]) H1 := by
  refine ⟨by rw [h1, hk.1, List.length_append]; rfl, fun k z hz => ?_⟩
  by_cases hl : k < ws.length
  · rw [List.getElem?_append_left hl] at hz
    exact (hk.2 k z hz).kept (ho _ (hk.2 k z hz).lt)
  · have hz' : k < (ws ++ [q]).length := (List.getElem?_eq_some_iff.mp hz).1
    rw [List.length_append] at hz'
    have e : k = ws.length := by
      have : [q].length = 1 := rfl
      omega
    subst e
    rw [List.getElem?_append_right (Nat.le_refl _), Nat.sub_self] at hz
    cases hz
    exact hq
theorem kat_app {ws2 : List va_E} (hk : ∀ (k : Nat) (q : va_E), ws[k]? = some q → va_at (eD E) vwCl (b + k, q) H) (h2 : kat E (b + ws.length) ws2 H1) (ho : ∀ q : Nat, q < b + ws.length → H1[q]? = H[q]?) : kat E b (ws ++ ws2) H1 := by
  refine ⟨by rw [h2.1, List.length_append]; omega, fun k z hz => ?_⟩
  by_cases hl : k < ws.length
  · rw [List.getElem?_append_left hl] at hz
    exact (hk k z hz).kept (ho _ (by show b + k < b + ws.length; omega))
  · rw [List.getElem?_append_right (by omega)] at hz
    have h3 := h2.2 _ z hz
    rw [show b + ws.length + (k - ws.length) = b + k by omega] at h3
    exact h3
theorem kat_last {q : va_E} (hk : kat E b (ws ++ [q]) H) : kat E (b + ws.length) [q] H := by
  refine ⟨by rw [hk.1, List.length_append]; rfl, fun k z hz => ?_⟩
  have h0 : k < [q].length := (List.getElem?_eq_some_iff.mp hz).1
  have e : k = 0 := by
    have : [q].length = 1 := rfl
    omega
  subst e
  cases hz
  exact hk.2 ws.length q (by rw [List.getElem?_append_right (Nat.le_refl _), Nat.sub_self]; rfl)
theorem size_kept {a : Nat} (h : ∀ q : Nat, q ≠ a → H1[q]? = H[q]?) (ha : a < H.size) (ha1 : a < H1.size) : H1.size = H.size := by
  apply Nat.le_antisymm
  · apply Nat.le_of_not_lt
    intro hlt
    have h1 := h H.size (by omega)
    rw [Array.getElem?_eq_none (Nat.le_refl _)] at h1
    rw [Array.getElem?_eq_none_iff] at h1
    omega
  · apply Nat.le_of_not_lt
    intro hlt
    by_cases e : H.size - 1 = a
    · omega
    · have h1 := h (H.size - 1) e
      rw [Array.getElem?_eq_none (by omega)] at h1
      have h2 := Array.getElem?_eq_none_iff.mp h1.symm
      omega
theorem kat_set {j : Nat} {q q1 : va_E} (hk : kat E b ws H) (he : ws[j]? = some q) (hat : va_at (eD E) vwCl (b + j, q1) H1) (hne : ∀ z : Nat, z ≠ b + j → H1[z]? = H[z]?) : kat E b (ws.set j q1) H1 := by
  have hj : j < ws.length := (List.getElem?_eq_some_iff.mp he).1
  refine ⟨by rw [List.length_set, ← hk.1]; exact size_kept hne (by rw [hk.1]; omega) hat.lt, fun k z hz => ?_⟩
  by_cases e : j = k
  · subst e
    rw [List.getElem?_set_self hj] at hz
    cases hz
    exact hat
  · rw [List.getElem?_set_ne e] at hz
    exact (hk.2 k z hz).kept (hne _ (by show b + k ≠ b + j; omega))
end KA
section KX
variable {p : Program} {l : Launch} {e : Env} {R : Room} {s : State} {m : MethodId} {args : Array Value} {below : List Frame} {meth : Method} {c : Code} {H : Heap} {locs : List Loc} {cells slots : Nat} {Q : State → Prop}
variable {cc : ByteArray} {pc : Nat} {ls : Array Slot} {rest : List Value} {E : eE} {b a : Nat} {A : Nat → Prop} {H0 : Heap} {ws : List va_E}
theorem fx_putF {D : va_G} {cl : List vw_C} {tys : List (ClassId × FieldType)} (hexec : p.tables.exec = Jvm.exec) (hb : c.code = cc) {own C : String} {T : u_T} {N ci index : Nat} {Ts : List Cond} (hts : ∀ w ∈ Ts, w.before args s = true) (hin : ∀ w ∈ u_ws C T N, w ∈ Ts) {ty0 : Nat → FieldType} (hty : ∀ k, k < N → parseFieldDescriptor (T k).2.2.1 = some (ty0 k)) (hnm : ∀ a, a < N → ∀ b, b < N → a ≠ b → (T a).2.1 ≠ (T b).2.1) (hown : s.vm.findClass own = some m.cls) (hK : va_K D cl tys s) {fs : List Value} (hat : va_at D cl (a, .inr (ci, fs)) H) (hA : A a) (hS0 : va_S A H0 H locs) (hc : cl[ci]? = some (C, T, N)) (k : Nat) (hk : k < N) (hlink : (Cond.fieldLink own index (T k).1 (T k).2.1 (T k).2.2.1).before args s = true) (hfin : (T k).2.2.2 = true) (hin2 : meth.name = "<init>") (hdecl : (T k).1 = own) {v : Value} (hn : narrow (ty0 k) v = v) (hfit : fits (ty0 k) v = true) (hl : k < fs.length)
    (hdg : decode cc pc = .ok (.putfield index, 3)) (kk : ∀ (H1 : Heap) (locs1 : List Loc), va_at D cl (a, .inr (ci, fs.set k v)) H1 → (∀ q : Nat, q ≠ a → H1[q]? = H[q]?) → va_S A H0 H1 locs1 → W p l e R s m args below meth c H1 locs1 cells slots Q (F0 m (pc + 3) ls rest)) : W p l e R s m args below meth c H locs cells slots Q (F0 m pc ls (v :: .ref a :: rest)) := by
  have hap := va_apart (own := own) hts hin ty0 hty hnm hK hc
  obtain ⟨r, h1, cell, q1, q2, q3, q4⟩ := hat
  have hr : r = (C, T, N) := Option.some.inj (h1.symm.trans hc)
  subst hr
  obtain ⟨hS, hfc, kC, hkC, hkind⟩ := hK.1 ci _ hc
  obtain ⟨cf, kf, fi, f, hi, hsl⟩ := hS k hk
  have hlay := hts _ (hin _ (u_in_lay hk))
  unfold u_lay at hlay
  rw [if_pos hfin] at hlay
  have hst := (u_facts hfc hkC (u_lays hts hin hk) hi).1
  have hcf : m.cls = cf := by
    obtain ⟨_, _, c', _, _, _, -, -, hf', -, -, -, hown2, -⟩ := Cond.laysFinal_spec hlay
    have e1 : c' = cf := by have := hi.symm.trans hf'; simp at this; exact this.1.symm
    rw [hdecl] at hown2
    rw [← e1]; exact Option.some.inj (hown.symm.trans hown2)
  have h6 := u_fits hfc hkC hkind (Or.inr hlay) hi (hty k hk) hn hfit
  refine W.putFinK hexec hb hown hlink hi hst hcf hin2 (by rw [q2]; exact h6) q1 q3 (by rw [hsl]; exact k2_hasslot (q4 k hk)) rfl rfl hdg fun H' e1 e2 e3 => ?_
  rw [hsl] at e1 ⊢
  exact kk H' _ ⟨_, hc, t_OB.to (V := updV (vp_V fs) k v) ⟨_, e1, q2, q3, t_set q4 hap hk v⟩ (fun j _ => vp_updV_set hl v j)⟩ e3 (hS0.put e2 e3 hA)
theorem kx_put (hexec : p.tables.exec = Jvm.exec) (hb : c.code = cc) {own C : String} {T : u_T} {N ci index : Nat} {Ts : List Cond} (hts : ∀ w ∈ Ts, w.before args s = true) (hin : ∀ w ∈ u_ws C T N, w ∈ Ts) {ty0 : Nat → FieldType} (hty : ∀ k, k < N → parseFieldDescriptor (T k).2.2.1 = some (ty0 k)) (hnm : ∀ a, a < N → ∀ b, b < N → a ≠ b → (T a).2.1 ≠ (T b).2.1) (hown : s.vm.findClass own = some m.cls) (hK : gK E s) {fs : List Value} (hk0 : kat E b ws H) (j : Nat) (he : ws[j]? = some (.inr (ci, fs))) (ha : b + j = a) (hA : A a) (hS0 : va_S A H0 H locs) (hc : vwCl[ci]? = some (C, T, N)) (k : Nat) (hk : k < N) (hlink : (Cond.fieldLink own index (T k).1 (T k).2.1 (T k).2.2.1).before args s = true) (hfin : (T k).2.2.2 = false ∨ (T k).2.2.2 = true ∧ meth.name = "<init>" ∧ (T k).1 = own) {v : Value} (hn : narrow (ty0 k) v = v) (hfit : fits (ty0 k) v = true) (hl : k < fs.length)
    (hdg : decode cc pc = .ok (.putfield index, 3)) (kk : ∀ (H1 : Heap) (locs1 : List Loc), kat E b (ws.set j (.inr (ci, fs.set k v))) H1 → va_S A H0 H1 locs1 → W p l e R s m args below meth c H1 locs1 cells slots Q (F0 m (pc + 3) ls rest)) : W p l e R s m args below meth c H locs cells slots Q (F0 m pc ls (v :: .ref a :: rest)) := by
  subst ha
  rcases hfin with hfin | ⟨hfin, h2, h3⟩
  · exact fx_put hexec hb hts hin hty hnm hown hK (hk0.2 j _ he) hA hS0 hc k hk hlink hfin hn hfit hl hdg (fun H1 locs1 hat hne hS => kk H1 locs1 (kat_set hk0 he hat hne) hS)
  · exact fx_putF hexec hb hts hin hty hnm hown hK (hk0.2 j _ he) hA hS0 hc k hk hlink hfin h2 h3 hn hfit hl hdg (fun H1 locs1 hat hne hS => kk H1 locs1 (kat_set hk0 he hat hne) hS)
theorem kx_get (hexec : p.tables.exec = Jvm.exec) (hb : c.code = cc) {own C : String} {T : u_T} {N ci index : Nat} {Ts : List Cond} (hts : ∀ w ∈ Ts, w.before args s = true) (hin : ∀ w ∈ u_ws C T N, w ∈ Ts) (hown : s.vm.findClass own = some m.cls) (hK : gK E s) {fs : List Value} (hk0 : kat E b ws H) (j : Nat) (he : ws[j]? = some (.inr (ci, fs))) (ha : b + j = a) (hc : vwCl[ci]? = some (C, T, N)) (k : Nat) (hk : k < N) (hlink : (Cond.fieldLink own index (T k).1 (T k).2.1 (T k).2.2.1).before args s = true) {v : Value} (hv : fs[k]? = some v) (hdg : decode cc pc = .ok (.getfield index, 3))
    (kk : W p l e R s m args below meth c H locs cells slots Q (F0 m (pc + 3) ls (v :: rest))) : W p l e R s m args below meth c H locs cells slots Q (F0 m pc ls (.ref a :: rest)) := by
  subst ha
  exact fx_get hexec hb hts hin hown hK (hk0.2 j _ he) hc k hk hlink hv hdg kk
theorem kS_push {H1 : Heap} (hS : va_S A H0 H locs) (z1 : H1.size = H.size + 1) (o1 : ∀ q : Nat, q < H.size → H1[q]? = H[q]?) : va_S A H0 H1 locs :=
  ⟨Nat.le_trans hS.1 (by omega), fun x h1 h2 => (o1 x (Nat.lt_of_lt_of_le h1 hS.1)).trans (hS.2.1 x h1 h2), hS.2.2⟩
theorem kx_new (hexec : p.tables.exec = Jvm.exec) (hb : c.code = cc) {own C : String} {T : u_T} {N ci index : Nat} {Ts : List Cond} (hts : ∀ w ∈ Ts, w.before args s = true) (hin : ∀ w ∈ u_ws C T N, w ∈ Ts) {ty : Nat → FieldType} (hty : ∀ k, k < N → parseFieldDescriptor (T k).2.2.1 = some (ty k)) (hown : s.vm.findClass own = some m.cls) (hcl : (Cond.classLink own index C).before args s = true) (hinst : (Cond.instantiable C N).before args s = true) (hini : (Cond.initialized C).before args s = true)
    (hK : gK E s) (hk : kat E b ws H) (ha : b + ws.length = a) (hS : va_S A H0 H locs) (hc : vwCl[ci]? = some (C, T, N)) {fs : List Value} (hfs : ∀ j, j < N → defaultValue (ty j) = vp_V fs j) (hcells : cells + 1 ≤ R.cells) (hslots : slots + N ≤ R.slots) (hdg : decode cc pc = .ok (.new index, 3))
    (kk : ∀ H1 : Heap, kat E b (ws ++ [.inr (ci, fs)]) H1 → va_S A H0 H1 locs → W p l e R s m args below meth c H1 locs (cells + 1) (slots + N) Q (F0 m (pc + 3) ls (.ref a :: rest))) : W p l e R s m args below meth c H locs cells slots Q (F0 m pc ls rest) := by
  have hKn := hK.1 ci _ hc
  subst ha
  refine W.newcK hexec hb hown hcl hinst hini rfl hdg hcells hslots hKn.2.1 hk.1 fun H1 kC hkC e1 z1 o1 => ?_
  rw [← hk.1] at z1 o1
  exact kk H1 (kat_push hk z1 o1 ⟨_, hc, (u_born ty hts hin hKn hkC e1 hty).to hfs⟩) (kS_push hS z1 o1)
theorem kx_newa (hexec : p.tables.exec = Jvm.exec) (hb : c.code = cc) {atype : ArrayType} (harr : (Cond.arrayClass (newarray.typeOf atype)).before args s = true) {ty : FieldType} (hty : newarray.typeOf atype = ty) (hd : defaultValue ty = .int 0) {cA : ClassId} (hcA : s.vm.findClass ("[" ++ ty.toString) = some cA) (hk : kat E b ws H) (ha : b + ws.length = a) (hS : va_S A H0 H locs)
    {n : Int32} {N' : Nat} (hn : ¬ n < 0) (hN : n.toNatClampNeg = N') (hbytes : N' * componentBytes ty ≤ 536870912) (hcells : cells + 1 ≤ R.cells) (hslots : slots + N' ≤ R.slots) (hdg : decode cc pc = .ok (.newarray atype, 2))
    (kk : ∀ H1 : Heap, kat E b (ws ++ [.inl (cA, N', .inl (fun _ => 0))]) H1 → va_S A H0 H1 locs → W p l e R s m args below meth c H1 locs (cells + 1) (slots + N') Q (F0 m (pc + 2) ls (.ref a :: rest))) : W p l e R s m args below meth c H locs cells slots Q (F0 m pc ls (.int n :: rest)) := by
  subst hty
  subst ha
  refine va_newaK hexec hb harr rfl hdg rfl hn hN hbytes hcells hslots hk.1 fun H1 cA' e1 z1 o1 hAr hNm => ?_
  have hc : cA' = cA := Option.some.inj (hNm.symm.trans hcA)
  subst hc
  rw [← hk.1] at z1 o1
  refine kk H1 (kat_push hk z1 o1 ?_) (kS_push hS z1 o1)
  show H1[b + ws.length]? = some (vp_cell _ _)
  rw [vp_cell_i, e1, hd]
theorem kx_newq (hexec : p.tables.exec = Jvm.exec) (hb : c.code = cc) {own C : String} {index : Nat} (hown : s.vm.findClass own = some m.cls) (hclink : (Cond.classLink own index C).before args s = true) (hover : va_AO C s) {cA : ClassId} (hcA : s.vm.findClass ("[" ++ (FieldType.object C).toString) = some cA) (hk : kat E b ws H) (ha : b + ws.length = a) (hS : va_S A H0 H locs)
    {n : Int32} {N' : Nat} (hn : ¬ n < 0) (hN : n.toNatClampNeg = N') (hbytes : N' * 4 ≤ 536870912) (hcells : cells + 1 ≤ R.cells) (hslots : slots + N' ≤ R.slots) (hdg : decode cc pc = .ok (.anewarray index, 3))
    (kk : ∀ H1 : Heap, kat E b (ws ++ [.inl (cA, N', .inr (.inr (.inr (.inr (fun _ => none)))))]) H1 → va_S A H0 H1 locs → W p l e R s m args below meth c H1 locs (cells + 1) (slots + N') Q (F0 m (pc + 3) ls (.ref a :: rest))) : W p l e R s m args below meth c H locs cells slots Q (F0 m pc ls (.int n :: rest)) := by
  subst hN
  subst ha
  rw [← hk.1] at kk
  refine W.anew hexec hb hown hclink (va_AO.use hover) rfl hdg rfl hn hbytes hcells hslots fun cA' kA comp f1 f2 f3 f4 => ?_
  have hc : cA' = cA := Option.some.inj (f1.symm.trans hcA)
  subst hc
  generalize hH1 : H.push ({ cls := cA', slots := Array.replicate n.toNatClampNeg .null, vm := .none } : Cell) = H1
  have z1 : H1.size = H.size + 1 := by rw [← hH1, Array.size_push]
  have e1 : H1[H.size]? = some (arrV cA' n.toNatClampNeg (fun _ => .null)) := by rw [← hH1, Array.getElem?_push_size, ← arrV_new]
  have o1 : ∀ q : Nat, q < H.size → H1[q]? = H[q]? := fun q hq => by rw [← hH1, Array.getElem?_push, if_neg (Nat.ne_of_lt hq)]
  refine kk H1 (kat_push hk z1 o1 ?_) (kS_push hS z1 o1)
  show H1[b + ws.length]? = some (vp_cell _ _)
  rw [← hk.1, vp_cell_q]
  exact e1
theorem fx_ast {D : va_G} {cl : List vw_C} {tys : List (ClassId × FieldType)} (hexec : p.tables.exec = Jvm.exec) (hb : c.code = cc) (hK : va_K D cl tys s) (t0 ci : Nat) {cA : ClassId} {r : vw_C} {n v : Nat} {vs : List Value} {f : Nat → Option Nat} (hat : va_at D cl (a, .inl (cA, n, .inr (.inr (.inr (.inr f))))) H) (hA : A a) (hS : va_S A H0 H locs) (ht : tys[t0]? = some (cA, .object r.1)) (hv : va_at D cl (v, .inr (ci, vs)) H) (hc : cl[ci]? = some r) {i : Int32} (hin : vp_in i n) (hdg : decode cc pc = .ok (.aastore, 1))
    (kk : ∀ (H1 : Heap) (locs1 : List Loc), va_at D cl (a, .inl (cA, n, .inr (.inr (.inr (.inr (va_up f i.toNatClampNeg (some v))))))) H1 → (∀ q : Nat, q ≠ a → H1[q]? = H[q]?) → va_S A H0 H1 locs1 → W p l e R s m args below meth c H1 locs1 cells slots Q (F0 m (pc + 1) ls rest)) : W p l e R s m args below meth c H locs cells slots Q (F0 m pc ls (.ref v :: .int i :: .ref a :: rest)) := by
  have hlt : i.toNatClampNeg < n := Nat.not_le.mp fun q => hin (Or.inr q)
  have h0 : ¬ i < 0 := fun q => hin (Or.inl q)
  obtain ⟨r', hr', cellV, g1, g2, g3, -⟩ := hv
  have hcls := (hK.1 ci r hc).2
  obtain ⟨kA, comp, k1, k2, k3, -⟩ := (hK.2 t0 _ ht).2
  have hcomp : comp = D.1 ci := Option.some.inj (k3.symm.trans hcls.1)
  subst hcomp
  obtain ⟨kC, hkC, -⟩ := hcls.2
  refine W.aast hexec hb hat (fun q h => by cases h) (fun h => by cases h) k1 k2 rfl hkC ⟨h0, by show _ < (arrV _ _ _).slots.size; rw [arrV_size]; exact hlt⟩ g1 (fun q h => by rw [g3] at h; cases h) (by rw [g2]; exact hkC) (by rw [g2]; exact va_assign hcls) rfl rfl hdg fun H1 e z oq => ?_
  refine kk H1 _ ?_ oq (hS.put z oq hA)
  show H1[a]? = some (vp_cell _ _)
  rw [e]
  rw [vp_cell_q, vp_cell_q, arrV_store]
  congr 2
  funext q
  by_cases hq : q = i.toNatClampNeg
  · subst hq
    simp [updV, va_up, va_rf]
  · simp [updV, va_up, hq]
theorem kx_ast (hexec : p.tables.exec = Jvm.exec) (hb : c.code = cc) (hK : gK E s) (t0 ci : Nat) {cA : ClassId} {r : vw_C} {n v : Nat} {vs : List Value} {f : Nat → Option Nat} (hk : kat E b ws H) (j jv : Nat) (he : ws[j]? = some (.inl (cA, n, .inr (.inr (.inr (.inr f)))))) (ha : b + j = a) (hA : A a) (hS : va_S A H0 H locs) (ht : (eT E)[t0]? = some (cA, .object r.1)) (hv : ws[jv]? = some (.inr (ci, vs))) (hav : b + jv = v) (hc : vwCl[ci]? = some r) {i : Int32} (hin : vp_in i n) (hdg : decode cc pc = .ok (.aastore, 1))
    (kk : ∀ (H1 : Heap) (locs1 : List Loc), kat E b (ws.set j (.inl (cA, n, .inr (.inr (.inr (.inr (va_up f i.toNatClampNeg (some v)))))))) H1 → va_S A H0 H1 locs1 → W p l e R s m args below meth c H1 locs1 cells slots Q (F0 m (pc + 1) ls rest)) : W p l e R s m args below meth c H locs cells slots Q (F0 m pc ls (.ref v :: .int i :: .ref a :: rest)) := by
  subst ha
  subst hav
  exact fx_ast hexec hb hK t0 ci (hk.2 j _ he) hA hS ht (hk.2 jv _ hv) hc hin hdg (fun H1 locs1 hat hne hS => kk H1 locs1 (kat_set hk he hat hne) hS)
theorem kx_ist (hexec : p.tables.exec = Jvm.exec) (hb : c.code = cc) (hK : gK E s) (t0 : Nat) {cA : ClassId} {n : Nat} {f : Nat → Int32} (hk : kat E b ws H) (j : Nat) (he : ws[j]? = some (.inl (cA, n, .inl f))) (ha : b + j = a) (hA : A a) (hS : va_S A H0 H locs) (ht : (eT E)[t0]? = some (cA, .int)) {i x : Int32} (hin : vp_in i n) (hdg : decode cc pc = .ok (.iastore, 1))
    (kk : ∀ (H1 : Heap) (locs1 : List Loc), kat E b (ws.set j (.inl (cA, n, .inl (va_up f i.toNatClampNeg x)))) H1 → va_S A H0 H1 locs1 → W p l e R s m args below meth c H1 locs1 cells slots Q (F0 m (pc + 1) ls rest)) : W p l e R s m args below meth c H locs cells slots Q (F0 m pc ls (.int x :: .int i :: .ref a :: rest)) := by
  subst ha
  exact fx_ist hexec hb hK t0 (hk.2 j _ he) hA hS ht hin hdg (fun H1 locs1 hat hne hS => kk H1 locs1 (kat_set hk he hat hne) hS)
variable {y : MethodName} {bytes : ByteArray} {maxL nL n index k1 n1 : Nat} {wsC : List Cond} {rm : Room} {Ts : List Cond} {own host : String} {As st0 : List Value} {q0 : va_E} {ws2 : List va_E}
theorem kP_of (hk : kat E b (ws ++ [q0]) H) (ha : b + ws.length = a) (hK : gK E s) (hB : kB s) : PreS s H (kPre E a q0 (.ref a :: As)) (.ref a :: As) := by
  subst ha
  exact ⟨kPre_blind, fun U hU hW => ⟨rfl, by rw [hU]; exact kat_last hk, va_K.moved hW.alike hK, kB_warm hW hB⟩⟩
theorem kx_end {Q : State → Prop} (hr : va_Run p l e R s m args below meth c H locs cells slots k1 n1 (F0 m pc ls st0) rest (kQ E a ws2 (Value.ref a :: As).toArray) (kA a)) (hk : kat E b (ws ++ [q0]) H) (ha : b + ws.length = a) (hS : va_S A H0 H locs) (hA : ∀ q, a ≤ q → A q)
    (kk : ∀ (H1 : Heap) (locs1 : List Loc), kat E b (ws ++ ws2) H1 → va_S A H0 H1 locs1 → W p l e R s m args below meth c H1 locs1 (cells + k1) (slots + n1) Q (F0 m (pc + 3) ls rest)) : W p l e R s m args below meth c H locs cells slots Q (F0 m pc ls st0) := by
  refine va_callv hr hS (fun q _ h => hA q h) hA (fun u t H1 locs1 ht hvm hw hb1 hz hkp hS1 => ?_)
  subst ha
  obtain ⟨h1, -⟩ := hb1
  rw [ht] at h1
  refine kk H1 locs1 (kat_app (H := H) (fun k z hz => hk.2 k z ?_) h1 (fun q hq => hkp q ?_ ?_)) hS1
  · have hl : k < ws.length := (List.getElem?_eq_some_iff.mp hz).1
    rw [List.getElem?_append_left hl]; exact hz
  · rw [hk.1, List.length_append]; omega
  · exact Nat.not_le.mpr hq
theorem kx_call (S9 : CallFix p m c cc nL s args Ts own) (hM : Met l y wsC rm (kPre E a q0 (.ref a :: As)) (kQ E a ws2) k1 n1 (kA a)) (cw : CallB R s args own index y bytes maxL none wsC rm k1 n1 n ∧ y.name = "<init>" ∧ (Cond.instanceMethod y).before args s = true) (hk : kat E b (ws ++ [q0]) H) (ha : b + ws.length = a) (hK : gK E s) (hB : kB s)
    (hn : As.length = n) (hsize : ls.size = nL) (hstack : st0 = As.reverse ++ .ref a :: rest) (hroom : (rest.map fun v => v.category).sum ≤ 8) (hdg : decode cc pc = .ok (.invokespecial index, 3)) (hf : cells + k1 ≤ R.cells ∧ slots + n1 ≤ R.slots) (hS : va_S A H0 H locs) (hA : ∀ q, a ≤ q → A q)
    (kk : ∀ (H1 : Heap) (locs1 : List Loc), kat E b (ws ++ ws2) H1 → va_S A H0 H1 locs1 → W p l e R s m args below meth c H1 locs1 (cells + k1) (slots + n1) Q (F0 m (pc + 3) ls rest)) : W p l e R s m args below meth c H locs cells slots Q (F0 m pc ls st0) :=
  kx_end (va_runI (g := F0 m pc ls st0) (As := As) (rest := rest) S9 hM cw (kP_of hk ha hK hB) rfl hn hsize hstack (lv_room hroom) hdg hf) hk ha hS hA kk
theorem kx_callN (S9 : CallFix p m c cc nL s args Ts own) (hM : Met l y wsC rm (kPre E a q0 (.ref a :: As)) (kQ E a ws2) k1 n1 (kA a)) (cw : va_CN R s args own index y host bytes maxL none wsC rm k1 n1 n ∧ y.name = "<init>" ∧ (Cond.instanceMethod y).before args s = true) (hk : kat E b (ws ++ [q0]) H) (ha : b + ws.length = a) (hK : gK E s) (hB : kB s)
    (hn : As.length = n) (hsize : ls.size = nL) (hstack : st0 = As.reverse ++ .ref a :: rest) (hroom : (rest.map fun v => v.category).sum ≤ 8) (hdg : decode cc pc = .ok (.invokespecial index, 3)) (hf : cells + k1 ≤ R.cells ∧ slots + n1 ≤ R.slots) (hS : va_S A H0 H locs) (hA : ∀ q, a ≤ q → A q)
    (kk : ∀ (H1 : Heap) (locs1 : List Loc), kat E b (ws ++ ws2) H1 → va_S A H0 H1 locs1 → W p l e R s m args below meth c H1 locs1 (cells + k1) (slots + n1) Q (F0 m (pc + 3) ls rest)) : W p l e R s m args below meth c H locs cells slots Q (F0 m pc ls st0) :=
  kx_end (va_runIN (g := F0 m pc ls st0) (As := As) (rest := rest) S9 hM cw (kP_of hk ha hK hB) rfl hn hsize hstack (lv_room hroom) hdg hf) hk ha hS hA kk
theorem kx_vret {mc ms : Nat} (hexec : p.tables.exec = Jvm.exec) (hb : c.code = cc) (hr : meth.sig.returnType = none) (hlocks : meth.locks = false) (hK : gK E s) (hk : kat E b ws H) (hS : va_S (kA b) s.heap H locs) (hdg : decode cc pc = .ok (.return_, 1)) (hc : cells ≤ mc) (hs : slots ≤ ms) :
    W p l e R s m args below meth c H locs cells slots (MQ below (kQ E b ws) args s mc ms (kA b)) (F0 m pc ls []) :=
  W.widen (k := mc) (n := ms) hc hs (W.vret hexec hb hr (fun t ht hW9 => ⟨⟨(), rfl, trivial, by rw [ht]; exact hk, va_K.moved hW9.alike hK⟩, hS.F ht⟩) hS.2.2 hdg)
end KX
