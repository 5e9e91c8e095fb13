/-! the law's own methods: the class's state and the row of one long; what a catch wants of the start -/
def lNc (U : State) : Prop := va_Nc "java/lang/IllegalArgumentException" "java/lang/IndexOutOfBoundsException" U ∧ va_Nc "java/lang/IllegalStateException" "java/lang/IndexOutOfBoundsException" U ∧ va_Nc "java/lang/IllegalStateException" "java/lang/IllegalArgumentException" U
theorem lNc_moved {u U : State} (hvm : u.vm.Alike U.vm) (h : lNc u) : lNc U := ⟨h.1.moved hvm, h.2.1.moved hvm, h.2.2.moved hvm⟩
def lW (E : eE) (bb oa : Nat) (w : PS × (Nat → Int64)) (H : Heap) : Prop := pw E bb w.1 H ∧ va_at (eD E) vwCl (oa, .inl (eJ E, 1, .inr (.inl w.2))) H
def lA (bb oa sz : Nat) : Nat → Prop := fun q => cA bb q ∨ q = oa ∨ sz ≤ q
def lPre (E : eE) (bb oa sz : Nat) (w : PS × (Nat → Int64)) (av : List Value) : Array Value → State → Prop := va_Pc av (fun U => U.heap.size = sz ∧ lW E bb oa w U.heap ∧ gK E U ∧ xS (lA bb oa sz) U ∧ lNc U)
theorem lPre_blind {E : eE} {bb oa sz : Nat} {w : PS × (Nat → Int64)} {av : List Value} : FrameBlind (lPre E bb oa sz w av) := by
  intro a U g mk h
  obtain ⟨h1, h2, h3, h4, h5, h6⟩ := h
  exact ⟨h1, h2, h3, va_K.moved (u := U) (U := U.calling g mk a) (Vm.Alike.refl U.vm) h4, xS_warm (s := U) (U := U.calling g mk a) (State.WarmedH.refl U) (fun _ _ _ => rfl) h5, lNc_moved (u := U) (U := U.calling g mk a) (Vm.Alike.refl U.vm) h6⟩
theorem pw_keep {E : eE} {bb : Nat} {x : PS} {H H1 : Heap} (h : pw E bb x H) (hk : ∀ q : Nat, cA bb q → H1[q]? = H[q]?) : pw E bb x H1 :=
  ⟨fun o ho => (h.1 o ho).kept (hk _ (cA_P ho)), fun d hd => (h.2.1 d hd).kept (hk _ (cA_D hd)), fun n hn o ho => (h.2.2 n hn o ho).kept (hk _ (cA_C hn ho))⟩
section LX
variable {p : Program} {l : Launch} {e : Env} {R : Room} {s : State} {m : MethodId} {args : Array Value} {below : List Frame} {meth : Method} {c : Code} {H : Heap} {locs : List Loc} {Q : State → Prop}
variable {cc : ByteArray} {pc : Nat} {ls : Array Slot} {rest : List Value} {E : eE} {bb oa : Nat} {cells slots : Nat}
theorem lx_lst {x : PS} {f : Nat → Int64} {v : Int64} (hexec : p.tables.exec = Jvm.exec) (hb : c.code = cc) (hK : gK E s) (hB : lW E bb oa (x, f) H) (hoa : ¬ cA bb oa) (hS : va_S (lA bb oa s.heap.size) s.heap H locs) (hdg : decode cc pc = .ok (.lastore, 1))
    (kk : ∀ (H1 : Heap) (locs1 : List Loc), lW E bb oa (x, vp_updL f 0 v) H1 → va_S (lA bb oa s.heap.size) s.heap H1 locs1 → W p l e R s m args below meth c H1 locs1 cells slots Q (F0 m (pc + 1) ls rest)) : W p l e R s m args below meth c H locs cells slots Q (F0 m pc ls (.long v :: .int 0 :: .ref oa :: rest)) := by
  refine W.last hexec hb hB.2 ((hK.2 4 (eJ E, .long) rfl).1 1 (fun j => .long (f j))) (fun q => by cases q) (by show ¬ ((0 : Int32) < 0 ∨ (arrV _ _ _).slots.size ≤ _); rw [arrV_size]; exact (show ¬ ((0 : Int32) < 0 ∨ 1 ≤ (0 : Int32).toNatClampNeg) by decide)) rfl rfl hdg fun H1 e z oq => ?_
  refine kk H1 _ ⟨pw_keep hB.1 (fun q hq => oq q (fun h => hoa (by have h' : q = oa := h; rw [← h']; exact hq))), ?_⟩ (hS.put z oq (Or.inr (Or.inl rfl)))
  show H1[oa]? = some (vp_cell _ _)
  rw [e]
  rw [vp_cell_l, vp_cell_l, arrV_store]
  congr 2
  funext q
  by_cases hq : q = 0
  · subst hq
    simp [updV, vp_updL]
  · simp [updV, vp_updL, hq]
variable {y : MethodName} {bytes : ByteArray} {maxL nL n index k1 n1 : Nat} {ret : Option FieldType} {ws : List Cond} {rm : Room} {Ts : List Cond} {own C : String} {As st0 : List Value} {x : PS} {f : Nat → Int64} {y0 : Nat × PS × Int32} {b : Nat}
theorem lx_A (hS : va_S (lA bb oa s.heap.size) s.heap H locs) : ∀ q, xA bb H.size q → lA bb oa s.heap.size q := fun _ h => h.elim Or.inl (fun h => Or.inr (Or.inr (Nat.le_trans hS.1 h)))
theorem lx_keep {H1 : Heap} {u : PS} (hB : lW E bb oa (x, f) H) (hoa : ¬ cA bb oa) (hk : ∀ q : Nat, q < H.size → ¬ xA bb H.size q → H1[q]? = H[q]?) (hp : pw E bb u H1) : lW E bb oa (u, f) H1 :=
  ⟨hp, hB.2.kept (hk oa hB.2.lt (fun h => h.elim hoa (fun h => Nat.not_le.mpr hB.2.lt h)))⟩
theorem lx_P (hB : lW E bb oa (x, f) H) (hK : gK E s) (hxs : xS (lA bb oa s.heap.size) s) (hS : va_S (lA bb oa s.heap.size) s.heap H locs) : ∀ U : State, U.heap = H → s.WarmedH U.vm → xPre E bb H.size (pw E bb x) (.ref b :: As) (Value.ref b :: As).toArray U :=
  fun U hU hW => ⟨rfl, by rw [hU], by rw [hU]; exact hB.1, va_K.moved hW.alike hK, xS_narrow (lx_A hS) (xS_warm hW (fun a h1 h2 => by rw [hU]; exact hS.2.1 a h1 h2) hxs)⟩
theorem lx_cv (S9 : CallFix p m c cc nL s args Ts own) (hM : vx_Met l y ws rm (xPre E bb H.size (pw E bb x) (.ref b :: As)) (xQv E (pw E bb) y0 (xA bb H.size)) (xX E (pw E bb) y0 (xA bb H.size)) k1 n1 (xA bb H.size)) (cw : CallW R s args own C index y bytes maxL ret ws rm k1 n1 n) (hB : lW E bb oa (x, f) H) (hoa : ¬ cA bb oa) (hK : gK E s) (hxs : xS (lA bb oa s.heap.size) s) (hrec : ∃ cell : Cell, H[b]? = some cell ∧ cell.vm.isStatics = false ∧ s.vm.findClass C = some cell.cls)
    (hn : As.length = n) (hsize : ls.size = nL) (hstack : st0 = As.reverse ++ .ref b :: rest) (hroom : (rest.map fun v => v.category).sum ≤ 8) (hdg : decode cc pc = .ok (.invokevirtual index, 3)) (hf : cells + k1 ≤ R.cells ∧ slots + n1 ≤ R.slots) (hS : va_S (lA bb oa s.heap.size) s.heap H locs)
    (kx : ∀ (X : String) (ce : Cell) (q9 : Addr) (H1 : Heap) (locs1 : List Loc), X ∈ xEs → y0.1 = xcode X → lW E bb oa (y0.2.1, f) H1 → va_S (lA bb oa s.heap.size) s.heap H1 locs1 → H1[q9]? = some ce → ce.vm = .none → s.vm.findClass X = some ce.cls → vx_W p l e R s m args below meth c H1 locs1 (cells + k1) (slots + n1) Q (F0 m pc ls rest) q9)
    (kk : ∀ (H1 : Heap) (locs1 : List Loc), y0.1 = 0 → lW E bb oa (y0.2.1, f) H1 → va_S (lA bb oa s.heap.size) s.heap H1 locs1 → W p l e R s m args below meth c H1 locs1 (cells + k1) (slots + n1) Q (F0 m (pc + 3) ls rest)) : W p l e R s m args below meth c H locs cells slots Q (F0 m pc ls st0) := by
  refine vx_callv (vx_runV (g := F0 m pc ls st0) (As := As) (rest := rest) S9 hM cw ⟨xPre_blind, hrec, lx_P hB hK hxs hS⟩ rfl hn hsize hstack (lv_room hroom) hdg hf) hS (fun q _ h => lx_A hS q h) (lx_A hS) (fun q _ h => lx_A hS q h) (fun X ce q9 u t H1 locs1 ht hvm hp hb1 hz hk hS1 hce hcv hcl => ?_) (fun u t H1 locs1 ht hvm hw hb1 hz hk hS1 => ?_)
  · subst hp
    exact kx X ce q9 H1 locs1 hb1.1.1 hb1.1.2 (lx_keep hB hoa hk (by rw [← ht]; exact hb1.2.1)) hS1 hce hcv hcl
  · have e1 : y0.2.1 = u := by rw [hw]
    subst e1
    exact kk H1 locs1 (by rw [hw]) (lx_keep hB hoa hk (by rw [← ht]; exact hb1.1)) hS1
theorem lx_ci (S9 : CallFix p m c cc nL s args Ts own) (hM : vx_Met l y ws rm (xPre E bb H.size (pw E bb x) (.ref b :: As)) (xQi E (pw E bb) y0 (xA bb H.size)) (xX E (pw E bb) y0 (xA bb H.size)) k1 n1 (xA bb H.size)) (cw : CallW R s args own C index y bytes maxL ret ws rm k1 n1 n) (hB : lW E bb oa (x, f) H) (hoa : ¬ cA bb oa) (hK : gK E s) (hxs : xS (lA bb oa s.heap.size) s) (hrec : ∃ cell : Cell, H[b]? = some cell ∧ cell.vm.isStatics = false ∧ s.vm.findClass C = some cell.cls)
    (hn : As.length = n) (hsize : ls.size = nL) (hstack : st0 = As.reverse ++ .ref b :: rest) (hroom : (rest.map fun v => v.category).sum ≤ 8) (hdg : decode cc pc = .ok (.invokevirtual index, 3)) (hf : cells + k1 ≤ R.cells ∧ slots + n1 ≤ R.slots) (hS : va_S (lA bb oa s.heap.size) s.heap H locs)
    (kx : ∀ (X : String) (ce : Cell) (q9 : Addr) (H1 : Heap) (locs1 : List Loc), X ∈ xEs → y0.1 = xcode X → lW E bb oa (y0.2.1, f) H1 → va_S (lA bb oa s.heap.size) s.heap H1 locs1 → H1[q9]? = some ce → ce.vm = .none → s.vm.findClass X = some ce.cls → vx_W p l e R s m args below meth c H1 locs1 (cells + k1) (slots + n1) Q (F0 m pc ls rest) q9)
    (kk : ∀ (H1 : Heap) (locs1 : List Loc), y0.1 = 0 → lW E bb oa (y0.2.1, f) H1 → va_S (lA bb oa s.heap.size) s.heap H1 locs1 → W p l e R s m args below meth c H1 locs1 (cells + k1) (slots + n1) Q (F0 m (pc + 3) ls (.int y0.2.2 :: rest))) : W p l e R s m args below meth c H locs cells slots Q (F0 m pc ls st0) := by
  refine vx_calli (vx_runV (g := F0 m pc ls st0) (As := As) (rest := rest) S9 hM cw ⟨xPre_blind, hrec, lx_P hB hK hxs hS⟩ rfl hn hsize hstack (lv_room hroom) hdg hf) hS (fun q _ h => lx_A hS q h) (lx_A hS) (fun q _ h => lx_A hS q h) (fun X ce q9 u t H1 locs1 ht hvm hp hb1 hz hk hS1 hce hcv hcl => ?_) (fun r u t H1 locs1 ht hvm hw hb1 hz hk hS1 => ?_)
  · subst hp
    exact kx X ce q9 H1 locs1 hb1.1.1 hb1.1.2 (lx_keep hB hoa hk (by rw [← ht]; exact hb1.2.1)) hS1 hce hcv hcl
  · have e1 : y0.2.1 = u := by rw [hw]
    have e2 : y0.2.2 = r := by rw [hw]
    subst e1
    subst e2
    exact kk H1 locs1 (by rw [hw]) (lx_keep hB hoa hk (by rw [← ht]; exact hb1.1)) hS1
end LX
theorem xc_1 : xcode "java/lang/IndexOutOfBoundsException" = 1 := by decide
theorem xc_2 : xcode "java/lang/IllegalArgumentException" = 2 := by decide
theorem xc_3 : xcode "java/lang/IllegalStateException" = 3 := by decide
theorem xEs_cases {X : String} (h : X ∈ xEs) : X = "java/lang/IndexOutOfBoundsException" ∨ X = "java/lang/IllegalArgumentException" ∨ X = "java/lang/IllegalStateException" := by
  simp only [xEs, List.mem_cons, List.not_mem_nil, or_false] at h
  exact h
theorem xS_cast {A : Nat → Prop} {U : State} {X : String} {args : Array Value} (h : xS A U) (hX : X ∈ xEs) : (Cond.castable X X).before args U = true := va_Nw.use rfl (h.2.2.2 X hX _ (List.mem_cons_self ..))
