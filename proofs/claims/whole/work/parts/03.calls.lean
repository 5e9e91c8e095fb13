/-! what a run's tables are: the classes' numbers and slots, the classes of the arrays (int, boolean, Channel, Drug, long) -/
abbrev eE : Type := (Nat → ClassId) × (Nat → Nat → Nat) × ClassId × ClassId × ClassId × ClassId × ClassId
abbrev eD (E : eE) : va_G := (E.1, E.2.1)
abbrev eI (E : eE) : ClassId := E.2.2.1
abbrev eZ (E : eE) : ClassId := E.2.2.2.1
abbrev eC (E : eE) : ClassId := E.2.2.2.2.1
abbrev eR (E : eE) : ClassId := E.2.2.2.2.2.1
abbrev eJ (E : eE) : ClassId := E.2.2.2.2.2.2
abbrev eT (E : eE) : List (ClassId × FieldType) := [(eI E, .int), (eZ E, .boolean), (eC E, .object "DosePump$Channel"), (eR E, .object "DosePump$Drug"), (eJ E, .long)]
abbrev gK (E : eE) (U : State) : Prop := va_K (eD E) vwCl (eT E) U
/-- a method's start: its arguments, a world -/
def gPre (E : eE) (B : Heap → Prop) (av : List Value) : Array Value → State → Prop := va_Pc av (fun U => B U.heap ∧ gK E U)
/-- a method's ends: the answer and the state are those of the pair y -/
def gQi {S : Type} (E : eE) (Wp : S → Heap → Prop) (y : S × Int32) (A : Nat → Prop) : Array Value → State → Outcome → State → Prop := va_Qi (fun r u => y = (u, r)) (fun u t => Wp u t.heap ∧ gK E t) A
def gQl {S : Type} (E : eE) (Wp : S → Heap → Prop) (y : S × Int64) (A : Nat → Prop) : Array Value → State → Outcome → State → Prop := va_Ql (fun r u => y = (u, r)) (fun u t => Wp u t.heap ∧ gK E t) A
def gQv {S : Type} (E : eE) (Wp : S → Heap → Prop) (y : S) (A : Nat → Prop) : Array Value → State → Outcome → State → Prop := va_Qv (fun u => y = u) (fun u t => Wp u t.heap ∧ gK E t) A
theorem gPre_blind {E : eE} {B : Heap → Prop} {av : List Value} : FrameBlind (gPre E B av) := by
  intro a U g mk h
  obtain ⟨h1, h2, h3⟩ := h
  exact ⟨h1, h2, va_K.moved (u := U) (U := U.calling g mk a) (Vm.Alike.refl U.vm) h3⟩
theorem fx_recv {s : State} {H : Heap} {D : va_G} {cl : List vw_C} {a ci : Nat} {q : vw_C} {fs : List Value} {tys : List (ClassId × FieldType)} (hK : va_K D cl tys s) (hat : va_at D cl (a, .inr (ci, fs)) H) (hc : cl[ci]? = some q) : ∃ cell : Cell, H[a]? = some cell ∧ cell.vm.isStatics = false ∧ s.vm.findClass q.1 = some cell.cls :=
  va_recv hK (fx_P1 hat) hc (q0 := 0) rfl
section FXC
variable {p : Program} {l : Launch} {e : Env} {R : Room} {s : State} {m : MethodId} {args : Array Value} {below : List Frame} {meth : Method} {c : Code} {H : Heap} {locs : List Loc} {cells slots : Nat} {Q : State → Prop}
variable {y : MethodName} {bytes cc : ByteArray} {maxL nL n index pc : Nat} {ret : Option FieldType} {ws : List Cond} {rm : Room} {Ts : List Cond} {own C : String} {b : Nat} {As rest st0 : List Value} {ls : Array Slot} {E : eE} {B : Heap → Prop} {A0 A1 : Nat → Prop} {H0 : Heap}
/-- calls of methods that make nothing: void, int, long; on an object, static -/
theorem gx_v {S : Type} {Wp : S → Heap → Prop} {y0 : S} (S9 : CallFix p m c cc nL s args Ts own) (hM : Met l y ws rm (gPre E B (.ref b :: As)) (gQv E Wp y0 A1) 0 0 A1) (cw : CallW R s args own C index y bytes maxL ret ws rm 0 0 n) (hB : B H) (hK : gK E s) (hrec : ∃ cell : Cell, H[b]? = some cell ∧ cell.vm.isStatics = false ∧ s.vm.findClass C = some cell.cls)
    (hn : As.length = n) (hsize : ls.size = nL) (hstack : st0 = As.reverse ++ .ref b :: rest) (hroom : (rest.map fun v => v.category).sum ≤ 8) (hdg : decode cc pc = .ok (.invokevirtual index, 3)) (hf : cells ≤ R.cells ∧ slots ≤ R.slots) (hS : va_S A0 H0 H locs) (hA : ∀ q, A1 q → A0 q)
    (kk : ∀ (u : S) (H1 : Heap) (locs1 : List Loc), y0 = u → Wp u H1 → va_S A0 H0 H1 locs1 → W p l e R s m args below meth c H1 locs1 cells slots Q (F0 m (pc + 3) ls rest)) : W p l e R s m args below meth c H locs cells slots Q (F0 m pc ls st0) := by
  refine va_callv (va_runV (g := F0 m pc ls st0) (As := As) (rest := rest) S9 hM cw ⟨gPre_blind, hrec, fun U hU hW => ⟨rfl, by rw [hU]; exact hB, va_K.moved hW.alike hK⟩⟩ rfl hn hsize hstack (lv_room hroom) hdg hf) hS (fun q _ h => hA q h) hA (fun u t H1 locs1 ht hvm hw hb1 hz hk hS1 => ?_)
  obtain ⟨h1, -⟩ := hb1
  rw [ht] at h1
  exact kk u H1 locs1 hw h1 hS1
theorem gx_i {S : Type} {Wp : S → Heap → Prop} {y0 : S × Int32} (S9 : CallFix p m c cc nL s args Ts own) (hM : Met l y ws rm (gPre E B (.ref b :: As)) (gQi E Wp y0 A1) 0 0 A1) (cw : CallW R s args own C index y bytes maxL ret ws rm 0 0 n) (hB : B H) (hK : gK E s) (hrec : ∃ cell : Cell, H[b]? = some cell ∧ cell.vm.isStatics = false ∧ s.vm.findClass C = some cell.cls)
    (hn : As.length = n) (hsize : ls.size = nL) (hstack : st0 = As.reverse ++ .ref b :: rest) (hroom : (rest.map fun v => v.category).sum ≤ 8) (hdg : decode cc pc = .ok (.invokevirtual index, 3)) (hf : cells ≤ R.cells ∧ slots ≤ R.slots) (hS : va_S A0 H0 H locs) (hA : ∀ q, A1 q → A0 q)
    (kk : ∀ (u : S) (r : Int32) (H1 : Heap) (locs1 : List Loc), y0.1 = u → y0.2 = r → Wp u H1 → va_S A0 H0 H1 locs1 → W p l e R s m args below meth c H1 locs1 cells slots Q (F0 m (pc + 3) ls (.int r :: rest))) : W p l e R s m args below meth c H locs cells slots Q (F0 m pc ls st0) := by
  refine va_calli (va_runV (g := F0 m pc ls st0) (As := As) (rest := rest) S9 hM cw ⟨gPre_blind, hrec, fun U hU hW => ⟨rfl, by rw [hU]; exact hB, va_K.moved hW.alike hK⟩⟩ rfl hn hsize hstack (lv_room hroom) hdg hf) hS (fun q _ h => hA q h) hA (fun r u t H1 locs1 ht hvm hw hb1 hz hk hS1 => ?_)
  obtain ⟨h1, -⟩ := hb1
  rw [ht] at h1
  exact kk u r H1 locs1 (congrArg Prod.fst hw) (congrArg Prod.snd hw) h1 hS1
theorem gx_l {S : Type} {Wp : S → Heap → Prop} {y0 : S × Int64} (S9 : CallFix p m c cc nL s args Ts own) (hM : Met l y ws rm (gPre E B (.ref b :: As)) (gQl E Wp y0 A1) 0 0 A1) (cw : CallW R s args own C index y bytes maxL ret ws rm 0 0 n) (hB : B H) (hK : gK E s) (hrec : ∃ cell : Cell, H[b]? = some cell ∧ cell.vm.isStatics = false ∧ s.vm.findClass C = some cell.cls)
    (hn : As.length = n) (hsize : ls.size = nL) (hstack : st0 = As.reverse ++ .ref b :: rest) (hroom : (rest.map fun v => v.category).sum ≤ 8) (hdg : decode cc pc = .ok (.invokevirtual index, 3)) (hf : cells ≤ R.cells ∧ slots ≤ R.slots) (hS : va_S A0 H0 H locs) (hA : ∀ q, A1 q → A0 q)
    (kk : ∀ (u : S) (r : Int64) (H1 : Heap) (locs1 : List Loc), y0.1 = u → y0.2 = r → Wp u H1 → va_S A0 H0 H1 locs1 → W p l e R s m args below meth c H1 locs1 cells slots Q (F0 m (pc + 3) ls (.long r :: rest))) : W p l e R s m args below meth c H locs cells slots Q (F0 m pc ls st0) := by
  refine va_calll (va_runV (g := F0 m pc ls st0) (As := As) (rest := rest) S9 hM cw ⟨gPre_blind, hrec, fun U hU hW => ⟨rfl, by rw [hU]; exact hB, va_K.moved hW.alike hK⟩⟩ rfl hn hsize hstack (lv_room hroom) hdg hf) hS (fun q _ h => hA q h) hA (fun r u t H1 locs1 ht hvm hw hb1 hz hk hS1 => ?_)
  obtain ⟨h1, -⟩ := hb1
  rw [ht] at h1
  exact kk u r H1 locs1 (congrArg Prod.fst hw) (congrArg Prod.snd hw) h1 hS1
theorem gx_si {S : Type} {Wp : S → Heap → Prop} {y0 : S × Int32} (S9 : CallFix p m c cc nL s args Ts own) (hM : Met l y ws rm (gPre E B As) (gQi E Wp y0 A1) 0 0 A1) (cw : CallB R s args own index y bytes maxL ret ws rm 0 0 n ∧ (Cond.static y).before args s = true) (hB : B H) (hK : gK E s)
    (hn : As.length = n) (hsize : ls.size = nL) (hstack : st0 = As.reverse ++ rest) (hroom : (rest.map fun v => v.category).sum ≤ 8) (hdg : decode cc pc = .ok (.invokestatic index, 3)) (hf : cells ≤ R.cells ∧ slots ≤ R.slots) (hS : va_S A0 H0 H locs) (hA : ∀ q, A1 q → A0 q)
    (kk : ∀ (u : S) (r : Int32) (H1 : Heap) (locs1 : List Loc), y0.1 = u → y0.2 = r → Wp u H1 → va_S A0 H0 H1 locs1 → W p l e R s m args below meth c H1 locs1 cells slots Q (F0 m (pc + 3) ls (.int r :: rest))) : W p l e R s m args below meth c H locs cells slots Q (F0 m pc ls st0) := by
  refine va_calli (va_runS (g := F0 m pc ls st0) (As := As) (rest := rest) S9 hM cw ⟨gPre_blind, fun U hU hW => ⟨rfl, by rw [hU]; exact hB, va_K.moved hW.alike hK⟩⟩ rfl hn hsize hstack (lv_room hroom) hdg hf) hS (fun q _ h => hA q h) hA (fun r u t H1 locs1 ht hvm hw hb1 hz hk hS1 => ?_)
  obtain ⟨h1, -⟩ := hb1
  rw [ht] at h1
  exact kk u r H1 locs1 (congrArg Prod.fst hw) (congrArg Prod.snd hw) h1 hS1
/-- ends -/
theorem gx_iret {S : Type} {Wp : S → Heap → Prop} {y0 : S × Int32} {u : S} {v : Int32} {ty : FieldType} (hexec : p.tables.exec = Jvm.exec) (hb : c.code = cc) (hr : meth.sig.returnType = some ty) (hnar : narrow ty (.int v) = .int v) (hlocks : meth.locks = false) (hK : gK E s) (hf : y0 = (u, v)) (hW : Wp u H) (hS : va_S A0 s.heap H locs) (hdg : decode cc pc = .ok (.ireturn, 1)) :
    W p l e R s m args below meth c H locs cells slots (MQ below (gQi E Wp y0 A0) args s cells slots A0) (F0 m pc ls [.int v]) :=
  W.zret hexec hb hr hnar (fun t ht hW9 => ⟨⟨v, u, rfl, hf, by rw [ht]; exact hW, va_K.moved hW9.alike hK⟩, hS.F ht⟩) hS.2.2 hdg
theorem gx_vret {S : Type} {Wp : S → Heap → Prop} {y0 u : S} (hexec : p.tables.exec = Jvm.exec) (hb : c.code = cc) (hr : meth.sig.returnType = none) (hlocks : meth.locks = false) (hK : gK E s) (hf : y0 = u) (hW : Wp u H) (hS : va_S A0 s.heap H locs) (hdg : decode cc pc = .ok (.return_, 1)) :
    W p l e R s m args below meth c H locs cells slots (MQ below (gQv E Wp y0 A0) args s cells slots A0) (F0 m pc ls []) :=
  W.vret hexec hb hr (fun t ht hW9 => ⟨⟨u, rfl, hf, by rw [ht]; exact hW, va_K.moved hW9.alike hK⟩, hS.F ht⟩) hS.2.2 hdg
theorem gx_lret {S : Type} {Wp : S → Heap → Prop} {y0 : S × Int64} {u : S} {v : Int64} (hexec : p.tables.exec = Jvm.exec) (hb : c.code = cc) (hr : meth.sig.returnType = some .long) (hlocks : meth.locks = false) (hK : gK E s) (hf : y0 = (u, v)) (hW : Wp u H) (hS : va_S A0 s.heap H locs) (hdg : decode cc pc = .ok (.lreturn, 1)) :
    W p l e R s m args below meth c H locs cells slots (MQ below (gQl E Wp y0 A0) args s cells slots A0) (F0 m pc ls [.long v]) :=
  W.lret hexec hb hr (fun t ht hW9 => ⟨⟨v, u, rfl, hf, by rw [ht]; exact hW, va_K.moved hW9.alike hK⟩, hS.F ht⟩) hS.2.2 hdg
end FXC
