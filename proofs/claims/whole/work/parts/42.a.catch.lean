/-! a throw that a method of the law catches, by a row of its own table; the rows ahead of it name other classes -/
section WXC
variable {e : Env} {f : JFrame} {a : Addr} {cell : Cell}
/-- one row that covers the place: its class is linked (and noted); it takes the object, or the search goes on -/
theorem wx_row {S : State} {x : ExceptionTableEntry} {t : List ExceptionTableEntry} {k : ClassId} {Q : Handler → Pre} {E : CtlPost} {d : Bool} {acts : List Action} (hc : covers x f.pc = true) (h0 : x.catchType ≠ 0) (hl : S.vm.ClassLinks e.platform f.method.cls x.catchType k) (ho : S.heap[a]? = some cell) (hv : ∀ q, cell.vm ≠ .statics q) (h1 : ∃ q, S.vm.classes[cell.cls]? = some q) (h2 : ∃ q, S.vm.classes[k]? = some q) :
    wp (findHandler.go f a (x :: t)) Q E e d acts S ↔ if S.vm.assignable cell.cls k = true then Q (.found x.handlerPc) d acts (S.setVm (S.vm.noted f.method.cls x.catchType (.cls k))) else wp (findHandler.go f a t) Q E e d acts (S.setVm (S.vm.noted f.method.cls x.catchType (.cls k))) := by
  have hg := (resolveClass_links e.toSetting hl).op (op := VmOp.resolveClass f.method.cls x.catchType) rfl
  have hn : S.vm.Alike (S.vm.noted f.method.cls x.catchType (.cls k)) := (Vm.Alike.refl S.vm).noted _ _ _
  obtain ⟨q1, hq1⟩ := h1
  obtain ⟨q2, hq2⟩ := h2
  obtain ⟨r1, hr1, -⟩ := hn.2.2 _ _ hq1
  obtain ⟨r2, hr2, -⟩ := hn.2.2 _ _ hq2
  have hsame := hn.assignable cell.cls k
  simp only [covers] at hc
  cases hb : S.vm.assignable cell.cls k
  · rw [hb] at hsame
    simp [findHandler.go, hc, h0, hg.1, hg.2, ho, hv, hr1, hr2, hsame, VmOp.dirties, VmOp.acts]
  · rw [hb] at hsame
    simp [findHandler.go, hc, h0, hg.1, hg.2, ho, hv, hr1, hr2, hsame, VmOp.dirties, VmOp.acts]
theorem wx_search {s0 : State} (hv : ∀ q, cell.vm ≠ .statics q) (h1 : ∃ q, s0.vm.classes[cell.cls]? = some q) {x : ExceptionTableEntry} {suf : List ExceptionTableEntry} (hx : covers x f.pc = true) (h0 : x.catchType ≠ 0) {k : ClassId} (hl : s0.vm.ClassLinks e.platform f.method.cls x.catchType k) (hfit : s0.vm.assignable cell.cls k = true) :
    ∀ (pre : List ExceptionTableEntry) (S : State), s0.WarmedH S.vm → S.heap[a]? = some cell → (∀ z ∈ pre, covers z f.pc = true ∧ z.catchType ≠ 0 ∧ ∃ k, s0.vm.ClassLinks e.platform f.method.cls z.catchType k ∧ s0.vm.assignable cell.cls k = false) →
      ∃ vm', s0.WarmedH vm' ∧ ∀ (Q : Handler → Pre) (E : CtlPost) (d : Bool) (acts : List Action), wp (findHandler.go f a (pre ++ x :: suf)) Q E e d acts S ↔ Q (.found x.handlerPc) d acts (S.setVm vm') := by
  obtain ⟨q1, hq1⟩ := h1
  have step : ∀ (y : ExceptionTableEntry) (ky : ClassId) (S : State), s0.vm.ClassLinks e.platform f.method.cls y.catchType ky → s0.WarmedH S.vm → S.vm.ClassLinks e.platform f.method.cls y.catchType ky ∧ (∃ q, S.vm.classes[cell.cls]? = some q) ∧ (∃ q, S.vm.classes[ky]? = some q) ∧ s0.WarmedH (S.vm.noted f.method.cls y.catchType (.cls ky)) := by
    intro y ky S hy hW
    obtain ⟨r1, hr1, -⟩ := hW.alike.2.2 _ _ hq1
    obtain ⟨dk, _, _, kt, hd, _, _, _, _, hkt, _, hop⟩ := hy.here
    obtain ⟨r2, hr2, -⟩ := hW.alike.2.2 _ _ hkt
    exact ⟨hW.classLinks hy, ⟨r1, hr1⟩, ⟨r2, hr2⟩, hW.noted hd hop (State.rightAt_cls hy)⟩
  intro pre
  induction pre with
  | nil =>
    intro S hW ho _
    obtain ⟨g1, g2, g3, g4⟩ := step x k S hl hW
    refine ⟨_, g4, fun Q E d acts => ?_⟩
    rw [List.nil_append, wx_row hx h0 g1 ho hv g2 g3, if_pos (by rw [hW.alike.assignable]; exact hfit)]
  | cons z zs ih =>
    intro S hW ho hz
    obtain ⟨c1, c2, kz, c3, c4⟩ := hz z (List.mem_cons_self ..)
    obtain ⟨g1, g2, g3, g4⟩ := step z kz S c3 hW
    obtain ⟨vm', i1, i2⟩ := ih (S.setVm (S.vm.noted f.method.cls z.catchType (.cls kz))) g4 ho (fun w hw => hz w (List.mem_cons_of_mem _ hw))
    refine ⟨vm', i1, fun Q E d acts => ?_⟩
    rw [List.cons_append, wx_row c1 c2 g1 ho hv g2 g3, if_neg (by rw [hW.alike.assignable, c4]; decide)]
    exact i2 Q E d acts
/-- the step of the unwinding that comes to a handler -/
theorem wx_step {S : State} {r : List Frame} {pc : Nat} {vm' : Vm} (hf : ∀ (Q : Handler → Pre) (E : CtlPost) (d : Bool) (acts : List Action), wp (findHandler f a) Q E e d acts S ↔ Q (.found pc) d acts (S.setVm vm')) :
    (stepThrowing e S a (.java f :: r)).Is ((S.setVm vm').setFrames (.java { f with pc := pc, stack := [.ref a] } :: r)) [] := by
  simp only [stepThrowing, searchFrame, vmDo]
  generalize hr : Sem.go _ e false [] S = res
  obtain ⟨as, rfl, ha⟩ := Sem.eq_ok_of hr (a := Handler.found pc) (s' := S.setVm vm') (acts' := []) (by simp [hf _ _ _ _])
  exact ⟨rfl, ha⟩
end WXC
section WXD
variable {p : Program} {l : Launch} {e : Env} {R : Room} {s : State} {m : MethodId} {args : Array Value} {below : List Frame} {meth : Method} {c : Code} {H : Heap} {locs : List Loc} {cells slots : Nat} {Q : State → Prop} {pc : Nat} {ls : Array Slot} {rest : List Value}
theorem wx_catch {own nm X : String} {ce : Cell} {q : Addr} (hown : s.vm.findClass own = some m.cls) (pre : List ExceptionTableEntry) (x : ExceptionTableEntry) (suf : List ExceptionTableEntry) (hsplit : c.exceptionTable.toList = pre ++ x :: suf)
    (hpass : ∀ z ∈ pre, covers z pc = true ∧ z.catchType ≠ 0 ∧ ∃ nz : String, (Cond.classLink own z.catchType nz).before args s = true ∧ va_Nc X nz s) (hx : covers x pc = true) (h0 : x.catchType ≠ 0)
    (hlink : (Cond.classLink own x.catchType nm).before args s = true) (hcast : (Cond.castable X nm).before args s = true) (hcell : H[q]? = some ce) (hv : ce.vm = .none) (hcl : s.vm.findClass X = some ce.cls)
    (kk : W p l e R s m args below meth c H locs cells slots Q (F0 m x.handlerPc ls [.ref q])) : vx_W p l e R s m args below meth c H locs cells slots Q (F0 m pc ls rest) q := by
  intro T hT XT
  have hpl : e.platform.magicAccessors = ({} : Platform).magicAccessors := by rw [XT.admits.platform]
  obtain ⟨k1, k2, e1, e2, hfit⟩ := Cond.castable_spec hcast
  cases Option.some.inj (e1.symm.trans hcl)
  obtain ⟨k3, e3, hl3⟩ := Cond.classLink_spec hown hlink e.platform hpl
  cases Option.some.inj (e2.symm.trans e3)
  have hk : ∃ w, s.vm.classes[ce.cls]? = some w := by obtain ⟨w, hw, -⟩ := Vm.findClass_spec hcl; exact ⟨w, hw⟩
  obtain ⟨g1, hfr⟩ := XT.frames_eq
  have hpush : (T.setTop (F0 m pc ls rest)).pushFrame (.throwing q) = T.setFrames (.throwing q :: .java (F0 m pc ls rest) :: below) := by
    rw [State.pushFrame, State.frames_setTop _ hfr, State.setTop_of_frames _ hfr, State.setFrames_setFrames]
  obtain ⟨vm', hW', hgo⟩ := wx_search (e := e) (f := F0 m pc ls rest) (a := q) (cell := ce) (s0 := s) (VmData.ne_statics_of (by rw [hv]; rfl)) hk (suf := suf) hx h0 hl3 hfit pre ((T.setTop (F0 m pc ls rest)).pushFrame (.throwing q)) XT.warmed (by show T.heap[q]? = some ce; rw [hT]; exact hcell)
    (fun z hz => by
      obtain ⟨p1, p2, nz, p3, a8, b8, h1, h2, h3⟩ := hpass z hz
      obtain ⟨k6, e6, hl6⟩ := Cond.classLink_spec hown p3 e.platform hpl
      cases Option.some.inj (h1.symm.trans hcl)
      cases Option.some.inj (h2.symm.trans e6)
      exact ⟨p1, p2, _, hl6, h3⟩)
  obtain ⟨t, a1, b1⟩ := kk (T.setVm vm') hT (XT.noted hW')
  refine ⟨t, ?_, b1⟩
  have hh : At T (F0 m pc ls rest).method c below := XT.here
  obtain ⟨hgo1, hwi⟩ := hh.throwing q
  refine Steps.head hgo1 hwi ?_
  rw [stepThread_throwing (frames_entered hh.top _), (wx_step (S := (T.setTop (F0 m pc ls rest)).pushFrame (.throwing q)) (pc := x.handlerPc) (vm' := vm') (fun Q E d acts => by rw [W.findHandler_eq (meth := meth) (code := c) XT.method' XT.code, hsplit]; exact hgo Q E d acts)).1]
  have hfr' : (T.setVm vm').frames = .java g1 :: below := hfr
  rw [State.setTop_of_frames _ hfr'] at a1
  rw [hpush, hfr, List.tail_cons]
  have e9 : ((T.setFrames (.throwing q :: .java (F0 m pc ls rest) :: below)).setVm vm').setFrames (.java { F0 m pc ls rest with pc := x.handlerPc, stack := [.ref q] } :: below) = (T.setVm vm').setFrames (.java (F0 m x.handlerPc ls [.ref q]) :: below) := by
    have e8 : (T.setFrames (.throwing q :: .java (F0 m pc ls rest) :: below)).setVm vm' = (T.setVm vm').setFrames (.throwing q :: .java (F0 m pc ls rest) :: below) := rfl
    rw [e8, State.setFrames_setFrames]
  rw [e9]
  exact a1
end WXD
