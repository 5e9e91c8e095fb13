/-! methods that throw: what a throw wants of the start, ends, throws -/
def xNm : List String := ["java/lang/RuntimeException", "java/lang/Exception"]
def xBd (X : String) : List Cond := [.castable X X, .declares ⟨"java/lang/RuntimeException", "<init>", "(Ljava/lang/String;)V"⟩, .declares ⟨"java/lang/Exception", "<init>", "(Ljava/lang/String;)V"⟩, .declares ⟨"java/lang/Throwable", "<init>", "(Ljava/lang/String;)V"⟩]
def xEs : List String := ["java/lang/IndexOutOfBoundsException", "java/lang/IllegalArgumentException", "java/lang/IllegalStateException"]
def xStr : List (Nat × String) := [(43, "no such drug"), (50, "kind or strength"), (54, "amounts"), (89, "limit, bolus or pace"), (91, "lockout or many"), (93, "no such key"), (115, "ticks"), (129, "flow"), (158, "no such what"), (245, "amount or weight"), (254, "no such entry or what"), (263, "no such channel"), (271, "a channel has this drug")]
def xS (A : Nat → Prop) (U : State) : Prop := vx_Zq Bundle.tN "UNASSIGNED_STACK" Bundle.steD A U U.heap ∧ vx_Zq Bundle.tN "SUPPRESSED_SENTINEL" Bundle.listD A U U.heap ∧ (∀ q ∈ xStr, ∃ sa, vk_R RX10 q.1 q.2 sa U) ∧ ∀ X ∈ xEs, ∀ w ∈ xBd X, va_Nw w U
theorem xBd_tab {X : String} : ∀ w ∈ xBd X, w.onTables = true := by
  intro w hw
  simp only [xBd, List.mem_cons, List.not_mem_nil, or_false] at hw
  rcases hw with rfl | rfl | rfl | rfl <;> rfl
theorem xBd_warm {X : String} {s U : State} (hW : s.WarmedH U.vm) : ∀ w ∈ xBd X, va_Nw w s → va_Nw w U := by
  intro w hw h
  simp only [xBd, List.mem_cons, List.not_mem_nil, or_false] at hw
  rcases hw with rfl | rfl | rfl | rfl
  · exact va_Nw.warmC hW h
  · exact va_Nw.warmD hW h
  · exact va_Nw.warmD hW h
  · exact va_Nw.warmD hW h
theorem xS_warm {A : Nat → Prop} {s U : State} (hW : s.WarmedH U.vm) (hk : ∀ a : Nat, a < s.heap.size → ¬ A a → U.heap[a]? = s.heap[a]?) (h : xS A s) : xS A U :=
  ⟨(h.1.kept hk).moved hW.alike, (h.2.1.kept hk).moved hW.alike, fun q hq => by
    obtain ⟨sa, hsa⟩ := h.2.2.1 q hq
    exact ⟨sa, hsa.warm hW⟩, fun X hX w hw => xBd_warm hW w hw (h.2.2.2 X hX w hw)⟩
theorem xS_narrow {A B : Nat → Prop} {U : State} (hAB : ∀ q, B q → A q) (h : xS A U) : xS B U := ⟨h.1.narrow hAB, h.2.1.narrow hAB, h.2.2⟩
def xA (bb sz : Nat) : Nat → Prop := fun q => cA bb q ∨ sz ≤ q
def xcode (X : String) : Nat := if X = "java/lang/IndexOutOfBoundsException" then 1 else if X = "java/lang/IllegalArgumentException" then 2 else 3
def xPre (E : eE) (bb sz : Nat) (B : Heap → Prop) (av : List Value) : Array Value → State → Prop := va_Pc av (fun U => U.heap.size = sz ∧ B U.heap ∧ gK E U ∧ xS (xA bb sz) U)
def xQi {S : Type} (E : eE) (Wp : S → Heap → Prop) (y : Nat × S × Int32) (A : Nat → Prop) : Array Value → State → Outcome → State → Prop := va_Qi (fun r u => y = (0, u, r)) (fun u t => Wp u t.heap ∧ gK E t) A
def xQv {S : Type} (E : eE) (Wp : S → Heap → Prop) (y : Nat × S × Int32) (A : Nat → Prop) : Array Value → State → Outcome → State → Prop := va_Qv (fun u => y = (0, u, 0)) (fun u t => Wp u t.heap ∧ gK E t) A
/-- an answer that is an object: ad says which, by the number in the third place -/
def xQr {S : Type} (E : eE) (Wp : S → Heap → Prop) (ad : Int32 → Nat) (y : Nat × S × Int32) (A : Nat → Prop) : Array Value → State → Outcome → State → Prop := va_Qr (fun u => y.1 = 0 ∧ y.2.1 = u) (fun u a t => a = ad y.2.2 ∧ Wp u t.heap ∧ gK E t) A
def xX {S : Type} (E : eE) (Wp : S → Heap → Prop) (y : Nat × S × Int32) (A : Nat → Prop) : String → State → State → Prop := vx_X (fun u : S => y.2.1 = u) (fun X u t => (X ∈ xEs ∧ y.1 = xcode X) ∧ Wp u t.heap ∧ gK E t) A
theorem xPre_blind {E : eE} {bb sz : Nat} {B : Heap → Prop} {av : List Value} : FrameBlind (xPre E bb sz B av) := by
  intro a U g mk h
  obtain ⟨h1, h2, h3, h4, h5⟩ := h
  exact ⟨h1, h2, h3, va_K.moved (u := U) (U := U.calling g mk a) (Vm.Alike.refl U.vm) h4, xS_warm (s := U) (U := U.calling g mk a) (State.WarmedH.refl U) (fun _ _ _ => rfl) h5⟩
theorem pw_kept {E : eE} {bb : Nat} {x : PS} {H H1 : Heap} (h : pw E bb x H) (hk : ∀ q : Nat, q < H.size → H1[q]? = H[q]?) : pw E bb x H1 :=
  ⟨fun o ho => (h.1 o ho).kept (hk _ (h.1 o ho).lt), fun d hd => (h.2.1 d hd).kept (hk _ (h.2.1 d hd).lt), fun n hn o ho => (h.2.2 n hn o ho).kept (hk _ (h.2.2 n hn o ho).lt)⟩
section XX
variable {p : Program} {l : Launch} {e : Env} {R : Room} {s : State} {m : MethodId} {args : Array Value} {below : List Frame} {meth : Method} {c : Code} {H : Heap} {locs : List Loc} {Q : State → Prop}
variable {cc : ByteArray} {pc : Nat} {ls : Array Slot} {rest : List Value} {E : eE} {bb : Nat} {A0 : Nat → Prop} {S : Type} {Wp : S → Heap → Prop} {XC : String → State → State → Prop} {cells slots mc ms : Nat}
theorem xx_iret {y0 : Nat × S × Int32} {u : S} {v : Int32} {ty : FieldType} (hexec : p.tables.exec = Jvm.exec) (hb : c.code = cc) (hr : meth.sig.returnType = some ty) (hnar : narrow ty (.int v) = .int v) (hlocks : meth.locks = false) (hK : gK E s) (hf : y0 = (0, u, v)) (hW : Wp u H) (hS : va_S A0 s.heap H locs) (hdg : decode cc pc = .ok (.ireturn, 1)) (hc : cells ≤ mc) (hs : slots ≤ ms) :
    W p l e R s m args below meth c H locs cells slots (vx_MQ below (xQi E Wp y0 A0) XC args s mc ms A0) (F0 m pc ls [.int v]) :=
  vx_ret (W.widen (k := mc) (n := ms) hc hs (W.zret hexec hb hr hnar (fun t ht hW9 => ⟨⟨v, u, rfl, hf, by rw [ht]; exact hW, va_K.moved hW9.alike hK⟩, hS.F ht⟩) hS.2.2 hdg))
theorem xx_vret {y0 : Nat × S × Int32} {u : S} (hexec : p.tables.exec = Jvm.exec) (hb : c.code = cc) (hr : meth.sig.returnType = none) (hlocks : meth.locks = false) (hK : gK E s) (hf : y0 = (0, u, 0)) (hW : Wp u H) (hS : va_S A0 s.heap H locs) (hdg : decode cc pc = .ok (.return_, 1)) (hc : cells ≤ mc) (hs : slots ≤ ms) :
    W p l e R s m args below meth c H locs cells slots (vx_MQ below (xQv E Wp y0 A0) XC args s mc ms A0) (F0 m pc ls []) :=
  vx_ret (W.widen (k := mc) (n := ms) hc hs (W.vret hexec hb hr (fun t ht hW9 => ⟨⟨u, rfl, hf, by rw [ht]; exact hW, va_K.moved hW9.alike hK⟩, hS.F ht⟩) hS.2.2 hdg))
theorem xx_aret {ad : Int32 → Nat} {y0 : Nat × S × Int32} {u : S} {v : Int32} {a : Nat} {rt : FieldType} (hexec : p.tables.exec = Jvm.exec) (hb : c.code = cc) (hr : meth.sig.returnType = some rt) (hrt : ∃ n, rt = .object n) (hlocks : meth.locks = false) (hK : gK E s) (hf : y0 = (0, u, v)) (ha : a = ad v) (hW : Wp u H) (hS : va_S A0 s.heap H locs) (hdg : decode cc pc = .ok (.areturn, 1)) (hc : cells ≤ mc) (hs : slots ≤ ms) :
    W p l e R s m args below meth c H locs cells slots (vx_MQ below (xQr E Wp ad y0 A0) XC args s mc ms A0) (F0 m pc ls [.ref a]) :=
  vx_ret (W.widen (k := mc) (n := ms) hc hs (W.aret hexec hb hr (Or.inl hrt) (Or.inr ⟨a, rfl⟩) (fun t ht hW9 => ⟨⟨u, a, rfl, ⟨by rw [hf], by rw [hf]⟩, ⟨by rw [hf]; exact ha, by rw [ht]; exact hW, va_K.moved hW9.alike hK⟩⟩, hS.F ht⟩) hS.2.2 hdg))
end XX
