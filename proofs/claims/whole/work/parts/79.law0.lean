/-! the law's body, case by case -/
def LC (p : Program) (l : Launch) (s : State) (m : MethodId) (c : Code) (b L : Nat) (xs : Nat → Int32) (E : eE) (z : Nat) : Prop := p.tables.exec = Jvm.exec ∧ c.code = cL_law ∧ c.maxLocals = 7 ∧ s.vm.findClass RL = some m.cls ∧ (∀ w ∈ lw_tbl, w.before #[Value.ref b] s = true) ∧ va_X b L xs s s.heap ∧ b < z ∧ s.heap.size = z ∧ gK E s ∧ xS (nA z) s ∧ lNc s ∧ l.stackTraces = false ∧ L ≤ 4096
theorem tk_pre {k : Nat} {x : PS} {y : RS} {p1 : Int32} (h : Sim (k + 1) x y) (hi : ¬ fX11_isIn p1.toInt64 0 600 y = 0) : okR (601 * k + (mu32 0 p1 + 1)) (4824 * k + 8 * (mu32 0 p1 + 1)) y := by
  rw [isin_i (l := 0) (h := 600) rfl rfl] at hi
  by_cases q : 0 ≤ p1.toInt ∧ p1.toInt ≤ 600
  · have hm : mu32 0 p1 + 1 ≤ 601 := by unfold mu32; rw [show (0 : Int32).toInt = 0 from rfl]; omega
    exact okR_mono2 (by omega) (by omega) h.2.1
  · rw [if_neg q] at hi; exact absurd rfl hi
