/-! where the reference's rows are in range: time and entries as long as a budget is left, drugs of entries, alarms; the budget is spent by notes and ticks -/
def z7 (m : Nat) : Nat := (if m.testBit 0 then 0 else 1) + (if m.testBit 1 then 0 else 1) + (if m.testBit 2 then 0 else 1) + (if m.testBit 3 then 0 else 1) + (if m.testBit 4 then 0 else 1) + (if m.testBit 5 then 0 else 1) + (if m.testBit 6 then 0 else 1)
def zA (a : Int32) : Nat := z7 a.toNatClampNeg
/-- a channel that is ready, runs, holds, goes back there, or has alarm 4, has a program -/
def pvc (ph fr al pr : Int32) : Prop := (6 ≤ ph ∨ 6 ≤ fr ∨ ((al >>> ((4 : Int32) &&& 31)) &&& 1) = 1) → vp_in pr 16
def okR (T B : Nat) (x : RS) : Prop := (0 ≤ (x.1 0 45).toInt ∧ (x.1 0 45).toInt + T < 2147483648) ∧ (0 ≤ (x.1 0 50).toInt ∧ (x.1 0 50).toInt + ((zA (x.1 28 0) + zA (x.1 28 1) + zA (x.1 28 2) : Nat) : Int) + B < 2147483648) ∧ (∀ c, c < 3 → vp_in (x.1 38 c) 16) ∧ (∀ c, c < 3 → vp_in (x.1 28 c) 128) ∧ vp_in (x.1 0 48) 3 ∧ ∀ c, c < 3 → pvc (x.1 13 c) (x.1 14 c) (x.1 28 c) (x.1 15 c)
theorem okR_le {T B k : Nat} {x : RS} (h : okR T (B + k) x) : okR T B x := by
  obtain ⟨⟨h1, h2⟩, ⟨h3, h4⟩, h5⟩ := h
  exact ⟨⟨h1, h2⟩, ⟨h3, by omega⟩, h5⟩
def okd (o k : Nat) : Bool := match o with
  | 0 => k != 45 && k != 50 && k != 48
  | 13 => false
  | 14 => false
  | 15 => false
  | 28 => false
  | 38 => false
  | _ => true
theorem sR_rd {x : RS} {o k o' k' : Nat} {v : Int32} (h : ¬ (o' = o ∧ k' = k)) : (sR x o k v).1 o' k' = x.1 o' k' := by
  show va_up x.1 o (va_up (x.1 o) k v) o' k' = _
  by_cases h1 : o' = o
  · subst h1; rw [va_up_self, va_up_ne _ _ (fun h2 => h ⟨rfl, h2⟩)]
  · rw [va_up_ne _ _ h1]
theorem sR_self {x : RS} {o k : Nat} {v : Int32} : (sR x o k v).1 o k = v := by
  show va_up x.1 o (va_up (x.1 o) k v) o k = _
  rw [va_up_self, va_up_self]
theorem okR_sR {T B : Nat} {x : RS} {o k : Nat} {v : Int32} (h : okd o k = true) (hok : okR T B x) : okR T B (sR x o k v) := by
  have q : ∀ o' k', okd o' k' = false → (sR x o k v).1 o' k' = x.1 o' k' := fun o' k' h' => sR_rd (fun e => by rw [e.1, e.2, h] at h'; cases h')
  unfold okR
  rw [q 0 45 rfl, q 0 50 rfl, q 28 0 rfl, q 28 1 rfl, q 28 2 rfl, q 0 48 rfl]
  exact ⟨hok.1, hok.2.1, fun c hc => by rw [q 38 c rfl]; exact hok.2.2.1 c hc, fun c hc => by rw [q 28 c rfl]; exact hok.2.2.2.1 c hc, hok.2.2.2.2.1, fun c hc => by rw [q 13 c rfl, q 14 c rfl, q 28 c rfl, q 15 c rfl]; exact hok.2.2.2.2.2 c hc⟩
theorem okR_sM {T B : Nat} {x : RS} {v : Int64} (hok : okR T B x) : okR T B (sM x v) := hok
theorem okR_ite {T B : Nat} {c : Prop} {h : Decidable c} {a b : RS} (ha : c → okR T B a) (hb : ¬ c → okR T B b) : okR T B (@ite RS c h a b) := by
  by_cases q : c
  · rw [if_pos q]; exact ha q
  · rw [if_neg q]; exact hb q
theorem okR_ite1 {α : Type} {T B : Nat} {c : Prop} {h : Decidable c} {a b : RS × α} (ha : c → okR T B a.1) (hb : ¬ c → okR T B b.1) : okR T B (@ite (RS × α) c h a b).1 := by
  by_cases q : c
  · rw [if_pos q]; exact ha q
  · rw [if_neg q]; exact hb q
theorem okR_pv {T B i : Nat} {x : RS} (hok : okR T B x) (hi : i < 3) (h : 6 ≤ x.1 13 i ∨ 6 ≤ x.1 14 i ∨ (((x.1 28 i) >>> ((4 : Int32) &&& 31)) &&& 1) = 1) : vp_in (x.1 15 i) 16 := hok.2.2.2.2.2 i hi h
/-- cells 13, 14, 15 are written -/
theorem okR_s13 {T B i : Nat} {x : RS} {v : Int32} (hi : i < 3) (hv : 6 ≤ v → vp_in (x.1 15 i) 16) (hok : okR T B x) : okR T B (sR x 13 i v) := by
  have q : ∀ o' k', o' ≠ 13 → (sR x 13 i v).1 o' k' = x.1 o' k' := fun o' k' h' => sR_rd (fun e => h' e.1)
  unfold okR
  rw [q 0 45 (by decide), q 0 50 (by decide), q 28 0 (by decide), q 28 1 (by decide), q 28 2 (by decide), q 0 48 (by decide)]
  refine ⟨hok.1, hok.2.1, fun c hc => by rw [q 38 c (by decide)]; exact hok.2.2.1 c hc, fun c hc => by rw [q 28 c (by decide)]; exact hok.2.2.2.1 c hc, hok.2.2.2.2.1, fun c hc => ?_⟩
  rw [q 14 c (by decide), q 28 c (by decide), q 15 c (by decide)]
  by_cases e : c = i
  · subst e
    rw [sR_self]
    intro h
    rcases h with h | h
    · exact hv h
    · exact okR_pv hok hi (Or.inr h)
  · rw [sR_rd (fun z => e z.2)]; exact hok.2.2.2.2.2 c hc
theorem okR_s14 {T B i : Nat} {x : RS} {v : Int32} (hi : i < 3) (hv : 6 ≤ v → vp_in (x.1 15 i) 16) (hok : okR T B x) : okR T B (sR x 14 i v) := by
  have q : ∀ o' k', o' ≠ 14 → (sR x 14 i v).1 o' k' = x.1 o' k' := fun o' k' h' => sR_rd (fun e => h' e.1)
  unfold okR
  rw [q 0 45 (by decide), q 0 50 (by decide), q 28 0 (by decide), q 28 1 (by decide), q 28 2 (by decide), q 0 48 (by decide)]
  refine ⟨hok.1, hok.2.1, fun c hc => by rw [q 38 c (by decide)]; exact hok.2.2.1 c hc, fun c hc => by rw [q 28 c (by decide)]; exact hok.2.2.2.1 c hc, hok.2.2.2.2.1, fun c hc => ?_⟩
  rw [q 13 c (by decide), q 28 c (by decide), q 15 c (by decide)]
  by_cases e : c = i
  · subst e
    rw [sR_self]
    intro h
    rcases h with h | h | h
    · exact okR_pv hok hi (Or.inl h)
    · exact hv h
    · exact okR_pv hok hi (Or.inr (Or.inr h))
  · rw [sR_rd (fun z => e z.2)]; exact hok.2.2.2.2.2 c hc
theorem okR_s15 {T B i : Nat} {x : RS} {v : Int32} (hv : vp_in v 16) (hok : okR T B x) : okR T B (sR x 15 i v) := by
  have q : ∀ o' k', o' ≠ 15 → (sR x 15 i v).1 o' k' = x.1 o' k' := fun o' k' h' => sR_rd (fun e => h' e.1)
  unfold okR
  rw [q 0 45 (by decide), q 0 50 (by decide), q 28 0 (by decide), q 28 1 (by decide), q 28 2 (by decide), q 0 48 (by decide)]
  refine ⟨hok.1, hok.2.1, fun c hc => by rw [q 38 c (by decide)]; exact hok.2.2.1 c hc, fun c hc => by rw [q 28 c (by decide)]; exact hok.2.2.2.1 c hc, hok.2.2.2.2.1, fun c hc => ?_⟩
  rw [q 13 c (by decide), q 28 c (by decide), q 14 c (by decide)]
  by_cases e : c = i
  · subst e
    rw [sR_self]
    exact fun _ => hv
  · rw [sR_rd (fun z => e z.2)]; exact hok.2.2.2.2.2 c hc
/-- an entry more -/
theorem okR_ent {T B : Nat} {x : RS} (hok : okR T (B + 1) x) : okR T B (sR x 0 50 (x.1 0 50 + 1)) := by
  obtain ⟨⟨h1, h2⟩, ⟨h3, h4⟩, h5⟩ := hok
  have e : (x.1 0 50 + 1).toInt = (x.1 0 50).toInt + 1 := i32_add (by rw [show (1 : Int32).toInt = 1 from rfl]; omega) (by rw [show (1 : Int32).toInt = 1 from rfl]; omega)
  refine ⟨⟨h1, h2⟩, ⟨?_, ?_⟩, h5⟩
  · show 0 ≤ (x.1 0 50 + 1).toInt
    omega
  · show (x.1 0 50 + 1).toInt + ((zA (x.1 28 0) + zA (x.1 28 1) + zA (x.1 28 2) : Nat) : Int) + (B : Int) < 2147483648
    omega
/-- a tick more -/
theorem okR_time {T B : Nat} {x : RS} (hok : okR (T + 1) B x) : okR T B (sR x 0 45 (x.1 0 45 + 1)) := by
  obtain ⟨⟨h1, h2⟩, h5⟩ := hok
  have e : (x.1 0 45 + 1).toInt = (x.1 0 45).toInt + 1 := i32_add (by rw [show (1 : Int32).toInt = 1 from rfl]; omega) (by rw [show (1 : Int32).toInt = 1 from rfl]; omega)
  refine ⟨⟨?_, ?_⟩, h5⟩
  · show 0 ≤ (x.1 0 45 + 1).toInt
    omega
  · show (x.1 0 45 + 1).toInt + (T : Int) < 2147483648
    omega
theorem vi_lt {c : Int32} {N : Nat} (h : vp_in c N) : c.toNatClampNeg < N := Nat.not_le.mp fun q => h (Or.inr q)
/-- the rest of a number that is not below 0 -/
theorem rem_nn {t D : Int32} {d : Nat} (hD : D = nI d) (hd : 0 < d) (hd2 : d < 2 ^ 31) (ht : 0 ≤ t.toInt) : ∃ j : Nat, j < d ∧ t - t / D * D = nI j := by
  obtain ⟨m, hm, e⟩ := nI_of (x := t) (by rw [Int32.lt_iff_toInt_lt, show (0 : Int32).toInt = 0 from rfl]; omega)
  exact ⟨m % d, Nat.mod_lt _ hd, by rw [e, hD, pk_rem hm hd hd2]⟩
theorem vi_hr {c t : Int32} (hc : vp_in c 3) (ht : 0 ≤ t.toInt) : vp_in ((3600 : Int32) * c + (t - t / 3600 * 3600)) 10800 := by
  obtain ⟨i, hi, e⟩ := vp_in_of hc (by decide)
  obtain ⟨j, hj, e2⟩ := rem_nn (D := 3600) (d := 3600) rfl (by decide) (by decide) ht
  rw [e, e2, show (3600 : Int32) = nI 3600 from rfl, pk_mul, nI_add]
  exact vp_in_nI (by omega) (by omega)
theorem vi_ar {c t : Int32} (hc : vp_in c 3) (ht : 0 ≤ t.toInt) : vp_in ((900 : Int32) * c + (t - t / 900 * 900)) 2700 := by
  obtain ⟨i, hi, e⟩ := vp_in_of hc (by decide)
  obtain ⟨j, hj, e2⟩ := rem_nn (D := 900) (d := 900) rfl (by decide) (by decide) ht
  rw [e, e2, show (900 : Int32) = nI 900 from rfl, pk_mul, nI_add]
  exact vp_in_nI (by omega) (by omega)
theorem vi_log0 {t : Int32} (ht : 0 ≤ t.toInt) : vp_in ((4 : Int32) * (t - t / 64 * 64)) 256 := by
  obtain ⟨j, hj, e2⟩ := rem_nn (D := 64) (d := 64) rfl (by decide) (by decide) ht
  rw [e2, show (4 : Int32) = nI 4 from rfl, pk_mul]
  exact vp_in_nI (by omega) (by omega)
theorem vi_logk {t w : Int32} (hw : vp_in w 4) (ht : 0 ≤ t.toInt) : vp_in ((4 : Int32) * (t - t / 64 * 64) + w) 256 := by
  obtain ⟨j, hj, e2⟩ := rem_nn (D := 64) (d := 64) rfl (by decide) (by decide) ht
  obtain ⟨i, hi, e3⟩ := vp_in_of hw (by decide)
  rw [e2, e3, show (4 : Int32) = nI 4 from rfl, pk_mul, nI_add]
  exact vp_in_nI (by omega) (by omega)
