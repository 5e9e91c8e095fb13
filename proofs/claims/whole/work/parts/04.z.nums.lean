/-! numbers of the loops and of the rows' places -/
def mu32 (a b : Int32) : Nat := (b.toInt - a.toInt).toNat
theorem i32_succ {a b : Int32} (h : a.toInt < b.toInt) : (a + 1).toInt = a.toInt + 1 := by
  have h1 := a.le_toInt
  have h2 := b.toInt_lt
  rw [Int32.toInt_add, show (1 : Int32).toInt = 1 from rfl]
  simp only [Int.bmod]
  omega
theorem mu32_step {a b : Int32} {k : Nat} (h : ¬ b ≤ a) (hm : mu32 a b < k + 1) : mu32 (a + 1) b < k := by
  rw [Int32.le_iff_toInt_le] at h
  have h1 := i32_succ (a := a) (b := b) (by omega)
  unfold mu32 at hm ⊢
  rw [h1]
  omega
theorem vi_next {a M : Int32} {N : Nat} (hM : M.toInt = N) (h : vp_in a N) (h2 : ¬ M ≤ a + 1) : vp_in (a + 1) N := by
  rw [vp_in_iff] at h ⊢
  rw [Int32.le_iff_toInt_le] at h2
  have h1 := i32_succ (a := a) (b := M) (by omega)
  omega
theorem i32_add {a b : Int32} (h1 : -2147483648 ≤ a.toInt + b.toInt) (h2 : a.toInt + b.toInt < 2147483648) : (a + b).toInt = a.toInt + b.toInt := by
  rw [Int32.toInt_add]
  simp only [Int.bmod]
  omega
theorem i32_sub {a b : Int32} (h1 : -2147483648 ≤ a.toInt - b.toInt) (h2 : a.toInt - b.toInt < 2147483648) : (a - b).toInt = a.toInt - b.toInt := by
  rw [Int32.toInt_sub]
  simp only [Int.bmod]
  omega
/-- a ring's next free place -/
theorem vi_ring1 {o c : Int32} {N : Nat} (h : vp_in o N) (hc : vp_in c (N + 1)) (hN : N < 1000) {M : Int32} (hM : M.toInt = N) (h2 : ¬ M ≤ o + c) : vp_in (o + c) N := by
  rw [vp_in_iff] at h hc ⊢
  rw [Int32.le_iff_toInt_le] at h2
  rw [i32_add (by omega) (by omega)] at h2 ⊢
  omega
theorem vi_ring2 {o c : Int32} {N : Nat} (h : vp_in o N) (hc : vp_in c (N + 1)) (hN : N < 1000) {M : Int32} (hM : M.toInt = N) (hcN : ¬ M ≤ c) (h2 : M ≤ o + c) : vp_in (o + c - M) N := by
  rw [vp_in_iff] at h hc ⊢
  rw [Int32.le_iff_toInt_le] at h2 hcN
  have h3 := i32_add (a := o) (b := c) (by omega) (by omega)
  rw [h3] at h2
  rw [i32_sub (by omega) (by omega), h3]
  omega
theorem vi_cell {c w : Int32} (hw : vp_in w 4) : vp_in ((c &&& 63) * 4 + w) 256 := by
  obtain ⟨j, hj, e⟩ := pk_andE c (m := 63) 6 (by decide)
  obtain ⟨i, hi, e2⟩ := vp_in_of hw (by decide)
  rw [e, e2, show (4 : Int32) = nI 4 from rfl, pk_mul, nI_add]
  exact vp_in_nI (by omega) (by omega)
theorem vi_cell0 {c : Int32} : vp_in ((c &&& 63) * 4) 256 := by
  obtain ⟨j, hj, e⟩ := pk_andE c (m := 63) 6 (by decide)
  rw [e, show (4 : Int32) = nI 4 from rfl, pk_mul]
  exact vp_in_nI (by omega) (by omega)
/-- where the rows' places and the drugs' numbers of a channel are in range -/
def okF (x : FS) : Prop := vp_in (x.2.1 12 1) 3600 ∧ vp_in (x.2.1 7 2) 20 ∧ vp_in (x.2.1 7 3) 21 ∧ vp_in (x.2.1 10 2) 60 ∧ vp_in (x.2.1 10 3) 61 ∧ vp_in (x.2.1 1 2) 22 ∧ vp_in (x.2.1 4 0) 22
theorem vi_succ {a M : Int32} {N : Nat} (hM : M.toInt = N) (h : vp_in a (N + 1)) (h2 : ¬ M ≤ a) : vp_in (a + 1) (N + 1) := by
  rw [vp_in_iff] at h ⊢
  rw [Int32.le_iff_toInt_le] at h2
  have h1 := i32_succ (a := a) (b := M) (by omega)
  omega
theorem vi_pred {a : Int32} {N : Nat} (h : vp_in a N) (h2 : ¬ a ≤ 0) : vp_in (a - 1) N := by
  rw [vp_in_iff] at h ⊢
  rw [Int32.le_iff_toInt_le] at h2
  have h0 : (0 : Int32).toInt = 0 := rfl
  have h1 : (1 : Int32).toInt = 1 := rfl
  have h3 := a.toInt_lt
  rw [i32_sub (by omega) (by omega)]
  omega
theorem okF_ite {c : Prop} {h : Decidable c} {a b : FS} (ha : c → okF a) (hb : ¬ c → okF b) : okF (@ite FS c h a b) := by
  by_cases q : c
  · rw [if_pos q]; exact ha q
  · rw [if_neg q]; exact hb q
theorem okF_ite1 {α : Type} {c : Prop} {h : Decidable c} {a b : FS × α} (ha : c → okF a.1) (hb : ¬ c → okF b.1) : okF (@ite (FS × α) c h a b).1 := by
  by_cases q : c
  · rw [if_pos q]; exact ha q
  · rw [if_neg q]; exact hb q
theorem vi_of16 {d : Int32} (h1 : ¬ d < 0) (h2 : ¬ 16 ≤ d) : vp_in d 16 := by
  rw [vp_in_iff]
  rw [Int32.lt_iff_toInt_lt, show (0 : Int32).toInt = 0 from rfl] at h1
  rw [Int32.le_iff_toInt_le, show (16 : Int32).toInt = 16 from rfl] at h2
  omega
theorem vi_22 {d : Int32} (h : vp_in d 16) : vp_in d 22 := by
  rw [vp_in_iff] at h ⊢
  omega
theorem ge7 {a : Int32} (h : ¬ 6 < a) : ¬ 7 ≤ a := by
  rw [Int32.lt_iff_toInt_lt, show (6 : Int32).toInt = 6 from rfl] at h
  rw [Int32.le_iff_toInt_le, show (7 : Int32).toInt = 7 from rfl]
  omega
theorem vi_0 {N : Nat} (h : 0 < N) : vp_in 0 N := fun q => q.elim (fun q => absurd q (by decide)) (fun q => absurd (Nat.lt_of_lt_of_le h q) (by decide))
/-- the places of a channel that okF doesn't speak of -/
def okc (o k : Nat) : Bool := match o with
  | 12 => k != 1
  | 7 => k != 2 && k != 3
  | 10 => k != 2 && k != 3
  | 1 => k != 2
  | 4 => k != 0
  | _ => true
theorem sC_rd {x : FS} {o k o' k' : Nat} {v : Int32} (h : ¬ (o' = o ∧ k' = k)) : (sC x o k v).2.1 o' k' = x.2.1 o' k' := by
  show va_up x.2.1 o (va_up (x.2.1 o) k v) o' k' = _
  by_cases h1 : o' = o
  · subst h1; rw [va_up_self, va_up_ne _ _ (fun h2 => h ⟨rfl, h2⟩)]
  · rw [va_up_ne _ _ h1]
theorem okF_sC {x : FS} {o k : Nat} {v : Int32} (h : okc o k = true) (hok : okF x) : okF (sC x o k v) := by
  have q : ∀ o' k', okc o' k' = false → (sC x o k v).2.1 o' k' = x.2.1 o' k' := fun o' k' h' => sC_rd (fun e => by rw [e.1, e.2, h] at h'; cases h')
  unfold okF
  rw [q 12 1 rfl, q 7 2 rfl, q 7 3 rfl, q 10 2 rfl, q 10 3 rfl, q 1 2 rfl, q 4 0 rfl]
  exact hok
theorem okF_sP {x : FS} {o k : Nat} {v : Int32} (hok : okF x) : okF (sP x o k v) := hok
theorem okF_sL {x : FS} {v : Int64} (hok : okF x) : okF (sL x v) := hok
