/-! numbers of the loops and of the rows' places -/
def mu32 (a b : Int32) : Nat := (b.toInt - a.toInt).toNat
theorem i32_succ {a b : Int32} (h : a.toInt < b.toInt) : (a + 1).toInt = a.toInt + 1 := by
  have h1 := a.le_toInt
  have h2 := b.toInt_lt
  rw [Int32.toInt_add, show (1 : Int32).toInt = 1 from rfl]
  simp only [Int.bmod]
  omega
theorem mu32_step {a b : Int32} {k : Nat} (h : ¬ b ≤ a) (hm : mu32 a b < k + 1) : mu32 (a + 1) b < k := by
  rw [Int32.le_iff_toInt_le] at h
  have h1 := i32_succ (a := a) (b := b) (by omega)
  unfold mu32 at hm ⊢
  rw [h1]
  omega
theorem vi_next {a M : Int32} {N : Nat} (hM : M.toInt = N) (h : vp_in a N) (h2 : ¬ M ≤ a + 1) : vp_in (a + 1) N := by
  rw [vp_in_iff] at h ⊢
  rw [Int32.le_iff_toInt_le] at h2
  have h1 := i32_succ (a := a) (b := M) (by omega)
  omega
theorem i32_add {a b : Int32} (h1 : -2147483648 ≤ a.toInt + b.toInt) (h2 : a.toInt + b.toInt < 2147483648) : (a + b).toInt = a.toInt + b.toInt := by
  rw [Int32.toInt_add]
  simp only [Int.bmod]
  omega
theorem i32_sub {a b : Int32} (h1 : -2147483648 ≤ a.toInt - b.toInt) (h2 : a.toInt - b.toInt < 2147483648) : (a - b).toInt = a.toInt - b.toInt := by
  rw [Int32.toInt_sub]
  simp only [Int.bmod]
  omega
/-- a ring's next free place -/
theorem vi_ring1 {o c : Int32} {N : Nat} (h : vp_in o N) (hc : vp_in c (N + 1)) (hN : N < 1000) {M : Int32} (hM : M.toInt = N) (h2 : ¬ M ≤ o + c) : vp_in (o + c) N := by
  rw [vp_in_iff] at h hc ⊢
  rw [Int32.le_iff_toInt_le] at h2
  rw [i32_add (by omega) (by omega)] at h2 ⊢
  omega
theorem vi_ring2 {o c : Int32} {N : Nat} (h : vp_in o N) (hc : vp_in c (N + 1)) (hN : N < 1000) {M : Int32} (hM : M.toInt = N) (hcN : ¬ M ≤ c) (h2 : M ≤ o + c) : vp_in (o + c - M) N := by
  rw [vp_in_iff] at h hc ⊢
  rw [Int32.le_iff_toInt_le] at h2 hcN
  have h3 := i32_add (a := o) (b := c) (by omega) (by omega)
  rw [h3] at h2
  rw [i32_sub (by omega) (by omega), h3]
  omega
theorem vi_cell {c w : Int32} (hw : vp_in w 4) : vp_in ((c &&& 63) * 4 + w) 256 := by
  obtain ⟨j, hj, e⟩ := pk_andE c (m := 63) 6 (by decide)
  obtain ⟨i, hi, e2⟩ := vp_in_of hw (by decide)
  rw [e, e2, show (4 : Int32) = nI 4 from rfl, pk_mul, nI_add]
  exact vp_in_nI (by omega) (by omega)
theorem vi_cell0 {c : Int32} : vp_in ((c &&& 63) * 4) 256 := by
  obtain ⟨j, hj, e⟩ := pk_andE c (m := 63) 6 (by decide)
  rw [e, show (4 : Int32) = nI 4 from rfl, pk_mul]
  exact vp_in_nI (by omega) (by omega)
/-- where the rows' places and the drugs' numbers of a channel are in range -/
def okF (x : FS) : Prop := vp_in (x.2.1 12 1) 3600 ∧ vp_in (x.2.1 7 2) 20 ∧ vp_in (x.2.1 7 3) 21 ∧ vp_in (x.2.1 10 2) 60 ∧ vp_in (x.2.1 10 3) 61 ∧ vp_in (x.2.1 1 2) 22 ∧ vp_in (x.2.1 4 0) 22
