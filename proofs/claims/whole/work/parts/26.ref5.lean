/-! the reference: numbers of ACK -/
theorem vi_ar2 {c v : Int32} (hc : vp_in c 3) (h1 : 0 ≤ v.toInt) (h2 : ¬ 900 ≤ v) : vp_in ((900 : Int32) * c + v) 2700 := by
  rw [Int32.le_iff_toInt_le, show (900 : Int32).toInt = 900 from rfl] at h2
  obtain ⟨i, hi, e⟩ := vp_in_of hc (by decide)
  obtain ⟨j, hj, e2⟩ := vp_in_of (x := v) (n := 900) (vp_in_iff.mpr (by omega)) (by decide)
  rw [e, e2, show (900 : Int32) = nI 900 from rfl, pk_mul, nI_add]
  exact vp_in_nI (by omega) (by omega)
theorem vi_s900 {v : Int32} (h2 : ¬ 900 ≤ v) (h1 : 0 ≤ v.toInt) : 0 ≤ (v + 1).toInt := by
  rw [Int32.le_iff_toInt_le] at h2
  have h3 : (900 : Int32).toInt = 900 := rfl
  rw [i32_succ (b := 900) (by omega)]
  omega
theorem vi_7 {v : Int32} (h1 : 0 ≤ v.toInt) (h2 : ¬ 7 ≤ v) : vp_in v 7 := by
  rw [Int32.le_iff_toInt_le, show (7 : Int32).toInt = 7 from rfl] at h2
  rw [vp_in_iff]
  omega
theorem vi_s7 {v : Int32} (h2 : ¬ 7 ≤ v) (h1 : 0 ≤ v.toInt) : 0 ≤ (v + 1).toInt := by
  rw [Int32.le_iff_toInt_le] at h2
  have h3 : (7 : Int32).toInt = 7 := rfl
  rw [i32_succ (b := 7) (by omega)]
  omega
theorem al4 {T B i : Nat} {x : RS} {v : Int32} (hok : okR T B x) (hi : i < 3) (h : ¬ (((x.1 28 i) >>> (v &&& 31)) &&& 1) = 0) (h4 : v = 4) : vp_in (x.1 15 i) 16 := by
  subst h4
  obtain ⟨m, hm, e⟩ := vp_in_of (hok.2.2.2.1 _ hi) (by decide)
  refine okR_pv hok hi (Or.inr (Or.inr ?_))
  rw [e] at h ⊢
  have q : ∀ m : Fin 128, ¬ ((nI m.val >>> ((4 : Int32) &&& 31)) &&& 1) = 0 → ((nI m.val >>> ((4 : Int32) &&& 31)) &&& 1) = 1 := by decide +kernel
  exact q ⟨m, hm⟩ h
