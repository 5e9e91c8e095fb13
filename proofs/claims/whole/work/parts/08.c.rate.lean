/-! the divisor of a drug's rate is never 0 -/
theorem rate_ne (a : Int32) : ¬ (2 : Int64) * (5 * (if (1 : Int32) < a then a else (1 : Int32)).toInt64) = 0 := by
  intro h
  obtain ⟨m, hm, e, h1⟩ : ∃ m : Nat, m < 2 ^ 31 ∧ (if (1 : Int32) < a then a else (1 : Int32)) = nI m ∧ 1 ≤ m := by
    split
    · rename_i q
      rw [Int32.lt_iff_toInt_lt, show (1 : Int32).toInt = 1 from rfl] at q
      obtain ⟨m, hm, e⟩ := nI_of (x := a) (by rw [Int32.lt_iff_toInt_lt, show (0 : Int32).toInt = 0 from rfl]; omega)
      refine ⟨m, hm, e, ?_⟩
      rw [e, nI_toInt hm] at q
      omega
    · exact ⟨1, by decide, rfl, Nat.le_refl 1⟩
  rw [e, nI_l hm, show (5 : Int64) = lN 5 from rfl, show (2 : Int64) = lN 2 from rfl, lN_mul, lN_mul, show (0 : Int64) = lN 0 from rfl, pk_lEQ (by omega) (by omega)] at h
  omega
