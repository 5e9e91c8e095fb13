/-! the first states -/
theorem vz {N : Nat} (h : 0 < N) : vp_in (0 : Int32) N := vi_0 h
theorem sim_0_ch {n : Nat} (hn : n < 3) : CH 0 n (px0.2.2.1 n) ry0 0 := by
  have hr : ∀ (cap span : Nat) (hc : 0 < cap), rgr cap span 0 0 (fun _ => 0) 0 (fun _ => 0) 0 := fun cap span hc => ⟨[], ⟨by decide, by rw [show (0 : Int32).toInt = 0 from rfl]; omega⟩, rfl, rfl, Nat.zero_le _, fun i hi => absurd hi (Nat.not_lt_zero _), List.Pairwise.nil, fun u hu => absurd hu List.not_mem_nil, fun j hj => rfl⟩
  have hm1 : ryN n = -1 := by rcases (show n = 0 ∨ n = 1 ∨ n = 2 by omega) with q | q | q <;> subst q <;> decide
  have hf : ryF n = 200 := by rcases (show n = 0 ∨ n = 1 ∨ n = 2 by omega) with q | q | q <;> subst q <;> decide
  refine ⟨rfl, rfl, rfl, rfl, rfl, rfl, rfl, rfl, rfl, hm1.symm, rfl, rfl, ?_, ?_, rfl, rfl, rfl, rfl, rfl, rfl, ?_, ?_, ?_, ?_, ?_, ?_, ?_, ?_, ?_, ?_, ?_, ?_⟩
  · show bor 0 0 0
    exact ⟨rfl, by decide, by decide⟩
  · exact hf.symm
  · exact fun j _ => rfl
  · show (0 : Int32).toInt = (0 : Int32).toInt % 3600
    decide
  · exact Or.inl ⟨rfl, hm1, rfl⟩
  · show lar (-3600) (ryN n) 0
    exact Or.inl ⟨by decide, hm1⟩
  · show tyr 0 0 0 0 0 0 (ryN n)
    rw [hm1]; exact tyr_0
  · exact fun _ => rfl
  · show edr n 0 (nI (16 + n)) 0
    exact ⟨fun q => absurd q (by decide), fun _ => rfl⟩
  · show rur 0 0 0
    exact ⟨fun q => absurd q (by decide), by decide, by decide, Or.inl rfl⟩
  · show nur 0 0 0
    exact ⟨by decide, by decide, by decide, by decide⟩
  · show rer 0 0 0 0 0
    exact fun q => absurd q (by decide)
  · exact hr 20 3600 (by decide)
  · exact hr 60 900 (by decide)
theorem sim_0 : Sim 513 px0 ry0 := by
  refine ⟨⟨⟨rfl, rfl, rfl, rfl, Or.inl rfl, rfl, rfl, rfl, by decide, by decide⟩, ⟨fun d hd k h1 h2 h3 => ?_, fun d hd => Or.inl rfl⟩, fun d hd => ?_, fun n hn => ⟨sim_0_ch hn, Or.inl rfl, Or.inl ?_, fun q => absurd q ?_⟩⟩, ?_, ?_, ?_, by decide⟩
  · rcases (show k = 1 ∨ k = 2 ∨ k = 3 ∨ k = 4 ∨ k = 5 ∨ k = 6 ∨ k = 7 ∨ k = 8 ∨ k = 9 ∨ k = 10 ∨ k = 11 ∨ k = 12 by omega) with q | q | q | q | q | q | q | q | q | q | q | q <;> subst q <;> first | rfl | exact absurd rfl h3
  · show (0 ≤ (0 : Int32).toInt ∧ (0 : Int32).toInt ≤ 5000) ∧ (0 ≤ (0 : Int32).toInt ∧ (0 : Int32).toInt ≤ 30) ∧ (0 : Int32).toInt ≤ 3600 ∧ (0 : Int32).toInt ≤ 20
    decide
  · show (0 : Int32).toInt < 60
    decide
  · show ¬ 1 ≤ (0 : Int32).toInt
    decide
  · refine ⟨⟨by decide, by decide⟩, ⟨by decide, ?_⟩, fun c hc => ?_, fun c hc => ?_, ?_, fun c hc q => ?_⟩
    · show (0 : Int32).toInt + ((zA 0 + zA 0 + zA 0 : Nat) : Int) + ((4824 * 513 : Nat) : Int) < 2147483648
      rw [show zA 0 = 7 from by decide]
      decide
    · show vp_in (0 : Int32) 16
      exact vz (by decide)
    · show vp_in (0 : Int32) 128
      exact vz (by decide)
    · show vp_in (0 : Int32) 3
      exact vz (by decide)
    rcases q with q | q | q
    · exact absurd q (by show ¬ (6 : Int32) ≤ 0; decide)
    · exact absurd q (by show ¬ (6 : Int32) ≤ 0; decide)
    · exact absurd q (by show ¬ (((0 : Int32) >>> ((4 : Int32) &&& 31)) &&& 1) = 1; decide)
  · exact fun d hd q => absurd rfl q
  · exact ⟨fun _ => Or.inl rfl, fun _ => Or.inl rfl, Or.inr rfl⟩
