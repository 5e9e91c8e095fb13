/-! an alarm more, or less; ranges by isIn -/
theorem al_fin : ∀ m : Fin 128, ∀ j : Fin 7, ¬ ((nI m.val >>> (nI j.val &&& 31)) &&& 1) = 1 → (0 ≤ (nI m.val ||| ((1 : Int32) <<< (nI j.val &&& 31))).toInt ∧ (nI m.val ||| ((1 : Int32) <<< (nI j.val &&& 31))).toInt < 128) ∧ zA (nI m.val ||| ((1 : Int32) <<< (nI j.val &&& 31))) + 1 = zA (nI m.val) ∧ ((((nI m.val ||| ((1 : Int32) <<< (nI j.val &&& 31))) >>> ((4 : Int32) &&& 31)) &&& 1) = 1 → j.val = 4 ∨ ((nI m.val >>> ((4 : Int32) &&& 31)) &&& 1) = 1) := by decide +kernel
theorem al_out : ∀ m : Fin 128, ∀ j : Fin 7, (0 ≤ (nI m.val &&& (((1 : Int32) <<< (nI j.val &&& 31)) ^^^ (-1))).toInt ∧ (nI m.val &&& (((1 : Int32) <<< (nI j.val &&& 31)) ^^^ (-1))).toInt < 128) ∧ zA (nI m.val &&& (((1 : Int32) <<< (nI j.val &&& 31)) ^^^ (-1))) ≤ zA (nI m.val) + 1 ∧ ((((nI m.val &&& (((1 : Int32) <<< (nI j.val &&& 31)) ^^^ (-1))) >>> ((4 : Int32) &&& 31)) &&& 1) = 1 → ((nI m.val >>> ((4 : Int32) &&& 31)) &&& 1) = 1) := by decide +kernel
/-- any change of an alarm's row that keeps it in range and its zeros in bounds -/
theorem okR_s28 {T B B' i : Nat} {x : RS} {v : Int32} (hi : i < 3) (hv : 0 ≤ v.toInt ∧ v.toInt < 128) (hz : zA v + B' ≤ zA (x.1 28 i) + B) (hb : ((v >>> ((4 : Int32) &&& 31)) &&& 1) = 1 → vp_in (x.1 15 i) 16) (hok : okR T B x) : okR T B' (sR x 28 i v) := by
  obtain ⟨⟨h1, h2⟩, ⟨h3, h4⟩, h5, h6, h7, h8⟩ := hok
  have e0 : ∀ k, (sR x 28 i v).1 0 k = x.1 0 k := fun k => sR_rd (fun e => by omega)
  refine ⟨⟨by rw [e0]; exact h1, by rw [e0]; exact h2⟩, ⟨by rw [e0]; exact h3, ?_⟩, fun c hc => by rw [sR_rd (fun e => by omega)]; exact h5 c hc, fun c hc => ?_, by rw [e0]; exact h7, fun c hc => ?_⟩
  · rw [e0]
    rcases (show i = 0 ∨ i = 1 ∨ i = 2 by omega) with rfl | rfl | rfl
    · rw [sR_self, sR_rd (o' := 28) (k' := 1) (fun e => by omega), sR_rd (o' := 28) (k' := 2) (fun e => by omega)]; omega
    · rw [sR_self, sR_rd (o' := 28) (k' := 0) (fun e => by omega), sR_rd (o' := 28) (k' := 2) (fun e => by omega)]; omega
    · rw [sR_self, sR_rd (o' := 28) (k' := 0) (fun e => by omega), sR_rd (o' := 28) (k' := 1) (fun e => by omega)]; omega
  · by_cases q : c = i
    · subst q; rw [sR_self]; exact vp_in_iff.mpr hv
    · rw [sR_rd (fun e => q e.2)]; exact h6 c hc
  · rw [sR_rd (o' := 13) (fun e => by omega), sR_rd (o' := 14) (fun e => by omega), sR_rd (o' := 15) (fun e => by omega)]
    by_cases q : c = i
    · subst q
      rw [sR_self]
      intro h
      rcases h with h | h | h
      · exact h8 c hc (Or.inl h)
      · exact h8 c hc (Or.inr (Or.inl h))
      · exact hb h
    · rw [sR_rd (fun e => q e.2)]; exact h8 c hc
theorem okR_al {T B : Nat} {c al : Int32} {x : RS} (hc : vp_in c 3) (ha : vp_in al 7) (h : ¬ (((x.1 28 c.toNatClampNeg) >>> (al &&& 31)) &&& 1) = 1) (h4 : al = 4 → vp_in (x.1 15 c.toNatClampNeg) 16) (hok : okR T B x) : okR T (B + 1) (sR x 28 c.toNatClampNeg ((x.1 28 c.toNatClampNeg) ||| ((1 : Int32) <<< (al &&& 31)))) := by
  have hi := vi_lt hc
  obtain ⟨m, hm, e⟩ := vp_in_of (hok.2.2.2.1 _ hi) (by decide)
  obtain ⟨j, hj, e2⟩ := vp_in_of ha (by decide)
  rw [e, e2] at h
  have q := al_fin ⟨m, hm⟩ ⟨j, hj⟩ h
  dsimp only at q
  refine okR_s28 hi (by rw [e, e2]; exact q.1) (by rw [e, e2]; omega) (fun hb => ?_) hok
  rw [e, e2] at hb
  rcases q.2.2 hb with z | z
  · exact h4 (by rw [e2, z]; rfl)
  · exact okR_pv hok hi (Or.inr (Or.inr (by rw [e]; exact z)))
/-- an alarm is taken: a zero more -/
theorem okR_out {T B : Nat} {c al : Int32} {x : RS} (hc : vp_in c 3) (ha : vp_in al 7) (hok : okR T (B + 1) x) : okR T B (sR x 28 c.toNatClampNeg ((x.1 28 c.toNatClampNeg) &&& (((1 : Int32) <<< (al &&& 31)) ^^^ (-1)))) := by
  have hi := vi_lt hc
  obtain ⟨m, hm, e⟩ := vp_in_of (hok.2.2.2.1 _ hi) (by decide)
  obtain ⟨j, hj, e2⟩ := vp_in_of ha (by decide)
  have q := al_out ⟨m, hm⟩ ⟨j, hj⟩
  dsimp only at q
  refine okR_s28 hi (by rw [e, e2]; exact q.1) (by rw [e, e2]; omega) (fun hb => ?_) hok
  rw [e, e2] at hb
  exact okR_pv hok hi (Or.inr (Or.inr (by rw [e]; exact q.2.2 hb)))
theorem isin_ne {a b c : Int64} {x : RS} (h : ¬ fX11_isIn a b c x = 0) : b ≤ a ∧ a ≤ c := by
  unfold fX11_isIn at h
  split at h
  · exact absurd rfl h
  · rename_i c1
    split at h
    · exact absurd rfl h
    · rename_i c2
      rw [lg_cmp_lt] at c1
      rw [lg_cmp_gt] at c2
      rw [Int64.lt_iff_toInt_lt] at c1 c2
      rw [Int64.le_iff_toInt_le, Int64.le_iff_toInt_le]
      omega
theorem isin_in {a : Int32} {c : Int64} {N : Nat} {x : RS} (hN : c.toInt + 1 = N) (h : ¬ fX11_isIn a.toInt64 0 c x = 0) : vp_in a N := by
  obtain ⟨h1, h2⟩ := isin_ne h
  rw [Int64.le_iff_toInt_le, Int32.toInt_toInt64] at h1 h2
  rw [show (0 : Int64).toInt = 0 from rfl] at h1
  rw [vp_in_iff]
  omega
