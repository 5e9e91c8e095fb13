/-! rings of times -/
theorem dw {span j0 : Nat} {m : Int} (hA : ∀ u : Int, m ≤ u → u < m + span → (u % (span : Int) = (j0 : Int) ↔ u = m)) : ∀ L : List Int, L.Pairwise (· ≤ ·) → (∀ u ∈ L, m ≤ u ∧ u < m + span) → (L.dropWhile (fun u => decide (u ≤ m))).length + L.countP (fun u => decide (u % (span : Int) = (j0 : Int))) = L.length ∧ (∀ j : Nat, (L.dropWhile (fun u => decide (u ≤ m))).countP (fun u => decide (u % (span : Int) = (j : Int))) = if j = j0 then 0 else L.countP (fun u => decide (u % (span : Int) = (j : Int)))) ∧ (L.dropWhile (fun u => decide (u ≤ m))).Pairwise (· ≤ ·) ∧ ∀ u ∈ L.dropWhile (fun u => decide (u ≤ m)), m < u ∧ u ∈ L := by
  intro L
  induction L with
  | nil =>
    intro _ _
    refine ⟨rfl, fun j => ?_, List.Pairwise.nil, fun u hu => absurd hu (List.not_mem_nil)⟩
    show 0 = _
    exact (ite_self _).symm
  | cons u l ih =>
    intro hp hb
    have hp2 := List.pairwise_cons.mp hp
    have hu := hb u (List.mem_cons_self ..)
    by_cases hum : u ≤ m
    · have ih2 := ih hp2.2 (fun v hv => hb v (List.mem_cons_of_mem _ hv))
      have eD : (u :: l).dropWhile (fun u => decide (u ≤ m)) = l.dropWhile (fun u => decide (u ≤ m)) := by
        rw [List.dropWhile_cons, if_pos (decide_eq_true hum)]
      rw [eD]
      have eu : u % (span : Int) = (j0 : Int) := (hA u hu.1 hu.2).mpr (by omega)
      refine ⟨?_, fun j => ?_, ih2.2.2.1, fun v hv => ⟨(ih2.2.2.2 v hv).1, List.mem_cons_of_mem _ (ih2.2.2.2 v hv).2⟩⟩
      · rw [List.countP_cons, if_pos (decide_eq_true eu), List.length_cons]
        have := ih2.1
        omega
      · rw [ih2.2.1 j]
        by_cases hj : j = j0
        · rw [if_pos hj, if_pos hj]
        · rw [if_neg hj, if_neg hj, List.countP_cons, if_neg (by rw [decide_eq_true_eq, eu]; omega)]
          rfl
    · have eD : (u :: l).dropWhile (fun u => decide (u ≤ m)) = u :: l := by
        rw [List.dropWhile_cons, if_neg (by rw [decide_eq_true_eq]; exact hum)]
      rw [eD]
      have hall : ∀ v ∈ u :: l, m < v := fun v hv => by
        rcases List.mem_cons.mp hv with e | e
        · omega
        · have := hp2.1 v e
          omega
      have h0 : (u :: l).countP (fun u => decide (u % (span : Int) = (j0 : Int))) = 0 := by
        rw [List.countP_eq_zero]
        intro v hv q
        rw [decide_eq_true_eq] at q
        have h1 := hb v hv
        have h2 := (hA v h1.1 h1.2).mp q
        have h3 := hall v hv
        omega
      refine ⟨by rw [h0]; rfl, fun j => ?_, hp, fun v hv => ⟨hall v hv, hv⟩⟩
      by_cases hj : j = j0
      · rw [if_pos hj, hj]; exact h0
      · rw [if_neg hj]
theorem cnt_le {L : List Int} {p : Int → Bool} : L.countP p ≤ L.length := List.countP_le_length
theorem rg_add_7 {o k w tm : Int32} {t r r' : Nat → Int32} (h : rgr 20 3600 o k t w r tm) (hk : k.toInt < 20) {i : Nat} (hi : i = (o.toInt.toNat + k.toInt.toNat) % 20) {j : Nat} (hj : (j : Int) = tm.toInt % 3600) (hr : ∀ q, q < 3600 → r' q = if q = j then r q + 1 else r q) : rgr 20 3600 o (k + 1) (va_up t i tm) (w + 1) r' tm := by
  obtain ⟨L, l1, l2, l3, l4, l5, l6, l7, l8⟩ := h
  have hlen : L.length < 20 := by omega
  have ek := i32_succ (a := k) (b := 1000) (by rw [show (1000 : Int32).toInt = 1000 from rfl]; omega)
  have ew := i32_succ (a := w) (b := 1000) (by rw [show (1000 : Int32).toInt = 1000 from rfl]; omega)
  refine ⟨L ++ [tm.toInt], l1, ?_, ?_, ?_, ?_, ?_, ?_, ?_⟩
  · rw [ek, List.length_append, List.length_singleton]; omega
  · rw [ew, List.length_append, List.length_singleton]; omega
  · rw [List.length_append, List.length_singleton]; omega
  · intro q hq
    rw [List.length_append, List.length_singleton] at hq
    by_cases hq2 : q < L.length
    · rw [va_up_ne _ _ (by omega), List.getElem_append_left hq2]
      exact l5 q hq2
    · have eq : q = L.length := by omega
      subst eq
      rw [List.getElem_append_right (Nat.le_refl _)]
      have ei : (o.toInt.toNat + L.length) % 20 = i := by rw [hi]; congr 2; omega
      rw [ei, va_up_self]
      simp
  · rw [List.pairwise_append]
    refine ⟨l6, List.pairwise_singleton _ _, fun a ha b hb => ?_⟩
    rw [List.mem_singleton] at hb
    have := l7 a ha
    omega
  · intro u hu
    rcases List.mem_append.mp hu with q | q
    · exact l7 u q
    · rw [List.mem_singleton] at q
      omega
  · intro q hq
    rw [hr q hq, List.countP_append, List.countP_singleton]
    have h8 := l8 q hq
    have hle := cnt_le (L := L) (p := fun u => decide (u % ((3600 : Nat) : Int) = (q : Int)))
    by_cases e : q = j
    · rw [if_pos e, i32_succ (b := 1000) (by rw [show (1000 : Int32).toInt = 1000 from rfl, h8]; omega), h8, if_pos (by rw [decide_eq_true_eq]; omega)]
      rfl
    · rw [if_neg e, h8, if_neg (by rw [decide_eq_true_eq]; omega)]
      rfl
theorem fo_L_7 {p1 : Int32} (hp0 : 0 ≤ p1.toInt) (hp1 : p1.toInt ≤ 400001) : ∀ (k : Nat) (y : FS) (v2 : Int32) (L : List Int), (0 ≤ (y.2.1 7 2).toInt ∧ (y.2.1 7 2).toInt < 20) → (y.2.1 7 3).toInt = L.length → (∀ i, (hi : i < L.length) → (y.2.1 8 (((y.2.1 7 2).toInt.toNat + i) % 20)).toInt = L[i]) → (∀ u ∈ L, p1.toInt - 3600 ≤ u ∧ u ≤ p1.toInt) → 0 ≤ v2.toInt → v2.toInt + L.length ≤ 20 → L.length < k → (fX8_forgetOld_7_L2 p1 k y v2).1 = y.1 ∧ (fX8_forgetOld_7_L2 p1 k y v2).2.2 = y.2.2 ∧ (∀ o q, ¬ (o = 7 ∧ (q = 2 ∨ q = 3)) → (fX8_forgetOld_7_L2 p1 k y v2).2.1 o q = y.2.1 o q) ∧ (0 ≤ ((fX8_forgetOld_7_L2 p1 k y v2).2.1 7 2).toInt ∧ ((fX8_forgetOld_7_L2 p1 k y v2).2.1 7 2).toInt < 20) ∧ ((fX8_forgetOld_7_L2 p1 k y v2).2.1 7 3).toInt = (L.dropWhile (fun u => decide (u ≤ p1.toInt - 3600))).length ∧ (∀ i, (hi : i < (L.dropWhile (fun u => decide (u ≤ p1.toInt - 3600))).length) → (y.2.1 8 ((((fX8_forgetOld_7_L2 p1 k y v2).2.1 7 2).toInt.toNat + i) % 20)).toInt = (L.dropWhile (fun u => decide (u ≤ p1.toInt - 3600)))[i]) := by
  intro k
  induction k with
  | zero => intro y v2 L _ _ _ _ _ _ h; omega
  | succ k ih =>
    intro y v2 L h1 h2 h3 h4 h5 h6 h7
    cases L with
    | nil =>
      have e : fX8_forgetOld_7_L2 p1 (k + 1) y v2 = y := by
        unfold fX8_forgetOld_7_L2
        rw [List.length_nil] at h2
        rw [if_pos (show y.2.1 7 3 ≤ 0 by rw [Int32.le_iff_toInt_le, show (0 : Int32).toInt = 0 from rfl]; omega), ite_self]
      rw [e]
      exact ⟨rfl, rfl, fun _ _ _ => rfl, h1, h2, fun i hi => absurd hi (Nat.not_lt_zero _)⟩
    | cons u l =>
      rw [List.length_cons] at h2 h6 h7
      have hu := h4 u (List.mem_cons_self ..)
      have h30 := h3 0 (by rw [List.length_cons]; omega)
      rw [Nat.add_zero, Nat.mod_eq_of_lt (show (y.2.1 7 2).toInt.toNat < 20 by omega), List.getElem_cons_zero] at h30
      have ec : (y.2.1 7 2).toInt.toNat = (y.2.1 7 2).toNatClampNeg := by
        obtain ⟨a, ha, e⟩ := nI_of (x := y.2.1 7 2) (by rw [Int32.lt_iff_toInt_lt, show (0 : Int32).toInt = 0 from rfl]; omega)
        rw [e, nI_toInt ha, nI_clamp ha]; omega
      rw [ec] at h30
      have hs : (p1 - y.2.1 8 (y.2.1 7 2).toNatClampNeg).toInt = p1.toInt - u := by rw [i32_sub (by omega) (by omega), h30]
      have q1 : ¬ (20 : Int32) ≤ v2 := by rw [Int32.le_iff_toInt_le, show (20 : Int32).toInt = 20 from rfl]; omega
      have q2 : ¬ y.2.1 7 3 ≤ 0 := by rw [Int32.le_iff_toInt_le, show (0 : Int32).toInt = 0 from rfl]; omega
      by_cases hum : u ≤ p1.toInt - 3600
      · have q3 : ¬ (p1 - y.2.1 8 (y.2.1 7 2).toNatClampNeg) < 3600 := by rw [Int32.lt_iff_toInt_lt, hs, show (3600 : Int32).toInt = 3600 from rfl]; omega
        have eD : (u :: l).dropWhile (fun u => decide (u ≤ p1.toInt - 3600)) = l.dropWhile (fun u => decide (u ≤ p1.toInt - 3600)) := by
          rw [List.dropWhile_cons, if_pos (decide_eq_true hum)]
        rw [eD]
        have ev := i32_succ (a := v2) (b := 1000) (by rw [show (1000 : Int32).toInt = 1000 from rfl]; omega)
        have eo := i32_succ (a := y.2.1 7 2) (b := 1000) (by rw [show (1000 : Int32).toInt = 1000 from rfl]; omega)
        have ek : (y.2.1 7 3 - 1).toInt = l.length := by rw [i32_sub (by rw [show (1 : Int32).toInt = 1 from rfl]; omega) (by rw [show (1 : Int32).toInt = 1 from rfl]; omega), show (1 : Int32).toInt = 1 from rfl]; omega
        have step : ∀ o' : Int32, 0 ≤ o'.toInt → o'.toInt < 20 → (∀ i, (o'.toInt.toNat + i) % 20 = ((y.2.1 7 2).toInt.toNat + (i + 1)) % 20) → fX8_forgetOld_7_L2 p1 (k + 1) y v2 = fX8_forgetOld_7_L2 p1 k (sC (sC y 7 2 o') 7 3 (y.2.1 7 3 - 1)) (v2 + 1) → (fX8_forgetOld_7_L2 p1 (k + 1) y v2).1 = y.1 ∧ (fX8_forgetOld_7_L2 p1 (k + 1) y v2).2.2 = y.2.2 ∧ (∀ o q, ¬ (o = 7 ∧ (q = 2 ∨ q = 3)) → (fX8_forgetOld_7_L2 p1 (k + 1) y v2).2.1 o q = y.2.1 o q) ∧ (0 ≤ ((fX8_forgetOld_7_L2 p1 (k + 1) y v2).2.1 7 2).toInt ∧ ((fX8_forgetOld_7_L2 p1 (k + 1) y v2).2.1 7 2).toInt < 20) ∧ ((fX8_forgetOld_7_L2 p1 (k + 1) y v2).2.1 7 3).toInt = (l.dropWhile (fun u => decide (u ≤ p1.toInt - 3600))).length ∧ (∀ i, (hi : i < (l.dropWhile (fun u => decide (u ≤ p1.toInt - 3600))).length) → (y.2.1 8 ((((fX8_forgetOld_7_L2 p1 (k + 1) y v2).2.1 7 2).toInt.toNat + i) % 20)).toInt = (l.dropWhile (fun u => decide (u ≤ p1.toInt - 3600)))[i]) := by
          intro o' g1 g2 g3 ge
          rw [ge]
          have hi := ih (sC (sC y 7 2 o') 7 3 (y.2.1 7 3 - 1)) (v2 + 1) l ⟨g1, g2⟩ ek (fun i hi => by
            show (y.2.1 8 ((o'.toInt.toNat + i) % 20)).toInt = _
            rw [g3 i]
            exact h3 (i + 1) (by rw [List.length_cons]; omega)) (fun v hv => h4 v (List.mem_cons_of_mem _ hv)) (by omega) (by omega) (by omega)
          refine ⟨hi.1, hi.2.1, fun o q hq => (hi.2.2.1 o q hq).trans ?_, hi.2.2.2.1, hi.2.2.2.2.1, hi.2.2.2.2.2⟩
          rw [sC_rd (fun e => hq ⟨e.1, Or.inr e.2⟩), sC_rd (fun e => hq ⟨e.1, Or.inl e.2⟩)]
        by_cases q4 : (20 : Int32) ≤ y.2.1 7 2 + 1
        · have q5 := q4
          rw [Int32.le_iff_toInt_le, show (20 : Int32).toInt = 20 from rfl] at q5
          refine step 0 (by decide) (by decide) (fun i => ?_) ?_
          · rw [show (0 : Int32).toInt = 0 from rfl]; omega
          · show fX8_forgetOld_7_L2 p1 (k + 1) y v2 = _
            conv => lhs; unfold fX8_forgetOld_7_L2
            rw [if_neg q1, if_neg q2, if_neg q3, if_pos q4]
        · have q5 := q4
          rw [Int32.le_iff_toInt_le, show (20 : Int32).toInt = 20 from rfl] at q5
          refine step (y.2.1 7 2 + 1) (by omega) (by omega) (fun i => ?_) ?_
          · rw [eo]; congr 1; omega
          · show fX8_forgetOld_7_L2 p1 (k + 1) y v2 = _
            conv => lhs; unfold fX8_forgetOld_7_L2
            rw [if_neg q1, if_neg q2, if_neg q3, if_neg q4]
      · have q3 : (p1 - y.2.1 8 (y.2.1 7 2).toNatClampNeg) < 3600 := by rw [Int32.lt_iff_toInt_lt, hs, show (3600 : Int32).toInt = 3600 from rfl]; omega
        have e : fX8_forgetOld_7_L2 p1 (k + 1) y v2 = y := by
          unfold fX8_forgetOld_7_L2
          rw [if_neg q1, if_neg q2, if_pos q3]
        have eD : (u :: l).dropWhile (fun u => decide (u ≤ p1.toInt - 3600)) = u :: l := by
          rw [List.dropWhile_cons, if_neg (by rw [decide_eq_true_eq]; exact hum)]
        rw [e, eD]
        exact ⟨rfl, rfl, fun _ _ _ => rfl, h1, by rw [List.length_cons]; exact h2, h3⟩
theorem fo_7 {x : FS} {w tm tm' : Int32} {r r' : Nat → Int32} (h : rgr 20 3600 (x.2.1 7 2) (x.2.1 7 3) (x.2.1 8) w r tm) (ht : tm'.toInt = tm.toInt + 1) (h0 : 0 ≤ tm.toInt) (hb : tm.toInt ≤ 400000) {j0 : Nat} (hj : (j0 : Int) = tm'.toInt % 3600) (hr : ∀ q, q < 3600 → r' q = if q = j0 then 0 else r q) : (fX8_forgetOld_7 tm' x).1 = x.1 ∧ (fX8_forgetOld_7 tm' x).2.2 = x.2.2 ∧ (∀ o q, ¬ (o = 7 ∧ (q = 2 ∨ q = 3)) → (fX8_forgetOld_7 tm' x).2.1 o q = x.2.1 o q) ∧ rgr 20 3600 ((fX8_forgetOld_7 tm' x).2.1 7 2) ((fX8_forgetOld_7 tm' x).2.1 7 3) ((fX8_forgetOld_7 tm' x).2.1 8) (w - r j0) r' tm' ∧ ((fX8_forgetOld_7 tm' x).2.1 7 3).toInt ≤ (x.2.1 7 3).toInt := by
  obtain ⟨L, l1, l2, l3, l4, l5, l6, l7, l8⟩ := h
  have hL : ∀ u ∈ L, tm'.toInt - 3600 ≤ u ∧ u < tm'.toInt - 3600 + (3600 : Nat) := fun u hu => by have := l7 u hu; omega
  obtain ⟨d1, d2, d3, d4⟩ := dw (span := 3600) (j0 := j0) (m := tm'.toInt - 3600) (fun u q1 q2 => by omega) L l6 hL
  obtain ⟨f1, f2, f3, f4, f5, f6⟩ := fo_L_7 (p1 := tm') (by omega) (by omega) (mu32 0 20 + 1) x 0 L l1 l2 l5 (fun u hu => by have := l7 u hu; omega) (by decide) (by rw [show (0 : Int32).toInt = 0 from rfl]; omega) (by rw [show mu32 0 20 = 20 from by decide]; omega)
  have hj2 : j0 < 3600 := by omega
  have hw : (w - r j0).toInt = (L.dropWhile (fun u => decide (u ≤ tm'.toInt - 3600))).length := by
    have h8 := l8 j0 hj2
    rw [i32_sub (by omega) (by omega)]
    omega
  unfold fX8_forgetOld_7
  refine ⟨f1, f2, f3, ⟨L.dropWhile (fun u => decide (u ≤ tm'.toInt - 3600)), f4, f5, hw, ?_, ?_, d3, fun u hu => ?_, fun j hj3 => ?_⟩, ?_⟩
  · omega
  · intro i hi
    rw [f3 8 _ (fun e => absurd e.1 (by decide))]
    exact f6 i hi
  · have h1 := d4 u hu
    have h2 := l7 u h1.2
    omega
  · rw [hr j hj3, d2 j]
    by_cases e : j = j0
    · rw [if_pos e, if_pos e]; rfl
    · rw [if_neg e, if_neg e]; exact l8 j hj3
  · rw [f5, l2]; omega
theorem rg_add_10 {o k w tm : Int32} {t r r' : Nat → Int32} (h : rgr 60 900 o k t w r tm) (hk : k.toInt < 60) {i : Nat} (hi : i = (o.toInt.toNat + k.toInt.toNat) % 60) {j : Nat} (hj : (j : Int) = tm.toInt % 900) (hr : ∀ q, q < 900 → r' q = if q = j then r q + 1 else r q) : rgr 60 900 o (k + 1) (va_up t i tm) (w + 1) r' tm := by
  obtain ⟨L, l1, l2, l3, l4, l5, l6, l7, l8⟩ := h
  have hlen : L.length < 60 := by omega
  have ek := i32_succ (a := k) (b := 1000) (by rw [show (1000 : Int32).toInt = 1000 from rfl]; omega)
  have ew := i32_succ (a := w) (b := 1000) (by rw [show (1000 : Int32).toInt = 1000 from rfl]; omega)
  refine ⟨L ++ [tm.toInt], l1, ?_, ?_, ?_, ?_, ?_, ?_, ?_⟩
  · rw [ek, List.length_append, List.length_singleton]; omega
  · rw [ew, List.length_append, List.length_singleton]; omega
  · rw [List.length_append, List.length_singleton]; omega
  · intro q hq
    rw [List.length_append, List.length_singleton] at hq
    by_cases hq2 : q < L.length
    · rw [va_up_ne _ _ (by omega), List.getElem_append_left hq2]
      exact l5 q hq2
    · have eq : q = L.length := by omega
      subst eq
      rw [List.getElem_append_right (Nat.le_refl _)]
      have ei : (o.toInt.toNat + L.length) % 60 = i := by rw [hi]; congr 2; omega
      rw [ei, va_up_self]
      simp
  · rw [List.pairwise_append]
    refine ⟨l6, List.pairwise_singleton _ _, fun a ha b hb => ?_⟩
    rw [List.mem_singleton] at hb
    have := l7 a ha
    omega
  · intro u hu
    rcases List.mem_append.mp hu with q | q
    · exact l7 u q
    · rw [List.mem_singleton] at q
      omega
  · intro q hq
    rw [hr q hq, List.countP_append, List.countP_singleton]
    have h8 := l8 q hq
    have hle := cnt_le (L := L) (p := fun u => decide (u % ((900 : Nat) : Int) = (q : Int)))
    by_cases e : q = j
    · rw [if_pos e, i32_succ (b := 1000) (by rw [show (1000 : Int32).toInt = 1000 from rfl, h8]; omega), h8, if_pos (by rw [decide_eq_true_eq]; omega)]
      rfl
    · rw [if_neg e, h8, if_neg (by rw [decide_eq_true_eq]; omega)]
      rfl
theorem fo_L_10 {p1 : Int32} (hp0 : 0 ≤ p1.toInt) (hp1 : p1.toInt ≤ 400001) : ∀ (k : Nat) (y : FS) (v2 : Int32) (L : List Int), (0 ≤ (y.2.1 10 2).toInt ∧ (y.2.1 10 2).toInt < 60) → (y.2.1 10 3).toInt = L.length → (∀ i, (hi : i < L.length) → (y.2.1 11 (((y.2.1 10 2).toInt.toNat + i) % 60)).toInt = L[i]) → (∀ u ∈ L, p1.toInt - 900 ≤ u ∧ u ≤ p1.toInt) → 0 ≤ v2.toInt → v2.toInt + L.length ≤ 60 → L.length < k → (fX8_forgetOld_10_L2 p1 k y v2).1 = y.1 ∧ (fX8_forgetOld_10_L2 p1 k y v2).2.2 = y.2.2 ∧ (∀ o q, ¬ (o = 10 ∧ (q = 2 ∨ q = 3)) → (fX8_forgetOld_10_L2 p1 k y v2).2.1 o q = y.2.1 o q) ∧ (0 ≤ ((fX8_forgetOld_10_L2 p1 k y v2).2.1 10 2).toInt ∧ ((fX8_forgetOld_10_L2 p1 k y v2).2.1 10 2).toInt < 60) ∧ ((fX8_forgetOld_10_L2 p1 k y v2).2.1 10 3).toInt = (L.dropWhile (fun u => decide (u ≤ p1.toInt - 900))).length ∧ (∀ i, (hi : i < (L.dropWhile (fun u => decide (u ≤ p1.toInt - 900))).length) → (y.2.1 11 ((((fX8_forgetOld_10_L2 p1 k y v2).2.1 10 2).toInt.toNat + i) % 60)).toInt = (L.dropWhile (fun u => decide (u ≤ p1.toInt - 900)))[i]) := by
  intro k
  induction k with
  | zero => intro y v2 L _ _ _ _ _ _ h; omega
  | succ k ih =>
    intro y v2 L h1 h2 h3 h4 h5 h6 h7
    cases L with
    | nil =>
      have e : fX8_forgetOld_10_L2 p1 (k + 1) y v2 = y := by
        unfold fX8_forgetOld_10_L2
        rw [List.length_nil] at h2
        rw [if_pos (show y.2.1 10 3 ≤ 0 by rw [Int32.le_iff_toInt_le, show (0 : Int32).toInt = 0 from rfl]; omega), ite_self]
      rw [e]
      exact ⟨rfl, rfl, fun _ _ _ => rfl, h1, h2, fun i hi => absurd hi (Nat.not_lt_zero _)⟩
    | cons u l =>
      rw [List.length_cons] at h2 h6 h7
      have hu := h4 u (List.mem_cons_self ..)
      have h30 := h3 0 (by rw [List.length_cons]; omega)
      rw [Nat.add_zero, Nat.mod_eq_of_lt (show (y.2.1 10 2).toInt.toNat < 60 by omega), List.getElem_cons_zero] at h30
      have ec : (y.2.1 10 2).toInt.toNat = (y.2.1 10 2).toNatClampNeg := by
        obtain ⟨a, ha, e⟩ := nI_of (x := y.2.1 10 2) (by rw [Int32.lt_iff_toInt_lt, show (0 : Int32).toInt = 0 from rfl]; omega)
        rw [e, nI_toInt ha, nI_clamp ha]; omega
      rw [ec] at h30
      have hs : (p1 - y.2.1 11 (y.2.1 10 2).toNatClampNeg).toInt = p1.toInt - u := by rw [i32_sub (by omega) (by omega), h30]
      have q1 : ¬ (60 : Int32) ≤ v2 := by rw [Int32.le_iff_toInt_le, show (60 : Int32).toInt = 60 from rfl]; omega
      have q2 : ¬ y.2.1 10 3 ≤ 0 := by rw [Int32.le_iff_toInt_le, show (0 : Int32).toInt = 0 from rfl]; omega
      by_cases hum : u ≤ p1.toInt - 900
      · have q3 : ¬ (p1 - y.2.1 11 (y.2.1 10 2).toNatClampNeg) < 900 := by rw [Int32.lt_iff_toInt_lt, hs, show (900 : Int32).toInt = 900 from rfl]; omega
        have eD : (u :: l).dropWhile (fun u => decide (u ≤ p1.toInt - 900)) = l.dropWhile (fun u => decide (u ≤ p1.toInt - 900)) := by
          rw [List.dropWhile_cons, if_pos (decide_eq_true hum)]
        rw [eD]
        have ev := i32_succ (a := v2) (b := 1000) (by rw [show (1000 : Int32).toInt = 1000 from rfl]; omega)
        have eo := i32_succ (a := y.2.1 10 2) (b := 1000) (by rw [show (1000 : Int32).toInt = 1000 from rfl]; omega)
        have ek : (y.2.1 10 3 - 1).toInt = l.length := by rw [i32_sub (by rw [show (1 : Int32).toInt = 1 from rfl]; omega) (by rw [show (1 : Int32).toInt = 1 from rfl]; omega), show (1 : Int32).toInt = 1 from rfl]; omega
        have step : ∀ o' : Int32, 0 ≤ o'.toInt → o'.toInt < 60 → (∀ i, (o'.toInt.toNat + i) % 60 = ((y.2.1 10 2).toInt.toNat + (i + 1)) % 60) → fX8_forgetOld_10_L2 p1 (k + 1) y v2 = fX8_forgetOld_10_L2 p1 k (sC (sC y 10 2 o') 10 3 (y.2.1 10 3 - 1)) (v2 + 1) → (fX8_forgetOld_10_L2 p1 (k + 1) y v2).1 = y.1 ∧ (fX8_forgetOld_10_L2 p1 (k + 1) y v2).2.2 = y.2.2 ∧ (∀ o q, ¬ (o = 10 ∧ (q = 2 ∨ q = 3)) → (fX8_forgetOld_10_L2 p1 (k + 1) y v2).2.1 o q = y.2.1 o q) ∧ (0 ≤ ((fX8_forgetOld_10_L2 p1 (k + 1) y v2).2.1 10 2).toInt ∧ ((fX8_forgetOld_10_L2 p1 (k + 1) y v2).2.1 10 2).toInt < 60) ∧ ((fX8_forgetOld_10_L2 p1 (k + 1) y v2).2.1 10 3).toInt = (l.dropWhile (fun u => decide (u ≤ p1.toInt - 900))).length ∧ (∀ i, (hi : i < (l.dropWhile (fun u => decide (u ≤ p1.toInt - 900))).length) → (y.2.1 11 ((((fX8_forgetOld_10_L2 p1 (k + 1) y v2).2.1 10 2).toInt.toNat + i) % 60)).toInt = (l.dropWhile (fun u => decide (u ≤ p1.toInt - 900)))[i]) := by
          intro o' g1 g2 g3 ge
          rw [ge]
          have hi := ih (sC (sC y 10 2 o') 10 3 (y.2.1 10 3 - 1)) (v2 + 1) l ⟨g1, g2⟩ ek (fun i hi => by
            show (y.2.1 11 ((o'.toInt.toNat + i) % 60)).toInt = _
            rw [g3 i]
            exact h3 (i + 1) (by rw [List.length_cons]; omega)) (fun v hv => h4 v (List.mem_cons_of_mem _ hv)) (by omega) (by omega) (by omega)
          refine ⟨hi.1, hi.2.1, fun o q hq => (hi.2.2.1 o q hq).trans ?_, hi.2.2.2.1, hi.2.2.2.2.1, hi.2.2.2.2.2⟩
          rw [sC_rd (fun e => hq ⟨e.1, Or.inr e.2⟩), sC_rd (fun e => hq ⟨e.1, Or.inl e.2⟩)]
        by_cases q4 : (60 : Int32) ≤ y.2.1 10 2 + 1
        · have q5 := q4
          rw [Int32.le_iff_toInt_le, show (60 : Int32).toInt = 60 from rfl] at q5
          refine step 0 (by decide) (by decide) (fun i => ?_) ?_
          · rw [show (0 : Int32).toInt = 0 from rfl]; omega
          · show fX8_forgetOld_10_L2 p1 (k + 1) y v2 = _
            conv => lhs; unfold fX8_forgetOld_10_L2
            rw [if_neg q1, if_neg q2, if_neg q3, if_pos q4]
        · have q5 := q4
          rw [Int32.le_iff_toInt_le, show (60 : Int32).toInt = 60 from rfl] at q5
          refine step (y.2.1 10 2 + 1) (by omega) (by omega) (fun i => ?_) ?_
          · rw [eo]; congr 1; omega
          · show fX8_forgetOld_10_L2 p1 (k + 1) y v2 = _
            conv => lhs; unfold fX8_forgetOld_10_L2
            rw [if_neg q1, if_neg q2, if_neg q3, if_neg q4]
      · have q3 : (p1 - y.2.1 11 (y.2.1 10 2).toNatClampNeg) < 900 := by rw [Int32.lt_iff_toInt_lt, hs, show (900 : Int32).toInt = 900 from rfl]; omega
        have e : fX8_forgetOld_10_L2 p1 (k + 1) y v2 = y := by
          unfold fX8_forgetOld_10_L2
          rw [if_neg q1, if_neg q2, if_pos q3]
        have eD : (u :: l).dropWhile (fun u => decide (u ≤ p1.toInt - 900)) = u :: l := by
          rw [List.dropWhile_cons, if_neg (by rw [decide_eq_true_eq]; exact hum)]
        rw [e, eD]
        exact ⟨rfl, rfl, fun _ _ _ => rfl, h1, by rw [List.length_cons]; exact h2, h3⟩
theorem fo_10 {x : FS} {w tm tm' : Int32} {r r' : Nat → Int32} (h : rgr 60 900 (x.2.1 10 2) (x.2.1 10 3) (x.2.1 11) w r tm) (ht : tm'.toInt = tm.toInt + 1) (h0 : 0 ≤ tm.toInt) (hb : tm.toInt ≤ 400000) {j0 : Nat} (hj : (j0 : Int) = tm'.toInt % 900) (hr : ∀ q, q < 900 → r' q = if q = j0 then 0 else r q) : (fX8_forgetOld_10 tm' x).1 = x.1 ∧ (fX8_forgetOld_10 tm' x).2.2 = x.2.2 ∧ (∀ o q, ¬ (o = 10 ∧ (q = 2 ∨ q = 3)) → (fX8_forgetOld_10 tm' x).2.1 o q = x.2.1 o q) ∧ rgr 60 900 ((fX8_forgetOld_10 tm' x).2.1 10 2) ((fX8_forgetOld_10 tm' x).2.1 10 3) ((fX8_forgetOld_10 tm' x).2.1 11) (w - r j0) r' tm' ∧ ((fX8_forgetOld_10 tm' x).2.1 10 3).toInt ≤ (x.2.1 10 3).toInt := by
  obtain ⟨L, l1, l2, l3, l4, l5, l6, l7, l8⟩ := h
  have hL : ∀ u ∈ L, tm'.toInt - 900 ≤ u ∧ u < tm'.toInt - 900 + (900 : Nat) := fun u hu => by have := l7 u hu; omega
  obtain ⟨d1, d2, d3, d4⟩ := dw (span := 900) (j0 := j0) (m := tm'.toInt - 900) (fun u q1 q2 => by omega) L l6 hL
  obtain ⟨f1, f2, f3, f4, f5, f6⟩ := fo_L_10 (p1 := tm') (by omega) (by omega) (mu32 0 60 + 1) x 0 L l1 l2 l5 (fun u hu => by have := l7 u hu; omega) (by decide) (by rw [show (0 : Int32).toInt = 0 from rfl]; omega) (by rw [show mu32 0 60 = 60 from by decide]; omega)
  have hj2 : j0 < 900 := by omega
  have hw : (w - r j0).toInt = (L.dropWhile (fun u => decide (u ≤ tm'.toInt - 900))).length := by
    have h8 := l8 j0 hj2
    rw [i32_sub (by omega) (by omega)]
    omega
  unfold fX8_forgetOld_10
  refine ⟨f1, f2, f3, ⟨L.dropWhile (fun u => decide (u ≤ tm'.toInt - 900)), f4, f5, hw, ?_, ?_, d3, fun u hu => ?_, fun j hj3 => ?_⟩, ?_⟩
  · omega
  · intro i hi
    rw [f3 11 _ (fun e => absurd e.1 (by decide))]
    exact f6 i hi
  · have h1 := d4 u hu
    have h2 := l7 u h1.2
    omega
  · rw [hr j hj3, d2 j]
    by_cases e : j = j0
    · rw [if_pos e, if_pos e]; rfl
    · rw [if_neg e, if_neg e]; exact l8 j hj3
  · rw [f5, l2]; omega
