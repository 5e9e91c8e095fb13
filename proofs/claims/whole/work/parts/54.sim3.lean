/-! typing -/
def DR (gd : Nat → Nat → Int32) (y : RS) : Prop := (∀ d, d < 16 → ∀ k, 1 ≤ k → k ≤ 12 → k ≠ 3 → gd d k = y.1 k d) ∧ ∀ d, d < 16 → y.1 2 d = 0 ∨ gd d 3 = y.1 3 d
theorem dr_row {gd : Nat → Nat → Int32} {y : RS} {z : Int32} {k : Nat} (hD : DR gd y) (hz : vp_in z 16) (h1 : 1 ≤ k) (h2 : k ≤ 12) (h3 : k ≠ 3 := by decide) : dRow gd z.toNatClampNeg k = y.1 k z.toNatClampNeg := by
  have hd := vi_lt hz
  unfold dRow
  rw [if_pos hd]
  exact hD.1 _ hd k h1 h2 h3
theorem dr_row3 {gd : Nat → Nat → Int32} {y : RS} {z : Int32} (hD : DR gd y) (hz : vp_in z 16) : y.1 2 z.toNatClampNeg = 0 ∨ dRow gd z.toNatClampNeg 3 = y.1 3 z.toNatClampNeg := by
  have hd := vi_lt hz
  unfold dRow
  rw [if_pos hd]
  exact hD.2 _ hd
theorem dr_kp {gd : Nat → Nat → Int32} {n : Nat} {y0 y : RS} (hD : DR gd y0) (hk : Kp n y0 y) : DR gd y := ⟨fun d hd k h1 h2 h3 => (hD.1 d hd k h1 h2 h3).trans (hk k d (fun q => by unfold Wr at q; omega)).symm, fun d hd => by rw [hk 2 d (fun q => by unfold Wr at q; omega), hk 3 d (fun q => by unfold Wr at q; omega)]; exact hD.2 d hd⟩
theorem i32_of {a : Int32} {v : Int32} (h : a.toInt = v.toInt) : a = v := Int32.toInt_inj.mp h
section S3
variable {n T B : Nat} {x : FS} {y : RS} {tm : Int32} {gd : Nat → Nat → Int32}
theorem places_eq {b : Nat} (hn : n < 3) (hD : DR gd y) (h : CH b n x.2.1 y tm) : fX1_places gd x = fX11_places (nI n) y := by
  unfold fX1_places fX11_places
  rw [tn hn, ← h.ph]
  by_cases a : x.2.1 0 6 = 1
  · rw [if_pos a, if_pos a]
  · rw [if_neg a, if_neg a]
    by_cases a3 : x.2.1 0 6 = 3
    · rw [if_pos a3, if_pos a3]
      have h9 := phi (k := 3) rfl a3
      obtain ⟨z1, z2⟩ := h.ed.1 (by rw [h9]; decide)
      rw [dr_row hD z1 (by decide) (by decide), z2]
    · rw [if_neg a3, if_neg a3]
theorem places_3 : fX1_places gd x = 0 ∨ fX1_places gd x = 1 ∨ fX1_places gd x = 2 := by
  unfold fX1_places
  by_cases a : x.2.1 0 6 = 1
  · rw [if_pos a]; exact Or.inl rfl
  · rw [if_neg a]
    by_cases a3 : x.2.1 0 6 = 3
    · rw [if_pos a3]
      by_cases q : dRow gd (x.2.1 1 2).toNatClampNeg 2 = 1
      · rw [if_pos q]; exact Or.inr (Or.inr rfl)
      · rw [if_neg q]; exact Or.inr (Or.inl rfl)
    · rw [if_neg a3]; exact Or.inr (Or.inl rfl)
theorem num_loop {P : Int32} (hP : fX11_places (nI n) y = P) : ∀ k v u, fX9_inUnits_L10 P k x v u = fX11_number_L37 (nI n) k y v u := by
  intro k
  induction k with
  | zero => intro v u; rfl
  | succ k ih =>
    intro v u
    unfold fX9_inUnits_L10 fX11_number_L37
    rw [hP, ih]
theorem beh_eq {b : Nat} (h : CH b n x.2.1 y tm) : (if (0 : Int32) ≤ y.1 43 n then y.1 42 n - y.1 43 n else 0) = x.2.1 2 2 := by
  obtain ⟨_, t2, _, _, t5⟩ := h.ty
  rcases t5 with ⟨_, q2, q3, q4, q5⟩ | ⟨_, q2, q3, q4, q5, q6⟩
  · rw [q2, if_neg (by decide), q3]
  · rw [if_pos (by rw [Int32.le_iff_toInt_le, show (0 : Int32).toInt = 0 from rfl]; omega), ← t2]
    refine i32_of ?_
    rw [i32_sub (by omega) (by omega)]
    omega
theorem number_eq {b : Nat} (hn : n < 3) (hD : DR gd y) (h : CH b n x.2.1 y tm) : fX9_inUnits (fX1_places gd x) x = fX11_number (nI n) y := by
  have hP := places_eq hn hD h
  have hB := beh_eq h
  have hv : x.2.1 2 0 = y.1 41 n := h.ty.1
  unfold fX9_inUnits fX11_number fX11_number_J26
  rw [num_loop hP.symm, tn hn, ← hB, hv, hP]
  by_cases q : (0 : Int32) ≤ y.1 43 n
  · rw [if_pos q, if_pos q]
  · rw [if_neg q, if_neg q]
theorem un_step {P v u : Int32} {k : Nat} (q : ¬ P ≤ u) : fX9_inUnits_L10 P (k + 1) x v u = fX9_inUnits_L10 P k x (v * 10) (u + 1) := if_neg q
theorem un_end {P v u : Int32} {k : Nat} (q : P ≤ u) : fX9_inUnits_L10 P (k + 1) x v u = v := if_pos q
theorem m10 {v : Int32} {N : Int} (h1 : 0 ≤ v.toInt) (h2 : v.toInt < N) (hN : N ≤ 100000) : 0 ≤ (v * 10).toInt ∧ (v * 10).toInt < N * 10 := by
  obtain ⟨a, ha, e⟩ := nI_of (x := v) (by rw [Int32.lt_iff_toInt_lt, show (0 : Int32).toInt = 0 from rfl]; omega)
  subst e
  rw [nI_toInt ha] at h1 h2
  rw [show (10 : Int32) = nI 10 from rfl, pk_mul, nI_toInt (by omega)]
  omega
theorem un_bd {P : Int32} (hP : P = 0 ∨ P = 1 ∨ P = 2) {F D Q : Int32} (ht : tyr (x.2.1 2 0) (x.2.1 2 1) (x.2.1 2 2) (x.2.1 2 3) F D Q) : 0 ≤ (fX9_inUnits P x).toInt ∧ (fX9_inUnits P x).toInt < 1000000 := by
  obtain ⟨_, _, t3, t4, t5⟩ := ht
  have hb : (x.2.1 2 2 = 0 ∧ (x.2.1 2 0).toInt < 10000) ∨ (x.2.1 2 2 = 1 ∧ (x.2.1 2 0).toInt < 100000) ∨ (x.2.1 2 2 = 2 ∧ (x.2.1 2 0).toInt < 1000000) := by
    have hf : ∀ k : Nat, (x.2.1 2 1).toInt.toNat ≤ k → (x.2.1 2 0).toInt < 10 ^ k := fun k hk => Int.lt_of_lt_of_le t4 (by exact_mod_cast Nat.pow_le_pow_right (by decide : 0 < 10) hk)
    rcases t5 with ⟨_, _, q3, q4, q5⟩ | ⟨_, q2, q3, q4, q5, q6⟩
    · exact Or.inl ⟨q3, hf 4 (by omega)⟩
    · rcases (show (x.2.1 2 2).toInt = 0 ∨ (x.2.1 2 2).toInt = 1 ∨ (x.2.1 2 2).toInt = 2 by omega) with q | q | q
      · exact Or.inl ⟨i32_of q, hf 4 (by omega)⟩
      · exact Or.inr (Or.inl ⟨i32_of q, hf 5 (by omega)⟩)
      · exact Or.inr (Or.inr ⟨i32_of q, hf 6 (by omega)⟩)
  unfold fX9_inUnits
  rcases hb with ⟨e, hv⟩ | ⟨e, hv⟩ | ⟨e, hv⟩ <;> rcases hP with rfl | rfl | rfl <;> rw [e]
  · rw [show mu32 0 0 = 0 from by decide, un_end (by decide)]; omega
  · rw [show mu32 0 1 = 1 from by decide, un_step (by decide), un_end (by decide)]
    have := m10 t3 hv (by decide); omega
  · rw [show mu32 0 2 = 2 from by decide, un_step (by decide), un_step (by decide), un_end (by decide)]
    have h1 := m10 t3 hv (by decide)
    have h2 := m10 h1.1 h1.2 (by decide); omega
  · rw [show mu32 1 0 = 0 from by decide, un_end (by decide)]; omega
  · rw [show mu32 1 1 = 0 from by decide, un_end (by decide)]; omega
  · rw [show mu32 1 2 = 1 from by decide, un_step (by decide), un_end (by decide)]
    have := m10 t3 hv (by decide); omega
  · rw [show mu32 2 0 = 0 from by decide, un_end (by decide)]; omega
  · rw [show mu32 2 1 = 0 from by decide, un_end (by decide)]; omega
  · rw [show mu32 2 2 = 0 from by decide, un_end (by decide)]; omega
theorem ty_up {v p : Int32} {k : Nat} (hk : k ≤ 5) (h1 : 0 ≤ v.toInt) (h2 : v.toInt < 10 ^ k) (hp : vp_in p 10) : 0 ≤ (v * 10 + p).toInt ∧ (v * 10 + p).toInt < 10 ^ (k + 1) := by
  obtain ⟨a, ha, e⟩ := nI_of (x := v) (by rw [Int32.lt_iff_toInt_lt, show (0 : Int32).toInt = 0 from rfl]; omega)
  obtain ⟨d, hd, e2⟩ := vp_in_of hp (by decide)
  subst e e2
  rw [nI_toInt ha] at h2
  have h3 : (10 : Int) ^ k ≤ 10 ^ 5 := by exact_mod_cast Nat.pow_le_pow_right (by decide : 0 < 10) hk
  have h4 : (10 : Int) ^ (k + 1) = 10 ^ k * 10 := Int.pow_succ ..
  have h5 : (10 : Int) ^ 5 = 100000 := by decide
  rw [show (10 : Int32) = nI 10 from rfl, pk_mul, nI_add, nI_toInt (by omega), h4]
  omega
theorem tak_ne (q : ¬ fX1_takesNumber x = 0) : 1 ≤ (x.2.1 0 6).toInt ∧ (x.2.1 0 6).toInt ≤ 4 := by
  unfold fX1_takesNumber at q
  by_cases a : x.2.1 0 6 < 1
  · rw [if_pos a] at q; exact absurd rfl q
  · rw [if_neg a] at q
    by_cases a2 : (4 : Int32) < x.2.1 0 6
    · rw [if_pos a2] at q; exact absurd rfl q
    · rw [Int32.lt_iff_toInt_lt, show (1 : Int32).toInt = 1 from rfl] at a
      rw [Int32.lt_iff_toInt_lt, show (4 : Int32).toInt = 4 from rfl] at a2
      omega
/-- the reference's press where a number may be typed -/
theorem press_if {k : Int32} {b : Nat} (hn : n < 3) (h : CH b n x.2.1 y tm) : fX11_press (nI n) k y = (if fX1_takesNumber x = 0 then fX11_press_J25 (nI n) k y 0 else fX11_press_J25 (nI n) k y 1) := by
  unfold fX11_press fX11_press_J24 fX1_takesNumber
  rw [tn hn, ← h.ph]
  by_cases a : x.2.1 0 6 < 1
  · rw [if_pos a, if_pos a, if_pos rfl]
  · rw [if_neg a, if_neg a]
    by_cases a2 : (4 : Int32) < x.2.1 0 6
    · rw [if_pos a2, if_pos a2, if_pos rfl]
    · rw [if_neg a2, if_neg a2, if_neg (show ¬ (1 : Int32) = 0 by decide)]
/-- one more figure -/
theorem fig_up {p : Int32} (hG : G x y) (h : CH 0 n x.2.1 y tm) (lf : LF x.2.1) (p10 : P10 x.2.1) (hp : vp_in p 10) (hph : 1 ≤ (x.2.1 0 6).toInt ∧ (x.2.1 0 6).toInt ≤ 4) (hroom : (x.2.1 2 3 = 0 ∧ ¬ (4 : Int32) ≤ x.2.1 2 1) ∨ (¬ x.2.1 2 3 = 0 ∧ (x.2.1 2 2).toInt < 2)) : SR n x tm ((fX9_addFigure_J53 p 0 x).1, (fX9_addFigure_J53 p 0 x).1.2.1 0 6) (sR (sR y 41 n ((10 : Int32) * y.1 41 n + p)) 42 n (y.1 42 n + 1), 1) := by
  obtain ⟨t1, t2, t3, t4, t5⟩ := h.ty
  have ev : x.2.1 2 0 * 10 + p = (10 : Int32) * y.1 41 n + p := by rw [t1, Int32.mul_comm]
  unfold fX9_addFigure_J53
  rcases hroom with ⟨r1, r2⟩ | ⟨r1, r2⟩
  · rw [if_pos r1]
    rcases t5 with ⟨_, q2, q3, q4, q5⟩ | ⟨q1, _⟩
    · rw [Int32.le_iff_toInt_le, show (4 : Int32).toInt = 4 from rfl] at r2
      have e1 := i32_succ (a := x.2.1 2 1) (b := 100) (by rw [show (100 : Int32).toInt = 100 from rfl]; omega)
      have e2 := ty_up (k := (x.2.1 2 1).toInt.toNat) (by omega) t3 t4 hp
      refine ⟨hG, ⟨h.ph, h.al, h.st, h.wa, h.dn, h.cf, h.we, h.am, h.ra, h.le, h.ma, h.de, h.bo, h.fl, h.pr, h.ti, h.bu, h.ai, h.op, h.su, h.co, h.at_, h.pd, h.la, ?_, (fun q => absurd hph q), h.ed, h.ru, h.nu, h.re, h.r1, h.r2⟩, lf, p10, Or.inr ⟨one_ne, rfl⟩, rfl⟩
      show tyr (x.2.1 2 0 * 10 + p) (x.2.1 2 1 + 1) (x.2.1 2 2) (x.2.1 2 3) (va_up (y.1 41) n ((10 : Int32) * y.1 41 n + p) n) (va_up (y.1 42) n (y.1 42 n + 1) n) (y.1 43 n)
      rw [va_up_self, va_up_self]
      refine ⟨ev, by rw [t2], e2.1, ?_, Or.inl ⟨r1, q2, q3, by omega, by omega⟩⟩
      rw [e1, show ((x.2.1 2 1).toInt + 1).toNat = (x.2.1 2 1).toInt.toNat + 1 by omega]
      exact e2.2
    · rw [q1] at r1; exact absurd r1 (by decide)
  · rw [if_neg r1]
    rcases t5 with ⟨q1, _⟩ | ⟨q1, q2, q3, q4, q5, q6⟩
    · exact absurd q1 r1
    · have e1 := i32_succ (a := x.2.1 2 1) (b := 100) (by rw [show (100 : Int32).toInt = 100 from rfl]; omega)
      have e3 := i32_succ (a := x.2.1 2 2) (b := 100) (by rw [show (100 : Int32).toInt = 100 from rfl]; omega)
      have e2 := ty_up (k := (x.2.1 2 1).toInt.toNat) (by omega) t3 t4 hp
      refine ⟨hG, ⟨h.ph, h.al, h.st, h.wa, h.dn, h.cf, h.we, h.am, h.ra, h.le, h.ma, h.de, h.bo, h.fl, h.pr, h.ti, h.bu, h.ai, h.op, h.su, h.co, h.at_, h.pd, h.la, ?_, (fun q => absurd hph q), h.ed, h.ru, h.nu, h.re, h.r1, h.r2⟩, lf, p10, Or.inr ⟨one_ne, rfl⟩, rfl⟩
      show tyr (x.2.1 2 0 * 10 + p) (x.2.1 2 1 + 1) (x.2.1 2 2 + 1) (x.2.1 2 3) (va_up (y.1 41) n ((10 : Int32) * y.1 41 n + p) n) (va_up (y.1 42) n (y.1 42 n + 1) n) (y.1 43 n)
      rw [va_up_self, va_up_self]
      refine ⟨ev, by rw [t2], e2.1, ?_, Or.inr ⟨q1, q2, q3, by omega, by omega, by omega⟩⟩
      rw [e1, show ((x.2.1 2 1).toInt + 1).toNat = (x.2.1 2 1).toInt.toNat + 1 by omega]
      exact e2.2
end S3
