/-! ENTER -/
theorem isin_v {a b c : Int64} {y : RS} : fX11_isIn a b c y = (if b.toInt ≤ a.toInt ∧ a.toInt ≤ c.toInt then 1 else 0) := by
  unfold fX11_isIn
  by_cases q1 : lg_cmp a b < 0
  · rw [if_pos q1]
    rw [lg_cmp_lt, Int64.lt_iff_toInt_lt] at q1
    rw [if_neg (fun q => by omega)]
  · rw [if_neg q1]
    rw [lg_cmp_lt, Int64.lt_iff_toInt_lt] at q1
    by_cases q2 : (0 : Int32) < lg_cmp a c
    · rw [if_pos q2]
      rw [lg_cmp_gt, Int64.lt_iff_toInt_lt] at q2
      rw [if_neg (fun q => by omega)]
    · rw [if_neg q2]
      rw [lg_cmp_gt, Int64.lt_iff_toInt_lt] at q2
      rw [if_pos (by omega)]
theorem isin_i {p : Int32} {lo hi : Int64} {l h : Int} {y : RS} (hl : lo.toInt = l) (hh : hi.toInt = h) : fX11_isIn p.toInt64 lo hi y = (if l ≤ p.toInt ∧ p.toInt ≤ h then 1 else 0) := by
  rw [isin_v, Int32.toInt_toInt64, hl, hh]
def SE (n : Nat) (x : FS) (tm : Int32) (q : FS × Int32) (r : RS × Int32) : Prop := G q.1 r.1 ∧ CH 0 n q.1.2.1 r.1 tm ∧ LF q.1.2.1 ∧ P10 q.1.2.1 ∧ ((r.2 = -1 ∧ q.2 = -1 ∧ q.1.2.1 0 6 = x.2.1 0 6) ∨ (r.2 = -2 ∧ q.2 = -2) ∨ (r.2 = 0 ∧ q.2 = q.1.2.1 0 6)) ∧ q.1.2.1 1 6 = x.2.1 1 6
theorem l32 {R : Int64} (h1 : -2147483648 ≤ R.toInt) (h2 : R.toInt < 2147483648) : (R.toInt32).toInt = R.toInt := by
  rw [Int64.toInt_toInt32]
  simp only [Int.bmod]
  omega
theorem rof_nn {k s a u : Int32} (ha : 0 ≤ a.toInt ∧ a.toInt < 1000000) (hw : 0 ≤ u.toInt ∧ u.toInt ≤ 3000) (hs : ¬ k = 0 → 1 ≤ s.toInt) : 0 ≤ (rof k s a u).toInt := by
  unfold rof
  by_cases q : k = 0
  · rw [if_pos q, Int32.toInt_toInt64]; exact ha.1
  · rw [if_neg q]
    have h1 := hs q
    obtain ⟨A, hA, eA⟩ := nI_of (x := a) (by rw [Int32.lt_iff_toInt_lt, show (0 : Int32).toInt = 0 from rfl]; omega)
    obtain ⟨U, hU, eU⟩ := nI_of (x := u) (by rw [Int32.lt_iff_toInt_lt, show (0 : Int32).toInt = 0 from rfl]; omega)
    obtain ⟨S, hS, eS⟩ := nI_of (x := s) (by rw [Int32.lt_iff_toInt_lt, show (0 : Int32).toInt = 0 from rfl]; omega)
    rw [eA, nI_toInt hA] at ha
    rw [eU, nI_toInt hU] at hw
    rw [eS, nI_toInt hS] at h1
    have hAU : A * U ≤ 1000000 * 3000 := Nat.mul_le_mul (by omega) (by omega)
    rw [eA, eU, eS, nI_l hA, nI_l hU, nI_l hS, show (3 : Int64) = lN 3 from rfl, show (5 : Int64) = lN 5 from rfl, show (2 : Int64) = lN 2 from rfl]
    simp only [lN_mul, lN_add]
    rw [Nat.mul_assoc 3 A U]
    generalize A * U = M at hAU ⊢
    rw [lg_ldiv_nonneg (by rw [pk_lT (by omega)]; omega) (by rw [pk_lT (by omega)]; omega), pk_lT (by omega), pk_lT (by omega)]
    exact Int.ediv_nonneg (by omega) (by omega)
theorem rate_of {gd : Nat → Nat → Int32} {z a u k s : Int32} {x : FS} (hK : dRow gd z.toNatClampNeg 2 = k) (hS : k = 0 ∨ dRow gd z.toNatClampNeg 3 = s) (hs : ¬ k = 0 → 1 ≤ s.toInt) : fX2_rateFor gd z a u x = (if k = 0 then a else (if rof k s a u < (2147483647 : Int64) then rof k s a u else (2147483647 : Int64)).toInt32) := by
  unfold fX2_rateFor
  rw [hK]
  by_cases q : k = 0
  · rw [if_pos q, if_pos q]
  · rw [if_neg q, if_neg q, hS.resolve_left q]
    have e : (if (1 : Int32) < s then s else (1 : Int32)) = s := by
      by_cases q1 : (1 : Int32) < s
      · rw [if_pos q1]
      · rw [if_neg q1]
        rw [Int32.lt_iff_toInt_lt, show (1 : Int32).toInt = 1 from rfl] at q1
        have := hs q
        refine i32_of ?_
        rw [show (1 : Int32).toInt = 1 from rfl]; omega
    rw [e]
    unfold rof
    rw [if_neg q]
theorem rate_cmp {gd : Nat → Nat → Int32} {z a u k s : Int32} {x : FS} (hK : dRow gd z.toNatClampNeg 2 = k) (hS : k = 0 ∨ dRow gd z.toNatClampNeg 3 = s) (hs : ¬ k = 0 → 1 ≤ s.toInt) (hR : 0 ≤ (rof k s a u).toInt) : ((fX2_rateFor gd z a u x).toInt < 1 ↔ (rof k s a u).toInt < 1) ∧ ((fX2_rateFor gd z a u x).toInt ≤ 9999 ↔ (rof k s a u).toInt ≤ 9999) ∧ ((rof k s a u).toInt ≤ 9999 → fX2_rateFor gd z a u x = (rof k s a u).toInt32 ∧ (fX2_rateFor gd z a u x).toInt = (rof k s a u).toInt) := by
  have e : (fX2_rateFor gd z a u x).toInt = (if (rof k s a u).toInt < 2147483647 then (rof k s a u).toInt else 2147483647) := by
    rw [rate_of hK hS hs]
    by_cases q : k = 0
    · rw [if_pos q]
      have e1 : (rof k s a u).toInt = a.toInt := by unfold rof; rw [if_pos q, Int32.toInt_toInt64]
      rw [e1]
      have := a.toInt_lt
      by_cases q2 : a.toInt < 2147483647
      · rw [if_pos q2]
      · rw [if_neg q2]; omega
    · rw [if_neg q]
      by_cases q2 : rof k s a u < (2147483647 : Int64)
      · rw [if_pos q2]
        rw [Int64.lt_iff_toInt_lt, show (2147483647 : Int64).toInt = 2147483647 from rfl] at q2
        rw [if_pos q2, l32 (by omega) (by omega)]
      · rw [if_neg q2]
        rw [Int64.lt_iff_toInt_lt, show (2147483647 : Int64).toInt = 2147483647 from rfl] at q2
        rw [if_neg q2]
        rfl
  refine ⟨?_, ?_, fun h => ?_⟩
  · rw [e]; split <;> omega
  · rw [e]; split <;> omega
  · rw [if_pos (by omega)] at e
    exact ⟨i32_of (by rw [l32 (by omega) (by omega)]; exact e), e⟩
section S6
variable {n T B : Nat} {x : FS} {y : RS} {tm : Int32} {gd : Nat → Nat → Int32}
theorem told_eq {d : Int32} (hD : DR gd y) : fX10_isTold gd d x = fX11_isDrug d y := by
  unfold fX10_isTold fX11_isDrug
  rw [isin_i (l := 0) (h := 15) rfl rfl]
  by_cases q : 0 ≤ d.toInt ∧ d.toInt ≤ 15
  · have h16 : vp_in d 16 := by rw [vp_in_iff]; omega
    have q1 : ¬ d < 0 := by rw [Int32.lt_iff_toInt_lt, show (0 : Int32).toInt = 0 from rfl]; omega
    have q2 : ¬ 16 ≤ d := by rw [Int32.le_iff_toInt_le, show (16 : Int32).toInt = 16 from rfl]; omega
    rw [if_neg q1, if_neg q2, dr_row hD h16 (by decide) (by decide), if_pos q, if_neg one_ne]
  · rw [if_neg q, if_pos rfl]
    by_cases q1 : d < 0
    · rw [if_pos q1]
    · have q2 : 16 ≤ d := by
        rw [Int32.lt_iff_toInt_lt, show (0 : Int32).toInt = 0 from rfl] at q1
        rw [Int32.le_iff_toInt_le, show (16 : Int32).toInt = 16 from rfl]; omega
      rw [if_neg q1, if_pos q2]
theorem isdr_in {d : Int32} (t : ¬ fX11_isDrug d y = 0) : vp_in d 16 := by
  unfold fX11_isDrug at t
  rw [isin_i (l := 0) (h := 15) rfl rfl] at t
  by_cases q : 0 ≤ d.toInt ∧ d.toInt ≤ 15
  · rw [vp_in_iff]; omega
  · rw [if_neg q, if_pos rfl] at t; exact absurd rfl t
theorem se_no (hG : G x y) (h : CH 0 n x.2.1 y tm) (lf : LF x.2.1) (p10 : P10 x.2.1) : SE n x tm (x, -1) (y, -1) := ⟨hG, h, lf, p10, Or.inl ⟨rfl, rfl, rfl⟩, rfl⟩
theorem comp_iff {b : Nat} (h : CH b n x.2.1 y tm) : fX9_isComplete x = 0 ↔ (y.1 42 n = 0 ∨ y.1 43 n = y.1 42 n) := by
  obtain ⟨t1, t2, t3, t4, t5⟩ := h.ty
  unfold fX9_isComplete
  rw [← t2]
  rcases t5 with ⟨q1, q2, q3, q4, q5⟩ | ⟨q1, q2, q3, q4, q5, q6⟩
  · by_cases f0 : x.2.1 2 1 ≤ 0
    · rw [if_pos f0]
      rw [Int32.le_iff_toInt_le, show (0 : Int32).toInt = 0 from rfl] at f0
      exact ⟨fun _ => Or.inl (i32_of (by rw [show (0 : Int32).toInt = 0 from rfl]; omega)), fun _ => rfl⟩
    · rw [if_neg f0, if_pos q1]
      rw [Int32.le_iff_toInt_le, show (0 : Int32).toInt = 0 from rfl] at f0
      refine ⟨fun q => absurd q one_ne, fun q => ?_⟩
      rcases q with q | q
      · rw [q] at f0; exact absurd (Int.le_refl 0) f0
      · rw [q2] at q; rw [← q] at f0; exact absurd (by decide) f0
  · have f0 : ¬ x.2.1 2 1 ≤ 0 := by rw [Int32.le_iff_toInt_le, show (0 : Int32).toInt = 0 from rfl]; omega
    rw [if_neg f0, if_neg (show ¬ x.2.1 2 3 = 0 by rw [q1]; decide)]
    by_cases b0 : x.2.1 2 2 ≤ 0
    · rw [if_pos b0]
      rw [Int32.le_iff_toInt_le, show (0 : Int32).toInt = 0 from rfl] at b0
      exact ⟨fun _ => Or.inr (i32_of (by omega)), fun _ => rfl⟩
    · rw [if_neg b0]
      rw [Int32.le_iff_toInt_le, show (0 : Int32).toInt = 0 from rfl] at b0
      refine ⟨fun q => absurd q one_ne, fun q => ?_⟩
      rcases q with q | q
      · rw [q] at f0; exact absurd (by decide) f0
      · rw [q] at q6; omega
theorem se_drug {N : Int32} (hn : n < 3) (hD : DR gd y) (hG : G x y) (h : CH 0 n x.2.1 y tm) (lf : LF x.2.1) (p10 : P10 x.2.1) : SE n x tm (fX10_enterDrug gd N x) (if (fX11_isDrug N y) = 0 then ((y, -1)) else (if (y.1 2 N.toNatClampNeg) = 1 then (((fX11_go (nI n) 2 (sR y 38 n (N))), 0)) else (((fX11_go (nI n) 3 (sR y 38 n (N))), 0)))) := by
  unfold fX10_enterDrug fX10_enterDrug_J42
  rw [told_eq hD]
  by_cases t : fX11_isDrug N y = 0
  · rw [if_pos t, if_pos t]; exact se_no hG h lf p10
  · rw [if_neg t, if_neg t]
    have hN := isdr_in t
    rw [dr_row hD hN (by decide) (by decide)]
    have key : ∀ v : Int32, (v = 2 ∨ v = 3) → SE n x tm (fX1_goTo v (sC x 1 2 N), (fX1_goTo v (sC x 1 2 N)).2.1 0 6) (fX11_go (nI n) v (sR y 38 n N), 0) := by
      intro v hv
      have v1 : (2 : Int) ≤ v.toInt ∧ v.toInt ≤ 5 := by rcases hv with q | q <;> rw [q] <;> decide
      have v2 : ¬ v = 7 := by rcases hv with q | q <;> rw [q] <;> decide
      have v3 : ¬ (4 : Int) ≤ v.toInt := by rcases hv with q | q <;> rw [q] <;> decide
      unfold fX11_go fX11_clear
      rw [tn hn]
      exact ⟨hG, ⟨(by show v = va_up (y.1 13) n _ n; rw [va_up_self]), h.al, h.st, h.wa, h.dn, h.cf, h.we, h.am, h.ra, h.le, h.ma, h.de, h.bo, h.fl, h.pr, h.ti, h.bu, h.ai, h.op, h.su, h.co, h.at_, h.pd, h.la, (by show tyr 0 0 0 0 (va_up (y.1 41) n 0 n) (va_up (y.1 42) n 0 n) (va_up (y.1 43) n (-1) n); rw [va_up_self, va_up_self, va_up_self]; exact tyr_0), (fun _ => rfl), ⟨fun _ => ⟨hN, by show va_up (y.1 38) n N n = N; rw [va_up_self]⟩, fun q => absurd v1 q⟩, ⟨fun q => absurd q v2, by show 0 ≤ v.toInt; omega, by show v.toInt ≤ 8; omega, h.ru.2.2.2⟩, h.nu, (fun q _ => absurd q v3), h.r1, h.r2⟩, lf, p10, Or.inr (Or.inr ⟨rfl, rfl⟩), rfl⟩
    by_cases k1 : y.1 2 N.toNatClampNeg = 1
    · rw [if_pos k1, if_pos k1]; exact key 2 (Or.inl rfl)
    · rw [if_neg k1, if_neg k1]; exact key 3 (Or.inr rfl)
theorem se_weight {N : Int32} (hn : n < 3) (hG : G x y) (h : CH 0 n x.2.1 y tm) (lf : LF x.2.1) (p10 : P10 x.2.1) (hph : x.2.1 0 6 = 2) : SE n x tm (fX10_enterWeight N x) (if (fX11_isIn N.toInt64 5 3000 y) = 0 then ((y, -1)) else (((fX11_go (nI n) 3 (sR y 39 n (N))), 0))) := by
  have h9 := phi (k := 2) rfl hph
  unfold fX10_enterWeight
  rw [isin_i (l := 5) (h := 3000) rfl rfl]
  by_cases q1 : N < 5
  · have q2 := q1
    rw [Int32.lt_iff_toInt_lt, show (5 : Int32).toInt = 5 from rfl] at q2
    rw [if_pos q1, if_neg (show ¬ (5 ≤ N.toInt ∧ N.toInt ≤ 3000) from fun q => by omega), if_pos rfl]; exact se_no hG h lf p10
  · have q2 := q1
    rw [Int32.lt_iff_toInt_lt, show (5 : Int32).toInt = 5 from rfl] at q2
    rw [if_neg q1]
    by_cases q3 : N ≤ 3000
    · have q4 := q3
      rw [Int32.le_iff_toInt_le, show (3000 : Int32).toInt = 3000 from rfl] at q4
      rw [if_pos q3, if_pos (show 5 ≤ N.toInt ∧ N.toInt ≤ 3000 by omega), if_neg one_ne]
      unfold fX11_go fX11_clear
      rw [tn hn]
      exact ⟨hG, ⟨(by show (3 : Int32) = va_up (y.1 13) n _ n; rw [va_up_self]), h.al, h.st, h.wa, h.dn, h.cf, (by show N = va_up (y.1 39) n N n; rw [va_up_self]), h.am, h.ra, h.le, h.ma, h.de, h.bo, h.fl, h.pr, h.ti, h.bu, h.ai, h.op, h.su, h.co, h.at_, h.pd, h.la, (by show tyr 0 0 0 0 (va_up (y.1 41) n 0 n) (va_up (y.1 42) n 0 n) (va_up (y.1 43) n (-1) n); rw [va_up_self, va_up_self, va_up_self]; exact tyr_0), (fun _ => rfl), ⟨fun _ => h.ed.1 (by rw [h9]; decide), fun q => absurd (show (2 : Int) ≤ (3 : Int32).toInt ∧ (3 : Int32).toInt ≤ 5 by decide) q⟩, ⟨fun q => absurd q (by show ¬ (3 : Int32) = 7; decide), by show 0 ≤ (3 : Int32).toInt; decide, by show (3 : Int32).toInt ≤ 8; decide, h.ru.2.2.2⟩, ⟨h.nu.1, h.nu.2.1, by show 0 ≤ N.toInt; omega, by show N.toInt ≤ 3000; omega⟩, (fun q _ => absurd q (by show ¬ 4 ≤ (3 : Int32).toInt; decide)), h.r1, h.r2⟩, lf, p10, Or.inr (Or.inr ⟨rfl, rfl⟩), rfl⟩
    · have q4 := q3
      rw [Int32.le_iff_toInt_le, show (3000 : Int32).toInt = 3000 from rfl] at q4
      rw [if_neg q3, if_neg (show ¬ (5 ≤ N.toInt ∧ N.toInt ≤ 3000) from fun q => by omega), if_pos rfl]; exact se_no hG h lf p10
theorem G_clear {Y : RS} {p1 : Int32} (h : G x Y) : G x (fX11_clear p1 Y) := by
  unfold fX11_clear
  exact G_r (by decide) (by decide) (G_r (by decide) (by decide) (G_r (by decide) (by decide) h))
theorem ch_clear {b : Nat} (hn : n < 3) (h : CH b n x.2.1 y tm) : CH b n (fX9_clear x).2.1 (fX11_clear (nI n) y) tm := by
  unfold fX11_clear
  rw [tn hn]
  exact ⟨h.ph, h.al, h.st, h.wa, h.dn, h.cf, h.we, h.am, h.ra, h.le, h.ma, h.de, h.bo, h.fl, h.pr, h.ti, h.bu, h.ai, h.op, h.su, h.co, h.at_, h.pd, h.la, (by show tyr 0 0 0 0 (va_up (y.1 41) n 0 n) (va_up (y.1 42) n 0 n) (va_up (y.1 43) n (-1) n); rw [va_up_self, va_up_self, va_up_self]; exact tyr_0), (fun _ => rfl), h.ed, h.ru, h.nu, h.re, h.r1, h.r2⟩
theorem se_hard {N : Int32} (hn : n < 3) (hG : G x y) (h : CH 0 n x.2.1 y tm) (lf : LF x.2.1) (p10 : P10 x.2.1) (hok : okR T B y) : SE n x tm (fX10_note n 1 N (fX9_clear x), -2) (fX11_clear (nI n) (fX11_note 1 (nI n) N y), -2) := by
  have he : 0 ≤ (y.1 0 50).toInt := hok.2.1.1
  have hZ : G (fX9_clear x) y := hG
  have hC := note_c (n := n) (a := 1) (v := N) hZ he
  refine ⟨G_clear (s_note hZ he), ?_, ?_, ?_, Or.inr (Or.inl ⟨rfl, rfl⟩), ?_⟩
  · show CH 0 n (fX10_note n 1 N (fX9_clear x)).2.1 _ tm
    rw [hC]; exact ch_clear hn (ch_note h)
  · show LF (fX10_note n 1 N (fX9_clear x)).2.1
    rw [hC]; exact lf
  · show P10 (fX10_note n 1 N (fX9_clear x)).2.1
    rw [hC]; exact p10
  · show (fX10_note n 1 N (fX9_clear x)).2.1 1 6 = _
    rw [hC]; rfl
theorem se_amount {N : Int32} (hn : n < 3) (hD : DR gd y) (hs : okS y) (hG : G x y) (h : CH 0 n x.2.1 y tm) (lf : LF x.2.1) (p10 : P10 x.2.1) (hok : okR T B y) (hph : x.2.1 0 6 = 3) (hN : 0 ≤ N.toInt ∧ N.toInt < 1000000) : SE n x tm (fX10_enterAmount gd n N x) (if (fX11_isIn N.toInt64 ((y.1 4 ((y.1 38 n).toNatClampNeg)).toInt64) ((y.1 7 ((y.1 38 n).toNatClampNeg)).toInt64) y) = 0 then (fX11_enter_J188 (nI n) y N) else (if (fX11_isIn (fX11_rateOf (y.1 38 n) N (y.1 39 n) y) 1 9999 y) = 0 then (fX11_enter_J188 (nI n) y N) else (if (fX11_isIn N.toInt64 ((y.1 5 ((y.1 38 n).toNatClampNeg)).toInt64) ((y.1 6 ((y.1 38 n).toNatClampNeg)).toInt64) (sR y 40 n (N))) = 0 then (((fX11_go (nI n) 5 (sR y 40 n (N))), 0)) else (((fX11_go (nI n) 4 (sR y 40 n (N))), 0))))) := by
  have h9 := phi (k := 3) rfl hph
  obtain ⟨z1, z2⟩ := h.ed.1 (by rw [h9]; decide)
  have eK := dr_row hD z1 (k := 2) (by decide) (by decide)
  have eS := dr_row3 hD z1
  have hsz := hs _ (vi_lt z1)
  have hR := rof_nn (k := y.1 2 (x.2.1 1 2).toNatClampNeg) (s := y.1 3 (x.2.1 1 2).toNatClampNeg) hN (u := x.2.1 1 4) h.nu.2.2 hsz
  obtain ⟨c1, c2, c3⟩ := rate_cmp (a := N) (u := x.2.1 1 4) (x := x) eK eS hsz hR
  have hard := se_hard (N := N) hn hG h lf p10 hok
  have eRo : fX11_rateOf (x.2.1 1 2) N (x.2.1 1 4) y = rof (y.1 2 (x.2.1 1 2).toNatClampNeg) (y.1 3 (x.2.1 1 2).toNatClampNeg) N (x.2.1 1 4) := rfl
  unfold fX10_enterAmount fX10_enterAmount_J52 fX10_enterAmount_J101 fX10_enterAmount_J102 fX11_enter_J188
  rw [z2, ← h.we, eRo, dr_row hD z1 (k := 4) (by decide) (by decide), dr_row hD z1 (k := 5) (by decide) (by decide), dr_row hD z1 (k := 6) (by decide) (by decide), dr_row hD z1 (k := 7) (by decide) (by decide), isin_v, isin_v, isin_v, Int32.toInt_toInt64, Int32.toInt_toInt64, Int32.toInt_toInt64, Int32.toInt_toInt64, Int32.toInt_toInt64, show (1 : Int64).toInt = 1 from rfl, show (9999 : Int64).toInt = 9999 from rfl]
  have e1 : (fX2_rateFor gd (x.2.1 1 2) N (x.2.1 1 4) x < 1) ↔ (rof (y.1 2 (x.2.1 1 2).toNatClampNeg) (y.1 3 (x.2.1 1 2).toNatClampNeg) N (x.2.1 1 4)).toInt < 1 := by rw [Int32.lt_iff_toInt_lt]; exact c1
  have e2 : (fX2_rateFor gd (x.2.1 1 2) N (x.2.1 1 4) x ≤ 9999) ↔ (rof (y.1 2 (x.2.1 1 2).toNatClampNeg) (y.1 3 (x.2.1 1 2).toNatClampNeg) N (x.2.1 1 4)).toInt ≤ 9999 := by rw [Int32.le_iff_toInt_le]; exact c2
  have key : ∀ v : Int32, (v = 4 ∨ v = 5) → (1 ≤ (rof (y.1 2 (x.2.1 1 2).toNatClampNeg) (y.1 3 (x.2.1 1 2).toNatClampNeg) N (x.2.1 1 4)).toInt ∧ (rof (y.1 2 (x.2.1 1 2).toNatClampNeg) (y.1 3 (x.2.1 1 2).toNatClampNeg) N (x.2.1 1 4)).toInt ≤ 9999) → SE n x tm (fX1_goTo v (sC x 1 5 N), (fX1_goTo v (sC x 1 5 N)).2.1 0 6) (fX11_go (nI n) v (sR y 40 n N), 0) := by
    intro v hv hre
    have v1 : (2 : Int) ≤ v.toInt ∧ v.toInt ≤ 5 := by rcases hv with q | q <;> rw [q] <;> decide
    have v2 : ¬ v = 7 := by rcases hv with q | q <;> rw [q] <;> decide
    unfold fX11_go fX11_clear
    rw [tn hn]
    exact ⟨hG, ⟨(by show v = va_up (y.1 13) n _ n; rw [va_up_self]), h.al, h.st, h.wa, h.dn, h.cf, h.we, (by show N = va_up (y.1 40) n N n; rw [va_up_self]), h.ra, h.le, h.ma, h.de, h.bo, h.fl, h.pr, h.ti, h.bu, h.ai, h.op, h.su, h.co, h.at_, h.pd, h.la, (by show tyr 0 0 0 0 (va_up (y.1 41) n 0 n) (va_up (y.1 42) n 0 n) (va_up (y.1 43) n (-1) n); rw [va_up_self, va_up_self, va_up_self]; exact tyr_0), (fun _ => rfl), ⟨fun _ => ⟨z1, z2⟩, fun q => absurd v1 q⟩, ⟨fun q => absurd q v2, by show 0 ≤ v.toInt; omega, by show v.toInt ≤ 8; omega, h.ru.2.2.2⟩, h.nu, (fun _ _ => hre), h.r1, h.r2⟩, lf, p10, Or.inr (Or.inr ⟨rfl, rfl⟩), rfl⟩
  generalize (rof (y.1 2 (x.2.1 1 2).toNatClampNeg) (y.1 3 (x.2.1 1 2).toNatClampNeg) N (x.2.1 1 4)).toInt = R at e1 e2 key ⊢
  generalize fX2_rateFor gd (x.2.1 1 2) N (x.2.1 1 4) x = rt at e1 e2 ⊢
  generalize y.1 4 (x.2.1 1 2).toNatClampNeg = H4
  generalize y.1 5 (x.2.1 1 2).toNatClampNeg = H5
  generalize y.1 6 (x.2.1 1 2).toNatClampNeg = H6
  generalize y.1 7 (x.2.1 1 2).toNatClampNeg = H7
  by_cases a1 : N < H4
  · have a2 := a1
    rw [Int32.lt_iff_toInt_lt] at a2
    rw [if_pos a1, if_neg (show ¬ (H4.toInt ≤ N.toInt ∧ N.toInt ≤ H7.toInt) from fun q => by omega), if_pos rfl]; exact hard
  · have a2 := a1
    rw [Int32.lt_iff_toInt_lt] at a2
    rw [if_neg a1]
    by_cases a3 : H7 < N
    · have a4 := a3
      rw [Int32.lt_iff_toInt_lt] at a4
      rw [if_pos a3, if_neg (show ¬ (H4.toInt ≤ N.toInt ∧ N.toInt ≤ H7.toInt) from fun q => by omega), if_pos rfl]; exact hard
    · have a4 := a3
      rw [Int32.lt_iff_toInt_lt] at a4
      rw [if_neg a3, if_pos (show H4.toInt ≤ N.toInt ∧ N.toInt ≤ H7.toInt by omega), if_neg one_ne]
      by_cases a5 : rt < 1
      · have a6 := e1.mp a5
        rw [if_pos a5, if_neg (show ¬ (1 ≤ R ∧ R ≤ 9999) from fun q => by omega), if_pos rfl]; exact hard
      · have a6 : ¬ R < 1 := fun q => a5 (e1.mpr q)
        rw [if_neg a5]
        by_cases a7 : rt ≤ 9999
        · have a8 := e2.mp a7
          have aR : 1 ≤ R ∧ R ≤ 9999 := by omega
          rw [if_pos a7, if_pos aR, if_neg one_ne]
          by_cases b1 : N < H5
          · have b2 := b1
            rw [Int32.lt_iff_toInt_lt] at b2
            rw [if_pos b1, if_neg (show ¬ (H5.toInt ≤ N.toInt ∧ N.toInt ≤ H6.toInt) from fun q => by omega), if_pos rfl]; exact key 5 (Or.inr rfl) aR
          · have b2 := b1
            rw [Int32.lt_iff_toInt_lt] at b2
            rw [if_neg b1]
            by_cases b3 : H6 < N
            · have b4 := b3
              rw [Int32.lt_iff_toInt_lt] at b4
              rw [if_pos b3, if_neg (show ¬ (H5.toInt ≤ N.toInt ∧ N.toInt ≤ H6.toInt) from fun q => by omega), if_pos rfl]; exact key 5 (Or.inr rfl) aR
            · have b4 := b3
              rw [Int32.lt_iff_toInt_lt] at b4
              rw [if_neg b3, if_pos (show H5.toInt ≤ N.toInt ∧ N.toInt ≤ H6.toInt by omega), if_neg one_ne]; exact key 4 (Or.inl rfl) aR
        · have a8 : ¬ R ≤ 9999 := fun q => a7 (e2.mpr q)
          rw [if_neg a7, if_neg (show ¬ (1 ≤ R ∧ R ≤ 9999) from fun q => a8 q.2), if_pos rfl]; exact hard
end S6
