/-! figures, the point, clear -/
theorem pj_d {p1 p w : Int32} {y : RS} (h : vp_in p 11) : fX11_press_J25 p1 p y w = (if w = 0 then ((y, 0)) else (if ((fX11_figure p1 p y).2) = 0 then (((fX11_figure p1 p y).1, 0)) else (((fX11_figure p1 p y).1, 1)))) := by
  have ne : ∀ K : Int32, 11 ≤ K.toInt → ¬ p = K := fun K hK q => by rw [q, vp_in_iff] at h; omega
  unfold fX11_press_J25
  rw [if_neg (ne 11 (by decide)), if_neg (ne 12 (by decide)), if_neg (ne 13 (by decide)), if_neg (ne 14 (by decide)), if_neg (ne 15 (by decide)), if_neg (ne 16 (by decide)), if_neg (ne 17 (by decide)), if_neg (ne 18 (by decide)), if_neg (ne 19 (by decide)), if_neg (ne 20 (by decide)), if_neg (ne 21 (by decide))]
section S4
variable {n T B : Nat} {x : FS} {y : RS} {tm : Int32} {gd : Nat → Nat → Int32}
theorem addfig_eq {p P : Int32} : fX9_addFigure p P x = (if x.2.1 2 3 = 0 then (if (4 : Int32) ≤ x.2.1 2 1 then (x, 0) else (if x.2.1 2 1 = 1 ∧ x.2.1 2 0 = 0 then (x, 0) else ((fX9_addFigure_J53 p 0 x).1, 1))) else (if x.2.1 2 2 < P then ((fX9_addFigure_J53 p 0 x).1, 1) else (x, 0))) := by
  have e : fX9_addFigure_J53 p P x = ((fX9_addFigure_J53 p 0 x).1, 1) := by
    unfold fX9_addFigure_J53
    by_cases q : x.2.1 2 3 = 0
    · rw [if_pos q]
    · rw [if_neg q]
  unfold fX9_addFigure fX9_addFigure_J19 fX9_addFigure_J20
  rw [e]
  by_cases f1 : x.2.1 2 1 = 1
  · by_cases v0 : x.2.1 2 0 = 0
    · simp [f1, v0]
    · simp [f1, v0]
  · simp [f1]
theorem figA {p : Int32} (hn : n < 3) (hp : ¬ p = 10) (q2 : y.1 43 n = -1) : fX11_figure (nI n) p y = (if (4 : Int32) ≤ y.1 42 n then (y, 0) else (if y.1 42 n = 1 ∧ y.1 41 n = 0 then (y, 0) else (sR (sR y 41 n ((10 : Int32) * y.1 41 n + p)) 42 n (y.1 42 n + 1), 1))) := by
  unfold fX11_figure fX11_figure_J14 fX11_figure_J42 fX11_figure_J43 fX11_figure_J93
  rw [tn hn, q2, if_pos (show (-1 : Int32) < 0 by decide), if_neg hp, if_neg hp, if_neg hp, if_neg hp]
  rw [if_pos (show (0 : Int32) = 0 from rfl), if_pos (show (0 : Int32) = 0 from rfl), if_pos (show (0 : Int32) = 0 from rfl), if_neg (show ¬ (1 : Int32) = 0 by decide)]
  by_cases f4 : (4 : Int32) ≤ y.1 42 n
  · by_cases f1 : y.1 42 n = 1
    · rw [f1] at f4; exact absurd f4 (by decide)
    · rw [if_neg f1]; simp [f4]
  · by_cases f1 : y.1 42 n = 1
    · by_cases v0 : y.1 41 n = 0
      · simp [f1, v0]
      · simp [f1, v0]
    · simp [f1, f4]
theorem figB {p : Int32} (hn : n < 3) (hp : ¬ p = 10) (q2 : ¬ y.1 43 n < 0) : fX11_figure (nI n) p y = (if fX11_places (nI n) y ≤ y.1 42 n - y.1 43 n then (y, 0) else (sR (sR y 41 n ((10 : Int32) * y.1 41 n + p)) 42 n (y.1 42 n + 1), 1)) := by
  unfold fX11_figure fX11_figure_J14 fX11_figure_J42 fX11_figure_J43 fX11_figure_J93
  rw [tn hn, if_neg q2]
  by_cases f4 : fX11_places (nI n) y ≤ y.1 42 n - y.1 43 n
  · simp [hp, f4]
  · simp [hp, f4]
theorem sr_fig {p : Int32} (hn : n < 3) (hD : DR gd y) (hG : G x y) (h : CH 0 n x.2.1 y tm) (lf : LF x.2.1) (p10 : P10 x.2.1) (hp : vp_in p 10) : SR n x tm (fX10_typeFigure gd p x) (fX11_press (nI n) p y) := by
  have hp2 : vp_in p 11 := by rw [vp_in_iff] at hp ⊢; omega
  have hpn : ¬ p = 10 := fun q => by rw [q, vp_in_iff] at hp; exact absurd hp.2 (by decide)
  rw [press_if hn h, pj_d hp2, pj_d hp2]
  unfold fX10_typeFigure
  by_cases a : fX1_takesNumber x = 0
  · rw [if_pos a, if_pos a, if_pos rfl]; exact sr_no hG h lf p10
  · rw [if_neg a, if_neg a, if_neg (show ¬ (1 : Int32) = 0 by decide)]
    have hph := tak_ne a
    have hP := places_eq hn hD h
    have hB := beh_eq h
    have h3 := places_3 (gd := gd) (x := x)
    obtain ⟨t1, t2, t3, t4, t5⟩ := h.ty
    rw [addfig_eq]
    rcases t5 with ⟨q1, q2, q3, q4, q5⟩ | ⟨q1, q2, q3, q4, q5, q6⟩
    · rw [figA hn hpn q2, ← t1, ← t2, if_pos q1]
      by_cases f4 : (4 : Int32) ≤ x.2.1 2 1
      · rw [if_pos f4, if_pos f4, if_pos rfl, if_pos rfl]; exact sr_no hG h lf p10
      · rw [if_neg f4, if_neg f4]
        by_cases f1 : x.2.1 2 1 = 1 ∧ x.2.1 2 0 = 0
        · rw [if_pos f1, if_pos f1, if_pos rfl, if_pos rfl]; exact sr_no hG h lf p10
        · rw [if_neg f1, if_neg f1, if_neg (show ¬ (1 : Int32) = 0 by decide), if_neg (show ¬ (1 : Int32) = 0 by decide), t1, t2]
          exact fig_up hG h lf p10 hp hph (Or.inl ⟨q1, f4⟩)
    · have nP : ¬ y.1 43 n < 0 := by rw [Int32.lt_iff_toInt_lt, show (0 : Int32).toInt = 0 from rfl]; omega
      have nP2 : (0 : Int32) ≤ y.1 43 n := by rw [Int32.le_iff_toInt_le, show (0 : Int32).toInt = 0 from rfl]; omega
      have n1 : ¬ x.2.1 2 3 = 0 := by rw [q1]; decide
      rw [if_pos nP2] at hB
      rw [figB hn hpn nP, ← hP, hB, if_neg n1]
      by_cases f4 : x.2.1 2 2 < fX1_places gd x
      · have f5 : ¬ fX1_places gd x ≤ x.2.1 2 2 := by
          rw [Int32.lt_iff_toInt_lt] at f4
          rw [Int32.le_iff_toInt_le]; omega
        rw [if_pos f4, if_neg f5, if_neg (show ¬ (1 : Int32) = 0 by decide), if_neg (show ¬ (1 : Int32) = 0 by decide)]
        refine fig_up hG h lf p10 hp hph (Or.inr ⟨n1, ?_⟩)
        rw [Int32.lt_iff_toInt_lt] at f4
        rcases h3 with e | e | e <;> rw [e] at f4
        · exact Int.lt_trans f4 (by decide)
        · exact Int.lt_trans f4 (by decide)
        · exact f4
      · have f5 : fX1_places gd x ≤ x.2.1 2 2 := by
          rw [Int32.lt_iff_toInt_lt] at f4
          rw [Int32.le_iff_toInt_le]; omega
        rw [if_neg f4, if_pos f5, if_pos rfl, if_pos rfl]; exact sr_no hG h lf p10
theorem sr_point (hn : n < 3) (hD : DR gd y) (hG : G x y) (h : CH 0 n x.2.1 y tm) (lf : LF x.2.1) (p10 : P10 x.2.1) : SR n x tm (fX10_typePoint gd x) (fX11_press (nI n) 10 y) := by
  rw [press_if hn h, pj_d (by rw [vp_in_iff]; decide), pj_d (by rw [vp_in_iff]; decide)]
  unfold fX10_typePoint
  by_cases a : fX1_takesNumber x = 0
  · rw [if_pos a, if_pos a, if_pos rfl]; exact sr_no hG h lf p10
  · rw [if_neg a, if_neg a, if_neg (show ¬ (1 : Int32) = 0 by decide)]
    have hph := tak_ne a
    have hP := places_eq hn hD h
    obtain ⟨t1, t2, t3, t4, t5⟩ := h.ty
    have eF : fX11_figure (nI n) 10 y = (if y.1 43 n < 0 then (if y.1 42 n = 0 then (y, 0) else (if fX11_places (nI n) y = 0 then (y, 0) else (sR y 43 n (y.1 42 n), 1))) else (y, 0)) := by
      unfold fX11_figure fX11_figure_J14 fX11_figure_J42 fX11_figure_J43 fX11_figure_J93
      rw [tn hn]
      by_cases c1 : y.1 43 n < 0
      · rw [if_pos c1, if_pos c1]
        simp
      · rw [if_neg c1, if_neg c1]
        simp
    rw [eF, ← hP, ← t2]
    unfold fX9_addPoint
    rcases t5 with ⟨q1, q2, q3, q4, q5⟩ | ⟨q1, q2, q3, q4, q5, q6⟩
    · rw [if_pos q1, q2, if_pos (show (-1 : Int32) < 0 by decide)]
      by_cases f0 : x.2.1 2 1 = 0
      · rw [if_pos f0, if_pos f0, if_pos rfl, if_pos rfl]; exact sr_no hG h lf p10
      · rw [if_neg f0, if_neg f0]
        by_cases f1 : fX1_places gd x = 0
        · rw [if_pos f1, if_pos f1, if_pos rfl, if_pos rfl]; exact sr_no hG h lf p10
        · rw [if_neg f1, if_neg f1, if_neg (show ¬ (1 : Int32) = 0 by decide), if_neg (show ¬ (1 : Int32) = 0 by decide)]
          have f2 : ¬ (x.2.1 2 1).toInt = 0 := fun q => f0 (i32_of q)
          refine ⟨hG, ⟨h.ph, h.al, h.st, h.wa, h.dn, h.cf, h.we, h.am, h.ra, h.le, h.ma, h.de, h.bo, h.fl, h.pr, h.ti, h.bu, h.ai, h.op, h.su, h.co, h.at_, h.pd, h.la, ?_, (fun q => absurd hph q), h.ed, h.ru, h.nu, h.re, h.r1, h.r2⟩, lf, p10, Or.inr ⟨one_ne, rfl⟩, rfl⟩
          show tyr (x.2.1 2 0) (x.2.1 2 1) (x.2.1 2 2) 1 (y.1 41 n) (y.1 42 n) (va_up (y.1 43) n (x.2.1 2 1) n)
          rw [va_up_self]
          refine ⟨t1, t2, t3, t4, Or.inr ⟨rfl, by omega, by omega, ?_, ?_, ?_⟩⟩
          · rw [q3]; decide
          · rw [q3]; decide
          · rw [q3]; exact Int.add_zero _
    · have nP : ¬ y.1 43 n < 0 := by rw [Int32.lt_iff_toInt_lt, show (0 : Int32).toInt = 0 from rfl]; omega
      rw [if_neg nP, if_neg (show ¬ x.2.1 2 3 = 0 by rw [q1]; decide), if_pos rfl, if_pos rfl]; exact sr_no hG h lf p10
theorem sr_clear (hn : n < 3) (hG : G x y) (h : CH 0 n x.2.1 y tm) (lf : LF x.2.1) (p10 : P10 x.2.1) (hok : okR T B y) : SR n x tm (fX10_pressClear n x) (fX11_press (nI n) 11 y) := by
  have e11 : ∀ w : Int32, fX11_press_J25 (nI n) 11 y w = (if w = 0 then (if (y.1 13 (nI n).toNatClampNeg) = 5 then (fX11_press_J98 (nI n) 11 y) else ((y, 0))) else (fX11_press_J98 (nI n) 11 y)) := fun w => by
    unfold fX11_press_J25
    rw [if_pos rfl]
  have e98 : ∀ r : RS × Int32, ¬ r.2 = 0 → r.2 = 1 → fX11_clearKey (nI n) y = r → fX11_press_J98 (nI n) 11 y = r := fun r h1 h2 e => by
    unfold fX11_press_J98
    rw [e, if_neg h1]
    exact Prod.ext rfl h2.symm
  rw [press_if hn h, e11, e11, if_pos rfl, if_neg (show ¬ (1 : Int32) = 0 by decide), tn hn, ← h.ph]
  unfold fX10_pressClear fX10_pressClear_J56
  by_cases a5 : x.2.1 0 6 = 5
  · have h9 := phi (k := 5) rfl a5
    have g2 : CH 0 n (fX1_goTo 3 x).2.1 (fX11_go (nI n) 3 y) tm := ch_go hn h ⟨fun _ => h.ed.1 (by rw [h9]; decide), fun q => absurd (show (2 : Int) ≤ (3 : Int32).toInt ∧ (3 : Int32).toInt ≤ 5 by decide) q⟩ ⟨fun q => absurd q (by decide), by decide, by decide, h.ru.2.2.2⟩ (fun q _ => absurd q (by decide))
    have ek : fX11_clearKey (nI n) y = (fX11_go (nI n) 3 y, 1) := by
      unfold fX11_clearKey
      rw [tn hn, ← h.ph, if_pos a5]
    rw [e98 _ one_ne rfl ek, if_pos a5, if_pos a5, ite_self]
    exact ⟨hG, g2, lf, p10, Or.inr ⟨one_ne, rfl⟩, rfl⟩
  · rw [if_neg a5, if_neg a5]
    by_cases a : fX1_takesNumber x = 0
    · rw [if_pos a, if_pos a]; exact sr_no hG h lf p10
    · rw [if_neg a, if_neg a]
      have hph := tak_ne a
      obtain ⟨t1, t2, t3, t4, t5⟩ := h.ty
      have hl : (fX9_length x ≤ 0) ↔ (y.1 42 n ≤ 0) := by
        unfold fX9_length
        rw [← t2]
        rcases t5 with ⟨q1, _⟩ | ⟨q1, q2, q3, q4, q5, q6⟩
        · rw [if_pos q1]
        · rw [if_neg (show ¬ x.2.1 2 3 = 0 by rw [q1]; decide), Int32.le_iff_toInt_le, Int32.le_iff_toInt_le, i32_succ (b := 100) (by rw [show (100 : Int32).toInt = 100 from rfl]; omega), show (0 : Int32).toInt = 0 from rfl]
          omega
      by_cases hl2 : fX9_length x ≤ 0
      · have ek : fX11_clearKey (nI n) y = (fX11_drop (nI n) y, 1) := by
          unfold fX11_clearKey
          rw [tn hn, ← h.ph, if_neg a5, if_pos (hl.mp hl2)]
        rw [e98 _ one_ne rfl ek, if_pos hl2]
        exact sr_drop hn hG h lf p10 hok
      · have ek : fX11_clearKey (nI n) y = (fX11_clear (nI n) y, 1) := by
          unfold fX11_clearKey
          rw [tn hn, ← h.ph, if_neg a5, if_neg (fun q => hl2 (hl.mpr q))]
        rw [e98 _ one_ne rfl ek, if_neg hl2]
        unfold fX11_clear
        rw [tn hn]
        exact ⟨hG, ⟨h.ph, h.al, h.st, h.wa, h.dn, h.cf, h.we, h.am, h.ra, h.le, h.ma, h.de, h.bo, h.fl, h.pr, h.ti, h.bu, h.ai, h.op, h.su, h.co, h.at_, h.pd, h.la, (by show tyr 0 0 0 0 (va_up (y.1 41) n 0 n) (va_up (y.1 42) n 0 n) (va_up (y.1 43) n (-1) n); rw [va_up_self, va_up_self, va_up_self]; exact tyr_0), (fun _ => rfl), h.ed, h.ru, h.nu, h.re, h.r1, h.r2⟩, lf, p10, Or.inr ⟨one_ne, rfl⟩, rfl⟩
end S4
