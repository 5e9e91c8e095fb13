theorem pj_13 {p1 w : Int32} {y : RS} : fX11_press_J25 p1 13 y w = ((fX11_begin p1 y).1, ((fX11_begin p1 y).2)) := by
  unfold fX11_press_J25
  rw [if_neg (show ¬ (13 : Int32) = 11 by decide), if_neg (show ¬ (13 : Int32) = 12 by decide), if_pos rfl]
theorem pr_13 {p1 : Int32} {y : RS} : fX11_press p1 13 y = ((fX11_begin p1 y).1, ((fX11_begin p1 y).2)) := by
  unfold fX11_press fX11_press_J24
  rw [pj_13, pj_13, ite_self, ite_self]
theorem pj_14 {p1 w : Int32} {y : RS} : fX11_press_J25 p1 14 y w = ((fX11_run p1 y).1, ((fX11_run p1 y).2)) := by
  unfold fX11_press_J25
  rw [if_neg (show ¬ (14 : Int32) = 11 by decide), if_neg (show ¬ (14 : Int32) = 12 by decide), if_neg (show ¬ (14 : Int32) = 13 by decide), if_pos rfl]
theorem pr_14 {p1 : Int32} {y : RS} : fX11_press p1 14 y = ((fX11_run p1 y).1, ((fX11_run p1 y).2)) := by
  unfold fX11_press fX11_press_J24
  rw [pj_14, pj_14, ite_self, ite_self]
theorem pj_15 {p1 w : Int32} {y : RS} : fX11_press_J25 p1 15 y w = ((fX11_stop p1 y).1, ((fX11_stop p1 y).2)) := by
  unfold fX11_press_J25
  rw [if_neg (show ¬ (15 : Int32) = 11 by decide), if_neg (show ¬ (15 : Int32) = 12 by decide), if_neg (show ¬ (15 : Int32) = 13 by decide), if_neg (show ¬ (15 : Int32) = 14 by decide), if_pos rfl]
theorem pr_15 {p1 : Int32} {y : RS} : fX11_press p1 15 y = ((fX11_stop p1 y).1, ((fX11_stop p1 y).2)) := by
  unfold fX11_press fX11_press_J24
  rw [pj_15, pj_15, ite_self, ite_self]
theorem pj_16 {p1 w : Int32} {y : RS} : fX11_press_J25 p1 16 y w = ((fX11_acknowledge p1 y).1, ((fX11_acknowledge p1 y).2)) := by
  unfold fX11_press_J25
  rw [if_neg (show ¬ (16 : Int32) = 11 by decide), if_neg (show ¬ (16 : Int32) = 12 by decide), if_neg (show ¬ (16 : Int32) = 13 by decide), if_neg (show ¬ (16 : Int32) = 14 by decide), if_neg (show ¬ (16 : Int32) = 15 by decide), if_pos rfl]
theorem pr_16 {p1 : Int32} {y : RS} : fX11_press p1 16 y = ((fX11_acknowledge p1 y).1, ((fX11_acknowledge p1 y).2)) := by
  unfold fX11_press fX11_press_J24
  rw [pj_16, pj_16, ite_self, ite_self]
theorem pj_17 {p1 w : Int32} {y : RS} : fX11_press_J25 p1 17 y w = (if (y.1 13 p1.toNatClampNeg) = 5 then (((fX11_go p1 4 (fX11_note 2 p1 (y.1 40 p1.toNatClampNeg) y)), 1)) else ((y, 0))) := by
  unfold fX11_press_J25
  rw [if_neg (show ¬ (17 : Int32) = 11 by decide), if_neg (show ¬ (17 : Int32) = 12 by decide), if_neg (show ¬ (17 : Int32) = 13 by decide), if_neg (show ¬ (17 : Int32) = 14 by decide), if_neg (show ¬ (17 : Int32) = 15 by decide), if_neg (show ¬ (17 : Int32) = 16 by decide), if_pos rfl]
theorem pr_17 {p1 : Int32} {y : RS} : fX11_press p1 17 y = (if (y.1 13 p1.toNatClampNeg) = 5 then (((fX11_go p1 4 (fX11_note 2 p1 (y.1 40 p1.toNatClampNeg) y)), 1)) else ((y, 0))) := by
  unfold fX11_press fX11_press_J24
  rw [pj_17, pj_17, ite_self, ite_self]
theorem pj_18 {p1 w : Int32} {y : RS} : fX11_press_J25 p1 18 y w = ((fX11_beginBolus p1 y).1, ((fX11_beginBolus p1 y).2)) := by
  unfold fX11_press_J25
  rw [if_neg (show ¬ (18 : Int32) = 11 by decide), if_neg (show ¬ (18 : Int32) = 12 by decide), if_neg (show ¬ (18 : Int32) = 13 by decide), if_neg (show ¬ (18 : Int32) = 14 by decide), if_neg (show ¬ (18 : Int32) = 15 by decide), if_neg (show ¬ (18 : Int32) = 16 by decide), if_neg (show ¬ (18 : Int32) = 17 by decide), if_pos rfl]
theorem pr_18 {p1 : Int32} {y : RS} : fX11_press p1 18 y = ((fX11_beginBolus p1 y).1, ((fX11_beginBolus p1 y).2)) := by
  unfold fX11_press fX11_press_J24
  rw [pj_18, pj_18, ite_self, ite_self]
theorem pj_19 {p1 w : Int32} {y : RS} : fX11_press_J25 p1 19 y w = ((sR y 0 49 ((y.1 0 45) + 120)), 1) := by
  unfold fX11_press_J25
  rw [if_neg (show ¬ (19 : Int32) = 11 by decide), if_neg (show ¬ (19 : Int32) = 12 by decide), if_neg (show ¬ (19 : Int32) = 13 by decide), if_neg (show ¬ (19 : Int32) = 14 by decide), if_neg (show ¬ (19 : Int32) = 15 by decide), if_neg (show ¬ (19 : Int32) = 16 by decide), if_neg (show ¬ (19 : Int32) = 17 by decide), if_neg (show ¬ (19 : Int32) = 18 by decide), if_pos rfl]
theorem pr_19 {p1 : Int32} {y : RS} : fX11_press p1 19 y = ((sR y 0 49 ((y.1 0 45) + 120)), 1) := by
  unfold fX11_press fX11_press_J24
  rw [pj_19, pj_19, ite_self, ite_self]
theorem pj_20 {p1 w : Int32} {y : RS} : fX11_press_J25 p1 20 y w = ((sR y 0 48 (((y.1 0 48) + 1) - ((y.1 0 48) + 1) / 3 * 3)), 1) := by
  unfold fX11_press_J25
  rw [if_neg (show ¬ (20 : Int32) = 11 by decide), if_neg (show ¬ (20 : Int32) = 12 by decide), if_neg (show ¬ (20 : Int32) = 13 by decide), if_neg (show ¬ (20 : Int32) = 14 by decide), if_neg (show ¬ (20 : Int32) = 15 by decide), if_neg (show ¬ (20 : Int32) = 16 by decide), if_neg (show ¬ (20 : Int32) = 17 by decide), if_neg (show ¬ (20 : Int32) = 18 by decide), if_neg (show ¬ (20 : Int32) = 19 by decide), if_pos rfl]
theorem pr_20 {p1 : Int32} {y : RS} : fX11_press p1 20 y = ((sR y 0 48 (((y.1 0 48) + 1) - ((y.1 0 48) + 1) / 3 * 3)), 1) := by
  unfold fX11_press fX11_press_J24
  rw [pj_20, pj_20, ite_self, ite_self]
theorem pj_21 {p1 w : Int32} {y : RS} : fX11_press_J25 p1 21 y w = (if (y.1 13 p1.toNatClampNeg) = 6 then (fX11_press_J225 p1 21 y) else (if (y.1 13 p1.toNatClampNeg) = 8 then (fX11_press_J225 p1 21 y) else ((y, 0)))) := by
  unfold fX11_press_J25
  rw [if_neg (show ¬ (21 : Int32) = 11 by decide), if_neg (show ¬ (21 : Int32) = 12 by decide), if_neg (show ¬ (21 : Int32) = 13 by decide), if_neg (show ¬ (21 : Int32) = 14 by decide), if_neg (show ¬ (21 : Int32) = 15 by decide), if_neg (show ¬ (21 : Int32) = 16 by decide), if_neg (show ¬ (21 : Int32) = 17 by decide), if_neg (show ¬ (21 : Int32) = 18 by decide), if_neg (show ¬ (21 : Int32) = 19 by decide), if_neg (show ¬ (21 : Int32) = 20 by decide), if_pos rfl]
theorem pr_21 {p1 : Int32} {y : RS} : fX11_press p1 21 y = (if (y.1 13 p1.toNatClampNeg) = 6 then (fX11_press_J225 p1 21 y) else (if (y.1 13 p1.toNatClampNeg) = 8 then (fX11_press_J225 p1 21 y) else ((y, 0)))) := by
  unfold fX11_press fX11_press_J24
  rw [pj_21, pj_21, ite_self, ite_self]
/-! keys that change the phase -/
def SR (n : Nat) (x : FS) (tm : Int32) (q : FS × Int32) (r : RS × Int32) : Prop := G q.1 r.1 ∧ CH 0 n q.1.2.1 r.1 tm ∧ LF q.1.2.1 ∧ P10 q.1.2.1 ∧ ((r.2 = 0 ∧ q.2 = -1 ∧ q.1.2.1 0 6 = x.2.1 0 6) ∨ (¬ r.2 = 0 ∧ q.2 = q.1.2.1 0 6)) ∧ q.1.2.1 1 6 = x.2.1 1 6
theorem one_ne : ¬ (1 : Int32) = 0 := by decide
section S2
variable {n T B : Nat} {x : FS} {y : RS} {tm : Int32}
theorem sr_no (hG : G x y) (h : CH 0 n x.2.1 y tm) (lf : LF x.2.1) (p10 : P10 x.2.1) : SR n x tm (x, -1) (y, 0) := ⟨hG, h, lf, p10, Or.inl ⟨rfl, rfl, rfl⟩, rfl⟩
/-- a note as the last thing on both sides -/
theorem sr_note {Z : FS} {W : RS} {a v r : Int32} (hZ : G Z W) (he : 0 ≤ (W.1 0 50).toInt) (hC : CH 0 n Z.2.1 W tm) (lf : LF Z.2.1) (p10 : P10 Z.2.1) (hi : Z.2.1 1 6 = x.2.1 1 6) (hr : ¬ r = 0) : SR n x tm (fX10_note n a v Z, (fX10_note n a v Z).2.1 0 6) (fX11_note a (nI n) v W, r) := by
  have e := note_c (n := n) (a := a) (v := v) hZ he
  refine ⟨s_note hZ he, ?_, ?_, ?_, Or.inr ⟨hr, rfl⟩, ?_⟩
  · show CH 0 n (fX10_note n a v Z).2.1 _ tm
    rw [e]; exact ch_note hC
  · show LF (fX10_note n a v Z).2.1
    rw [e]; exact lf
  · show P10 (fX10_note n a v Z).2.1
    rw [e]; exact p10
  · show (fX10_note n a v Z).2.1 1 6 = _
    rw [e]; exact hi
theorem G_r {Y : RS} {o k : Nat} {v : Int32} (ho : o ≠ 0) (ho2 : o ≠ 45) (h : G x Y) : G x (sR Y o k v) := by
  have e0 : (sR Y o k v).1 0 = Y.1 0 := va_up_ne _ _ (Ne.symm ho)
  have e45 : (sR Y o k v).1 45 = Y.1 45 := va_up_ne _ _ (Ne.symm ho2)
  unfold G
  rw [e0, e45]
  exact h
theorem G_go {Y : RS} {v p1 : Int32} (h : G x Y) : G x (fX11_go p1 v Y) := by
  unfold fX11_go fX11_clear
  exact G_r (by decide) (by decide) (G_r (by decide) (by decide) (G_r (by decide) (by decide) (G_r (by decide) (by decide) h)))
theorem ch_drop {b : Nat} (hn : n < 3) (h : CH b n x.2.1 y tm) : CH b n (fX1_goTo (x.2.1 1 3) (fX3_forgetDrug n x)).2.1 (fX11_go (nI n) (x.2.1 1 3) y) tm := by
  have hfr := h.ru.2.2.2
  have q7 : ¬ x.2.1 1 3 = 7 := by rcases hfr with q | q | q <;> rw [q] <;> decide
  have q8 : 0 ≤ (x.2.1 1 3).toInt ∧ (x.2.1 1 3).toInt ≤ 8 ∧ ¬ (2 ≤ (x.2.1 1 3).toInt ∧ (x.2.1 1 3).toInt ≤ 5) := by rcases hfr with q | q | q <;> rw [q] <;> decide
  unfold fX11_go fX11_clear
  rw [tn hn]
  exact ⟨(by show x.2.1 1 3 = va_up (y.1 13) n _ n; rw [va_up_self]), h.al, h.st, h.wa, h.dn, h.cf, h.we, h.am, h.ra, h.le, h.ma, h.de, h.bo, h.fl, h.pr, h.ti, h.bu, h.ai, h.op, h.su, h.co, h.at_, h.pd, h.la, (by show tyr 0 0 0 0 (va_up (y.1 41) n 0 n) (va_up (y.1 42) n 0 n) (va_up (y.1 43) n (-1) n); rw [va_up_self, va_up_self, va_up_self]; exact tyr_0), (fun _ => rfl), ⟨fun q => absurd q q8.2.2, fun _ => rfl⟩, ⟨fun q => absurd q q7, q8.1, q8.2.1, h.ru.2.2.2⟩, h.nu, (fun q1 q2 => absurd ⟨Int.le_trans (by decide) q1, q2⟩ q8.2.2), h.r1, h.r2⟩
theorem s_drop {b : Nat} (hn : n < 3) (hG : G x y) (h : CH b n x.2.1 y tm) (hok : okR T B y) : G (fX10_dropEntry n x) (fX11_drop (nI n) y) ∧ CH b n (fX10_dropEntry n x).2.1 (fX11_drop (nI n) y) tm ∧ (fX10_dropEntry n x).2.1 = (fX1_goTo (x.2.1 1 3) (fX3_forgetDrug n x)).2.1 := by
  have he : 0 ≤ (y.1 0 50).toInt := hok.2.1.1
  have hZ : G (fX1_goTo (x.2.1 1 3) (fX3_forgetDrug n x)) y := hG
  have hN := s_note (n := n) (a := 9) (v := x.2.1 0 6) hZ he
  have hC := note_c (n := n) (a := 9) (v := x.2.1 0 6) hZ he
  have hD := ch_drop hn (ch_note (k := 9) (d := nI n) (v := x.2.1 0 6) h)
  have ef : (fX11_note 9 (nI n) (x.2.1 0 6) y).1 14 n = x.2.1 1 3 := h.cf.symm
  have ef2 : (fX3_forgetDrug n x).2.1 1 3 = x.2.1 1 3 := rfl
  unfold fX10_dropEntry fX11_drop
  rw [tn hn, ← h.ph, ef, ef2]
  refine ⟨G_go hN, ?_, hC⟩
  rw [hC]
  exact hD
theorem canrun_eq {b : Nat} (hn : n < 3) (h : CH b n x.2.1 y tm) : fX1_canRun x = fX11_mayRun (nI n) y := by
  unfold fX1_canRun fX1_isAtRest fX11_mayRun fX11_mayRun_J22
  rw [tn hn, ← h.ph, ← h.al, ← h.op]
  by_cases a : x.2.1 0 6 = 6 <;> by_cases a' : x.2.1 0 6 = 8 <;> simp [a, a']
theorem canrun_ne (hr : ¬ fX1_canRun x = 0) : (x.2.1 0 6 = 6 ∨ x.2.1 0 6 = 8) ∧ x.2.1 0 7 &&& 31 = 0 ∧ x.2.1 9 6 = 0 := by
  unfold fX1_canRun fX1_isAtRest at hr
  by_cases a : x.2.1 0 6 = 6
  · by_cases q : x.2.1 0 7 &&& 31 = 0
    · by_cases q2 : x.2.1 9 6 = 0
      · exact ⟨Or.inl a, q, q2⟩
      · simp [a, q, q2] at hr
    · simp [a, q] at hr
  · by_cases a' : x.2.1 0 6 = 8
    · by_cases q : x.2.1 0 7 &&& 31 = 0
      · by_cases q2 : x.2.1 9 6 = 0
        · exact ⟨Or.inr a', q, q2⟩
        · simp [a', q, q2] at hr
      · simp [a', q] at hr
    · simp [a, a'] at hr
theorem rest_ph (h : x.2.1 0 6 = 6 ∨ x.2.1 0 6 = 8) : ¬ (1 ≤ (x.2.1 0 6).toInt ∧ (x.2.1 0 6).toInt ≤ 4) ∧ ¬ (2 ≤ (x.2.1 0 6).toInt ∧ (x.2.1 0 6).toInt ≤ 5) := by
  rcases h with q | q <;> rw [q] <;> decide
/-- the channel begins to run -/
theorem s_start {b : Nat} (hn : n < 3) (hG : G x y) (h : CH b n x.2.1 y tm) (hr : ¬ fX1_canRun x = 0) : G (sC (sC x 0 6 7) 0 9 0) (sR (sR y 13 n 7) 29 n 0) ∧ CH b n (sC (sC x 0 6 7) 0 9 0).2.1 (sR (sR y 13 n 7) 29 n 0) tm := by
  obtain ⟨h1, h2, h3⟩ := canrun_ne hr
  have h4 := rest_ph h1
  exact ⟨hG, ⟨(by show (7 : Int32) = va_up (y.1 13) n 7 n; rw [va_up_self]), h.al, h.st, (by show (0 : Int32) = va_up (y.1 29) n 0 n; rw [va_up_self]), h.dn, h.cf, h.we, h.am, h.ra, h.le, h.ma, h.de, h.bo, h.fl, h.pr, h.ti, h.bu, h.ai, h.op, h.su, h.co, h.at_, h.pd, h.la, h.ty, (fun _ => h.tc h4.1), ⟨fun q => absurd q (by show ¬ (2 ≤ (7 : Int32).toInt ∧ (7 : Int32).toInt ≤ 5); decide), fun _ => h.ed.2 h4.2⟩, ⟨fun _ => h2, by show 0 ≤ (7 : Int32).toInt; decide, by show (7 : Int32).toInt ≤ 8; decide, h.ru.2.2.2⟩, h.nu, (fun _ q => absurd q (by show ¬ (7 : Int32).toInt ≤ 5; decide)), h.r1, h.r2⟩⟩
theorem sr_run (hn : n < 3) (hG : G x y) (h : CH 0 n x.2.1 y tm) (lf : LF x.2.1) (p10 : P10 x.2.1) (hok : okR T B y) : SR n x tm (fX10_pressRun n x) (fX11_run (nI n) y) := by
  unfold fX10_pressRun fX11_run
  rw [← canrun_eq hn h, tn hn]
  by_cases hr : fX1_canRun x = 0
  · rw [if_pos hr, if_pos hr]; exact sr_no hG h lf p10
  · rw [if_neg hr, if_neg hr, ← h.ra]
    obtain ⟨g1, g2⟩ := s_start hn hG h hr
    exact sr_note (a := 3) (v := x.2.1 4 1) g1 (show 0 ≤ (y.1 0 50).toInt from hok.2.1.1) g2 lf p10 rfl (by decide)
theorem sr_begin (hn : n < 3) (hG : G x y) (h : CH 0 n x.2.1 y tm) (lf : LF x.2.1) (p10 : P10 x.2.1) : SR n x tm (fX10_pressBegin x) (fX11_begin (nI n) y) := by
  have key : (x.2.1 0 6 = 0 ∨ x.2.1 0 6 = 6 ∨ x.2.1 0 6 = 8) → SR n x tm (fX10_pressBegin_J16 x) (fX11_begin_J33 (nI n) y) := by
    intro hq
    have h4 : ¬ (2 ≤ (x.2.1 0 6).toInt ∧ (x.2.1 0 6).toInt ≤ 5) := by rcases hq with q | q | q <;> rw [q] <;> decide
    unfold fX10_pressBegin_J16 fX11_begin_J33 fX11_go fX11_clear
    rw [tn hn]
    exact ⟨hG, ⟨(by show (1 : Int32) = va_up (y.1 13) n _ n; rw [va_up_self]), h.al, h.st, (by show (0 : Int32) = va_up (y.1 29) n 0 n; rw [va_up_self]), h.dn, (by show x.2.1 0 6 = va_up (y.1 14) n (y.1 13 n) n; rw [va_up_self]; exact h.ph), h.we, h.am, h.ra, h.le, h.ma, h.de, h.bo, h.fl, h.pr, h.ti, h.bu, h.ai, h.op, h.su, h.co, h.at_, h.pd, h.la, (by show tyr 0 0 0 0 (va_up (y.1 41) n 0 n) (va_up (y.1 42) n 0 n) (va_up (y.1 43) n (-1) n); rw [va_up_self, va_up_self, va_up_self]; exact tyr_0), (fun _ => rfl), ⟨fun q => absurd q (by show ¬ (2 ≤ (1 : Int32).toInt ∧ (1 : Int32).toInt ≤ 5); decide), fun _ => h.ed.2 h4⟩, ⟨fun q => absurd q (by show ¬ (1 : Int32) = 7; decide), by show 0 ≤ (1 : Int32).toInt; decide, by show (1 : Int32).toInt ≤ 8; decide, hq⟩, h.nu, (fun q _ => absurd q (by show ¬ 4 ≤ (1 : Int32).toInt; decide)), h.r1, h.r2⟩, lf, p10, Or.inr ⟨one_ne, rfl⟩, rfl⟩
  unfold fX10_pressBegin fX1_isAtRest fX11_begin
  rw [tn hn, ← h.ph]
  by_cases a : x.2.1 0 6 = 0
  · have a1 : ¬ x.2.1 0 6 = 6 := by rw [a]; decide
    have a2 : ¬ x.2.1 0 6 = 8 := by rw [a]; decide
    rw [if_neg a1, if_neg a2, if_pos rfl, if_pos a, if_pos a]
    exact key (Or.inl a)
  · by_cases a1 : x.2.1 0 6 = 6
    · rw [if_pos a1, if_neg (show ¬ (1 : Int32) = 0 by decide), if_neg a, if_pos a1]
      exact key (Or.inr (Or.inl a1))
    · by_cases a2 : x.2.1 0 6 = 8
      · rw [if_neg a1, if_pos a2, if_neg (show ¬ (1 : Int32) = 0 by decide), if_neg a, if_neg a1, if_pos a2]
        exact key (Or.inr (Or.inr a2))
      · rw [if_neg a1, if_neg a2, if_pos rfl, if_neg a, if_neg a, if_neg a1, if_neg a2]
        exact sr_no hG h lf p10
theorem s_hold {b : Nat} (hG : G x y) (h : CH b n x.2.1 y tm) (h7 : x.2.1 0 6 = 7) : G (fX1_hold x) (sR (sR y 13 n 8) 20 n 0) ∧ CH 0 n (fX1_hold x).2.1 (sR (sR y 13 n 8) 20 n 0) tm := by
  have h9 := phi (k := 7) rfl h7
  exact ⟨hG, ⟨(by show (8 : Int32) = va_up (y.1 13) n 8 n; rw [va_up_self]), h.al, h.st, h.wa, h.dn, h.cf, h.we, h.am, h.ra, h.le, h.ma, h.de, (by show bor 0 0 (va_up (y.1 20) n 0 n); rw [va_up_self]; exact ⟨rfl, by decide, by decide⟩), h.fl, h.pr, h.ti, h.bu, h.ai, h.op, h.su, h.co, h.at_, h.pd, h.la, h.ty, (fun _ => h.tc (by rw [h9]; decide)), ⟨fun q => absurd q (by show ¬ (2 ≤ (8 : Int32).toInt ∧ (8 : Int32).toInt ≤ 5); decide), fun _ => h.ed.2 (by rw [h9]; decide)⟩, ⟨fun q => absurd q (by show ¬ (8 : Int32) = 7; decide), by show 0 ≤ (8 : Int32).toInt; decide, by show (8 : Int32).toInt ≤ 8; decide, h.ru.2.2.2⟩, h.nu, (fun _ q => absurd q (by show ¬ (8 : Int32).toInt ≤ 5; decide)), h.r1, h.r2⟩⟩
theorem sr_drop (hn : n < 3) (hG : G x y) (h : CH 0 n x.2.1 y tm) (lf : LF x.2.1) (p10 : P10 x.2.1) (hok : okR T B y) : SR n x tm (fX10_dropEntry n x, (fX10_dropEntry n x).2.1 0 6) (fX11_drop (nI n) y, 1) := by
  obtain ⟨g1, g2, g3⟩ := s_drop hn hG h hok
  refine ⟨g1, g2, ?_, ?_, Or.inr ⟨one_ne, rfl⟩, ?_⟩
  · show LF (fX10_dropEntry n x).2.1
    rw [g3]; exact lf
  · show P10 (fX10_dropEntry n x).2.1
    rw [g3]; exact p10
  · show (fX10_dropEntry n x).2.1 1 6 = _
    rw [g3]; rfl
theorem ent_eq {b : Nat} (hn : n < 3) (h : CH b n x.2.1 y tm) : fX1_hasEntry x = fX11_isEntry (nI n) y := by
  unfold fX1_hasEntry fX11_isEntry
  rw [tn hn, ← h.ph]
theorem sr_stop (hn : n < 3) (hG : G x y) (h : CH 0 n x.2.1 y tm) (lf : LF x.2.1) (p10 : P10 x.2.1) (hok : okR T B y) : SR n x tm (fX10_pressStop n x) (fX11_stop (nI n) y) := by
  unfold fX10_pressStop fX10_pressStop_J46 fX11_stop
  rw [← ent_eq hn h, tn hn, ← h.ph]
  by_cases a : x.2.1 0 6 = 7
  · rw [if_pos a, if_pos a, ← h.ma]
    obtain ⟨g1, g2⟩ := s_hold hG h a
    exact sr_note (a := 4) (v := x.2.1 4 3) g1 (show 0 ≤ (y.1 0 50).toInt from hok.2.1.1) g2 lf p10 rfl (by decide)
  · rw [if_neg a, if_neg a]
    by_cases q : fX1_hasEntry x = 0
    · rw [if_pos q, if_pos q]; exact sr_no hG h lf p10
    · rw [if_neg q, if_neg q]; exact sr_drop hn hG h lf p10 hok
theorem ch_go {b : Nat} {v : Int32} (hn : n < 3) (h : CH b n x.2.1 y tm) (hed : edr n v (x.2.1 1 2) (y.1 38 n)) (hru : rur v (x.2.1 0 7) (x.2.1 1 3)) (hre : rer v (y.1 2 (x.2.1 1 2).toNatClampNeg) (y.1 3 (x.2.1 1 2).toNatClampNeg) (x.2.1 1 5) (x.2.1 1 4)) : CH b n (fX1_goTo v x).2.1 (fX11_go (nI n) v y) tm := by
  unfold fX11_go fX11_clear
  rw [tn hn]
  exact ⟨(by show v = va_up (y.1 13) n _ n; rw [va_up_self]), h.al, h.st, h.wa, h.dn, h.cf, h.we, h.am, h.ra, h.le, h.ma, h.de, h.bo, h.fl, h.pr, h.ti, h.bu, h.ai, h.op, h.su, h.co, h.at_, h.pd, h.la, (by show tyr 0 0 0 0 (va_up (y.1 41) n 0 n) (va_up (y.1 42) n 0 n) (va_up (y.1 43) n (-1) n); rw [va_up_self, va_up_self, va_up_self]; exact tyr_0), (fun _ => rfl), hed, hru, h.nu, hre, h.r1, h.r2⟩
theorem sr_over (hn : n < 3) (hG : G x y) (h : CH 0 n x.2.1 y tm) (lf : LF x.2.1) (p10 : P10 x.2.1) (hok : okR T B y) : SR n x tm (fX10_pressOver n x) (fX11_press (nI n) 17 y) := by
  rw [pr_17]
  unfold fX10_pressOver
  rw [tn hn, ← h.ph]
  by_cases a : x.2.1 0 6 = 5
  · rw [if_pos a, if_pos a, ← h.am]
    have h9 := phi (k := 5) rfl a
    have hZ : G (fX1_goTo 4 x) y := hG
    have he : 0 ≤ (y.1 0 50).toInt := hok.2.1.1
    have hN := s_note (n := n) (a := 2) (v := x.2.1 1 5) hZ he
    have hC := note_c (n := n) (a := 2) (v := x.2.1 1 5) hZ he
    have g2 : CH 0 n (fX1_goTo 4 x).2.1 (fX11_go (nI n) 4 (fX11_note 2 (nI n) (x.2.1 1 5) y)) tm := ch_go hn (ch_note h) ⟨fun _ => h.ed.1 (by rw [h9]; decide), fun q => absurd (show (2 : Int) ≤ (4 : Int32).toInt ∧ (4 : Int32).toInt ≤ 5 by decide) q⟩ ⟨fun q => absurd q (by decide), by decide, by decide, h.ru.2.2.2⟩ (fun _ _ => h.re (by rw [h9]; decide) (by rw [h9]; decide))
    refine ⟨G_go hN, ?_, ?_, ?_, Or.inr ⟨one_ne, rfl⟩, ?_⟩
    · show CH 0 n (fX10_note n 2 (x.2.1 1 5) (fX1_goTo 4 x)).2.1 _ tm
      rw [hC]; exact g2
    · show LF (fX10_note n 2 (x.2.1 1 5) (fX1_goTo 4 x)).2.1
      rw [hC]; exact lf
    · show P10 (fX10_note n 2 (x.2.1 1 5) (fX1_goTo 4 x)).2.1
      rw [hC]; exact p10
    · show (fX10_note n 2 (x.2.1 1 5) (fX1_goTo 4 x)).2.1 1 6 = _
      rw [hC]; rfl
  · rw [if_neg a, if_neg a]; exact sr_no hG h lf p10
theorem sr_relay (hn : n < 3) (hG : G x y) (h : CH 0 n x.2.1 y tm) (lf : LF x.2.1) (p10 : P10 x.2.1) : SR n x tm (fX10_pressRelay x) (fX11_press (nI n) 21 y) := by
  rw [pr_21]
  have key : SR n x tm (if x.2.1 0 9 = 0 then (sC x 0 9 1, x.2.1 0 6) else (sC x 0 9 0, x.2.1 0 6)) (fX11_press_J225 (nI n) 21 y) := by
    unfold fX11_press_J225
    rw [tn hn, ← h.wa]
    by_cases q : x.2.1 0 9 = 0
    · rw [if_pos q, if_pos q]
      exact ⟨hG, ⟨h.ph, h.al, h.st, (by show (1 : Int32) = va_up (y.1 29) n 1 n; rw [va_up_self]), h.dn, h.cf, h.we, h.am, h.ra, h.le, h.ma, h.de, h.bo, h.fl, h.pr, h.ti, h.bu, h.ai, h.op, h.su, h.co, h.at_, h.pd, h.la, h.ty, h.tc, h.ed, h.ru, h.nu, h.re, h.r1, h.r2⟩, lf, p10, Or.inr ⟨one_ne, rfl⟩, rfl⟩
    · rw [if_neg q, if_neg q]
      exact ⟨hG, ⟨h.ph, h.al, h.st, (by show (0 : Int32) = va_up (y.1 29) n 0 n; rw [va_up_self]), h.dn, h.cf, h.we, h.am, h.ra, h.le, h.ma, h.de, h.bo, h.fl, h.pr, h.ti, h.bu, h.ai, h.op, h.su, h.co, h.at_, h.pd, h.la, h.ty, h.tc, h.ed, h.ru, h.nu, h.re, h.r1, h.r2⟩, lf, p10, Or.inr ⟨one_ne, rfl⟩, rfl⟩
  unfold fX10_pressRelay fX1_isAtRest
  rw [tn hn, ← h.ph]
  by_cases a1 : x.2.1 0 6 = 6
  · rw [if_pos a1, if_neg (show ¬ (1 : Int32) = 0 by decide), if_pos a1]; exact key
  · by_cases a2 : x.2.1 0 6 = 8
    · rw [if_neg a1, if_pos a2, if_neg (show ¬ (1 : Int32) = 0 by decide), if_neg a1, if_pos a2]; exact key
    · rw [if_neg a1, if_neg a2, if_pos rfl, if_neg a1, if_neg a2]; exact sr_no hG h lf p10
end S2
