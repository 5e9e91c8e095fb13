/-! lines, entries, a channel's tick -/
section S16
variable {n T B : Nat} {x : FS} {y : RS} {tm : Int32} {gd : Nat → Nat → Int32}
theorem lin_ch {P w : Int32} (h : CH 0 n x.2.1 y tm) : CH 0 n (sC (sC x 9 2 P) 9 3 w).2.1 (sR (sR y 25 n P) 26 n w) tm := ⟨h.ph, h.al, h.st, h.wa, h.dn, h.cf, h.we, h.am, h.ra, h.le, h.ma, h.de, h.bo, h.fl, (by show P = va_up (y.1 25) n P n; rw [va_up_self]), (by show w = va_up (y.1 26) n w n; rw [va_up_self]), h.bu, h.ai, h.op, h.su, h.co, h.at_, h.pd, h.la, h.ty, h.tc, h.ed, h.ru, h.nu, h.re, h.r1, h.r2⟩
/-- what lines leave -/
def LR (n : Nat) (x : FS) (tm : Int32) (X : FS) (Y : RS) : Prop := G X Y ∧ CH 0 n X.2.1 Y tm ∧ LF X.2.1 ∧ P10 X.2.1 ∧ X.2.1 1 6 = x.2.1 1 6 ∧ (X.2.1 0 6 = x.2.1 0 6 ∨ (x.2.1 0 6 = 7 ∧ X.2.1 0 6 = 8))
theorem s_lines (hn : n < 3) (hG : G x y) (h : CH 0 n x.2.1 y tm) (lf : LF x.2.1) (p10 : P10 x.2.1) (hok : okR T B y) : LR n x tm (if (fX6_drainAndTestBlocked x).2 = 0 then (fX6_drainAndTestBlocked x).1 else fX10_latch n 1 (fX6_drainAndTestBlocked x).1) (fX11_lines (nI n) y) := by
  have eP : fX11_most 0 (y.1 25 n - y.1 22 n) y = (if (0 : Int32) < (x.2.1 9 2 - x.2.1 9 1) then (x.2.1 9 2 - x.2.1 9 1) else (0 : Int32)) := by
    unfold fX11_most
    rw [← h.pr, ← h.fl]
    generalize x.2.1 9 2 - x.2.1 9 1 = d
    by_cases a1 : (0 : Int32) < d
    · rw [if_pos a1, if_pos (by rw [Int32.lt_iff_toInt_lt] at a1; rw [Int32.le_iff_toInt_le]; omega)]
    · rw [if_neg a1]
      by_cases a2 : (0 : Int32) ≤ d
      · rw [if_pos a2]
        rw [Int32.lt_iff_toInt_lt] at a1
        rw [Int32.le_iff_toInt_le] at a2
        exact i32_of (by omega)
      · rw [if_neg a2]
  unfold fX6_drainAndTestBlocked fX6_drainAndTestBlocked_J37 fX11_lines fX11_lines_J51
  rw [tn hn, eP]
  generalize (if (0 : Int32) < (x.2.1 9 2 - x.2.1 9 1) then (x.2.1 9 2 - x.2.1 9 1) else (0 : Int32)) = P
  have e25 : (sR y 25 n P).1 25 n = P := va_up_self _ _ _
  have e26 : ∀ w : Int32, (sR (sR y 25 n P) 26 n w).1 26 n = w := fun w => va_up_self _ _ _
  rw [e25, e26, e26, ← h.ti]
  have key : ∀ w : Int32, LR n x tm (if (if (3 : Int32) ≤ w then (sC (sC (sC (sC x 9 2 P) 9 3 w) 9 2 0) 9 3 0, (1 : Int32)) else (sC (sC x 9 2 P) 9 3 w, 0)).2 = 0 then (if (3 : Int32) ≤ w then (sC (sC (sC (sC x 9 2 P) 9 3 w) 9 2 0) 9 3 0, (1 : Int32)) else (sC (sC x 9 2 P) 9 3 w, 0)).1 else fX10_latch n 1 (if (3 : Int32) ≤ w then (sC (sC (sC (sC x 9 2 P) 9 3 w) 9 2 0) 9 3 0, (1 : Int32)) else (sC (sC x 9 2 P) 9 3 w, 0)).1) (if (3 : Int32) ≤ w then fX11_latch (nI n) 1 (sR (sR (sR (sR y 25 n P) 26 n w) 26 n 0) 25 n 0) else sR (sR y 25 n P) 26 n w) := by
    intro w
    by_cases a3 : (3 : Int32) ≤ w
    · rw [if_pos a3, if_pos a3]
      rw [if_neg one_ne]
      have h2 : CH 0 n (sC (sC (sC (sC x 9 2 P) 9 3 w) 9 2 0) 9 3 0).2.1 (sR (sR (sR (sR y 25 n P) 26 n w) 26 n 0) 25 n 0) tm := ⟨h.ph, h.al, h.st, h.wa, h.dn, h.cf, h.we, h.am, h.ra, h.le, h.ma, h.de, h.bo, h.fl, (by show (0 : Int32) = va_up _ n 0 n; rw [va_up_self]), (by show (0 : Int32) = va_up _ n 0 n; rw [va_up_self]), h.bu, h.ai, h.op, h.su, h.co, h.at_, h.pd, h.la, h.ty, h.tc, h.ed, h.ru, h.nu, h.re, h.r1, h.r2⟩
      have hG2 : G (sC (sC (sC (sC x 9 2 P) 9 3 w) 9 2 0) 9 3 0) (sR (sR (sR (sR y 25 n P) 26 n w) 26 n 0) 25 n 0) := G_r (by decide) (by decide) (G_r (by decide) (by decide) (G_r (by decide) (by decide) (G_r (by decide) (by decide) hG)))
      have hok2 : okR T B (sR (sR (sR (sR y 25 n P) 26 n w) 26 n 0) 25 n 0) := okR_sR rfl (okR_sR rfl (okR_sR rfl (okR_sR rfl hok)))
      have c1 : (sC (sC (sC (sC x 9 2 P) 9 3 w) 9 2 0) 9 3 0).2.1 0 6 = x.2.1 0 6 := rfl
      have c2 : (sC (sC (sC (sC x 9 2 P) 9 3 w) 9 2 0) 9 3 0).2.1 4 2 = x.2.1 4 2 := rfl
      have c3 : (sC (sC (sC (sC x 9 2 P) 9 3 w) 9 2 0) 9 3 0).2.1 10 3 = x.2.1 10 3 := rfl
      have c4 : (sC (sC (sC (sC x 9 2 P) 9 3 w) 9 2 0) 9 3 0).2.1 0 7 = x.2.1 0 7 := rfl
      have c5 : (sC (sC (sC (sC x 9 2 P) 9 3 w) 9 2 0) 9 3 0).2.1 1 6 = x.2.1 1 6 := rfl
      show LR n x tm (fX10_latch n 1 (sC (sC (sC (sC x 9 2 P) 9 3 w) 9 2 0) 9 3 0)) _
      generalize sC (sC (sC (sC x 9 2 P) 9 3 w) 9 2 0) 9 3 0 = X at h2 hG2 c1 c2 c3 c4 c5 ⊢
      generalize sR (sR (sR (sR y 25 n P) 26 n w) 26 n 0) 25 n 0 = Y at h2 hG2 hok2 ⊢
      obtain ⟨g1, g2, g3, g4, g5, g6⟩ := s_latch (p := 1) hn (by rw [vp_in_iff]; decide) hG2 h2 hok2
      rw [lb_0] at g2
      refine ⟨g1, g2, ?_, ?_, ?_, ?_⟩
      · unfold LF; rw [g3 4 2 (by decide) (by decide), c2]; exact lf
      · unfold P10
        rw [g3 10 3 (by decide) (by decide), c3]
        rcases p10 with q | q
        · exact Or.inl q
        · exact Or.inr (g6 (by rw [c4]; exact q))
      · rw [g3 1 6 (by decide) (by decide), c5]
      · rw [g4, c1]
        by_cases q7 : x.2.1 0 6 = 7
        · rw [if_pos ⟨by decide, q7⟩]; exact Or.inr ⟨q7, rfl⟩
        · rw [if_neg (fun q => q7 q.2)]; exact Or.inl rfl
    · rw [if_neg a3, if_neg a3]
      rw [if_pos rfl]
      exact ⟨G_r (by decide) (by decide) (G_r (by decide) (by decide) hG), lin_ch h, lf, p10, rfl, Or.inl rfl⟩
  by_cases a1 : P < 100
  · rw [if_pos a1, if_pos a1]; exact key 0
  · rw [if_neg a1, if_neg a1]; exact key (x.2.1 9 3 + 1)
/-- the entry's tick -/
theorem s_entry {tm0 : Int32} (hn : n < 3) (hG : G x y) (htm : x.1 0 3 = tm) (htm0 : tm.toInt = tm0.toInt + 1) (h : CH 0 n x.2.1 y tm) (lf : LF x.2.1) (p10 : P10 x.2.1) (hid : ID n x.2.1 y tm0) (hok : okR T B y) : G (if fX1_hasEntry x = 0 then x else fX10_passEntry n x) (if fX11_isEntry (nI n) y = 0 then y else (if (y.1 0 45 - y.1 44 n) < 60 then y else fX11_drop (nI n) y)) ∧ CC n (if fX1_hasEntry x = 0 then x else fX10_passEntry n x).2.1 (if fX11_isEntry (nI n) y = 0 then y else (if (y.1 0 45 - y.1 44 n) < 60 then y else fX11_drop (nI n) y)) tm := by
  rw [← ent_eq hn h]
  by_cases e0 : fX1_hasEntry x = 0
  · rw [if_pos e0, if_pos e0]
    refine ⟨hG, h, lf, p10, fun q1 q2 => ?_⟩
    unfold fX1_hasEntry at e0
    rw [if_neg (by rw [Int32.lt_iff_toInt_lt, show (1 : Int32).toInt = 1 from rfl]; omega), if_neg (by rw [Int32.lt_iff_toInt_lt, show (5 : Int32).toInt = 5 from rfl]; omega)] at e0
    exact absurd e0 one_ne
  · rw [if_neg e0, if_neg e0]
    have hph : 1 ≤ (x.2.1 0 6).toInt ∧ (x.2.1 0 6).toInt ≤ 5 := by
      unfold fX1_hasEntry at e0
      by_cases a : x.2.1 0 6 < 1
      · rw [if_pos a] at e0; exact absurd rfl e0
      · rw [if_neg a] at e0
        by_cases a2 : (5 : Int32) < x.2.1 0 6
        · rw [if_pos a2] at e0; exact absurd rfl e0
        · rw [Int32.lt_iff_toInt_lt, show (1 : Int32).toInt = 1 from rfl] at a
          rw [Int32.lt_iff_toInt_lt, show (5 : Int32).toInt = 5 from rfl] at a2
          omega
    obtain ⟨d1, d2, d3⟩ := hid hph.1 hph.2
    have ht := hG.tb
    rw [htm] at ht
    have ei := i32_succ (a := x.2.1 1 6) (b := 1000) (by rw [show (1000 : Int32).toInt = 1000 from rfl]; omega)
    have et : y.1 0 45 = tm := hG.tm.symm.trans htm
    have es : (y.1 0 45 - y.1 44 n).toInt = (x.2.1 1 6).toInt + 1 := by rw [et, i32_sub (by omega) (by omega)]; omega
    unfold fX10_passEntry
    by_cases c1 : x.2.1 1 6 + 1 < 60
    · have c2 := c1
      rw [Int32.lt_iff_toInt_lt, show (60 : Int32).toInt = 60 from rfl, ei] at c2
      rw [if_pos c1, if_pos (by rw [Int32.lt_iff_toInt_lt, es, show (60 : Int32).toInt = 60 from rfl]; omega)]
      refine ⟨hG, h, lf, p10, fun _ _ => ?_⟩
      show (x.2.1 1 6 + 1).toInt + (y.1 44 n).toInt = tm.toInt ∧ 0 ≤ (x.2.1 1 6 + 1).toInt ∧ (x.2.1 1 6 + 1).toInt < 60
      rw [ei]; omega
    · have c2 := c1
      rw [Int32.lt_iff_toInt_lt, show (60 : Int32).toInt = 60 from rfl, ei] at c2
      rw [if_neg c1, if_neg (by rw [Int32.lt_iff_toInt_lt, es, show (60 : Int32).toInt = 60 from rfl]; omega)]
      obtain ⟨g1, g2, g3⟩ := s_drop (x := sC x 1 6 (x.2.1 1 6 + 1)) hn (show G (sC x 1 6 (x.2.1 1 6 + 1)) y from hG) (show CH 0 n (sC x 1 6 (x.2.1 1 6 + 1)).2.1 y tm from h) hok
      refine ⟨g1, g2, ?_, ?_, fun q1 q2 => ?_⟩
      · show LF (fX10_dropEntry n (sC x 1 6 (x.2.1 1 6 + 1))).2.1
        rw [g3]; exact lf
      · show P10 (fX10_dropEntry n (sC x 1 6 (x.2.1 1 6 + 1))).2.1
        rw [g3]; exact p10
      · have hfr := h.ru.2.2.2
        have q3 : 1 ≤ ((fX10_dropEntry n (sC x 1 6 (x.2.1 1 6 + 1))).2.1 0 6).toInt := q1
        have q4 : ((fX10_dropEntry n (sC x 1 6 (x.2.1 1 6 + 1))).2.1 0 6).toInt ≤ 5 := q2
        rw [g3] at q3 q4
        have q5 : 1 ≤ (x.2.1 1 3).toInt := q3
        have q6 : (x.2.1 1 3).toInt ≤ 5 := q4
        rcases hfr with e | e | e <;> rw [e] at q5 q6
        · exact absurd q5 (by decide)
        · exact absurd q6 (by decide)
        · exact absurd q6 (by decide)
/-- the reference's tick of one channel -/
def rfin (c : Int32) (Y : RS) : RS := if (fX11_isEntry c (fX11_lines c Y)) = 0 then (fX11_lines c Y) else (if (((fX11_lines c Y).1 0 45) - ((fX11_lines c Y).1 44 c.toNatClampNeg)) < 60 then (fX11_lines c Y) else (fX11_drop c (fX11_lines c Y)))
def rst (c : Int32) (y : RS) : RS × Int32 := if (y.1 13 c.toNatClampNeg) = 7 then (rfin c (fX11_deliver c y).1, (fX11_deliver c y).2) else (rfin c y, 0)
theorem j43 {X : FS} {v : Int32} : fX10_passChannel_J43 gd n X v = ((if fX1_hasEntry X = 0 then X else fX10_passEntry n X), v) := by
  unfold fX10_passChannel_J43
  by_cases e : fX1_hasEntry X = 0
  · rw [if_pos e, if_pos e]
  · rw [if_neg e, if_neg e]
theorem j26 {X : FS} {v : Int32} : fX10_passChannel_J26 gd n X v = fX10_passChannel_J43 gd n (if (fX6_drainAndTestBlocked X).2 = 0 then (fX6_drainAndTestBlocked X).1 else fX10_latch n 1 (fX6_drainAndTestBlocked X).1) v := by
  unfold fX10_passChannel_J26
  by_cases e : (fX6_drainAndTestBlocked X).2 = 0
  · rw [if_pos e, if_pos e]
  · rw [if_neg e, if_neg e]
theorem s_fin {tm0 v : Int32} {X : FS} {Y : RS} (hn : n < 3) (hG : G X Y) (htm : X.1 0 3 = tm) (htm0 : tm.toInt = tm0.toInt + 1) (h : CH 0 n X.2.1 Y tm) (lf : LF X.2.1) (p10 : P10 X.2.1) (hid : ID n X.2.1 Y tm0) (hok : okR T B Y) : G (fX10_passChannel_J26 gd n X v).1 (rfin (nI n) Y) ∧ CC n (fX10_passChannel_J26 gd n X v).1.2.1 (rfin (nI n) Y) tm ∧ (fX10_passChannel_J26 gd n X v).2 = v := by
  have ht : 0 ≤ (Y.1 0 45).toInt := hok.1.1
  obtain ⟨l1, l2, l3, l4, l5, l6⟩ := s_lines hn hG h lf p10 hok
  have kL := kpX11_lines (y0 := Y) (x := Y) ht (vn hn) (fun _ _ _ => rfl)
  rw [tn hn] at kL
  have oL : okR T B (fX11_lines (nI n) Y) := okX11_lines (vn hn) hok
  unfold rfin
  rw [j26, j43, tn hn]
  generalize (if (fX6_drainAndTestBlocked X).2 = 0 then (fX6_drainAndTestBlocked X).1 else fX10_latch n 1 (fX6_drainAndTestBlocked X).1) = X2 at l1 l2 l3 l4 l5 l6 ⊢
  generalize fX11_lines (nI n) Y = Y2 at l1 l2 kL oL ⊢
  have et : X2.1 0 3 = tm := by rw [l1.tm, kp_time kL, ← hG.tm]; exact htm
  have hid2 : ID n X2.2.1 Y2 tm0 := by
    rcases l6 with q | ⟨q, q2⟩
    · exact id_kp kL hid q l5
    · intro a1 a2
      rw [q2] at a2; exact absurd a2 (by decide)
  obtain ⟨e1, e2⟩ := s_entry hn l1 et htm0 l2 l3 l4 hid2 oL
  exact ⟨e1, e2, rfl⟩
theorem rst_7 (h : y.1 13 n = 7) (hn : n < 3) : rst (nI n) y = (rfin (nI n) (fX11_deliver (nI n) y).1, (fX11_deliver (nI n) y).2) := by
  unfold rst
  rw [tn hn]
  exact if_pos h
theorem rst_0 (h : ¬ y.1 13 n = 7) (hn : n < 3) : rst (nI n) y = (rfin (nI n) y, 0) := by
  unfold rst
  rw [tn hn]
  exact if_neg h
theorem s_chan7 {tm0 : Int32} (hn : n < 3) (hD : DR gd y) (hV : DV y) (hG : G x y) (htm : x.1 0 3 = tm) (htm0 : tm.toInt = tm0.toInt + 1) (h : CH 0 n x.2.1 y tm) (hd : x.2.1 0 10 = 0) (lf : LF x.2.1) (p10 : P10 x.2.1) (hok : okR T B y) (h7 : x.2.1 0 6 = 7) {q : FS × Int32} {r : RS × Int32} (eq : fX10_deliver gd n x = q) (er : fX11_deliver (nI n) y = r) : G (fX10_passChannel_J26 gd n q.1 q.2).1 (rfin (nI n) r.1) ∧ CC n (fX10_passChannel_J26 gd n q.1 q.2).1.2.1 (rfin (nI n) r.1) tm ∧ (fX10_passChannel_J26 gd n q.1 q.2).2 = r.2 := by
  have ht : 0 ≤ (y.1 0 45).toInt := hok.1.1
  have hd7 := s_deliver hn hD hV hG htm h h7 hd lf p10 hok
  rw [eq, er] at hd7
  obtain ⟨d1, d2, d3, d4, d5, d6, d7⟩ := hd7
  have kL := kpX11_deliver (y0 := y) (x := y) ht (vn hn) (fun _ _ _ => rfl)
  rw [tn hn, er] at kL
  have oL : okR T B (fX11_deliver (nI n) y).1 := okX11_deliver (vn hn) hok
  rw [er] at oL
  have et : q.1.1 0 3 = tm := by rw [d1.tm, kp_time kL, ← hG.tm]; exact htm
  have hid2 : ID n q.1.2.1 r.1 tm0 := by
    intro a1 a2
    rcases d5 with e | e <;> rw [e] at a2 <;> exact absurd a2 (by decide)
  have f := s_fin (gd := gd) (v := q.2) hn d1 et htm0 d2 d3 d4 hid2 oL
  exact ⟨f.1, f.2.1, f.2.2.trans d7⟩
end S16
