/-! battery, relays, ticks -/
theorem sp_latch {n T B : Nat} {x : PS} {y : RS} {p : Int32} (hn : n < 3) (hp : vp_in p 7) (h : SP x y) (hok : okR T B y) : SP (put x n (fX10_latch n p (foc x n))) (fX11_latch (nI n) p y) := by
  have ht : 0 ≤ (y.1 0 45).toInt := hok.1.1
  obtain ⟨c1, c2, c3, c4⟩ := h.2.2.2 n hn
  obtain ⟨g1, g2, g3, g4, g5, g6⟩ := s_latch (x := foc x n) (tm := x.1 0 3) hn hp (show G (foc x n) y from h.1) c1 hok
  rw [lb_0] at g2
  have kS := kpX11_latch (y0 := y) (p2 := p) (x := y) ht (vn hn) (fun _ _ _ => rfl)
  rw [tn hn] at kS
  generalize fX10_latch n p (foc x n) = u at g1 g2 g3 g4 g5 g6 ⊢
  generalize fX11_latch (nI n) p y = Y at g1 g2 kS ⊢
  refine sp_put hn h kS g1 ⟨g2, ?_, ?_, ?_⟩
  · unfold LF
    rw [g3 4 2 (by decide) (by decide)]; exact c2
  · unfold P10
    rw [g3 10 3 (by decide) (by decide)]
    rcases c3 with q | q
    · exact Or.inl q
    · exact Or.inr (g6 q)
  · by_cases q7 : p ≤ 4 ∧ (foc x n).2.1 0 6 = 7
    · rw [if_pos q7] at g4
      intro a1 a2
      rw [g4] at a2; exact absurd a2 (by decide)
    · rw [if_neg q7] at g4
      exact id_kp kS c4 g4 (g3 1 6 (by decide) (by decide))
theorem sp_chg {x : PS} {y : RS} {w : Int32} (h : SP x y) : SP (tP x 0 4 w) (sR y 0 46 w) := by
  refine ⟨⟨h.1.tm, rfl, h.1.mn, h.1.cn, h.1.si, h.1.en, h.1.lg, h.1.ch, h.1.tb⟩, dr_s (Or.inl rfl) h.2.1, fun d hd => h.2.2.1 d hd, fun m hm => ⟨(h.2.2.2 m hm).1, (h.2.2.2 m hm).2.1, (h.2.2.2 m hm).2.2.1, fun a b => (h.2.2.2 m hm).2.2.2 a b⟩⟩
def cbat (n : Nat) (x : PS) : PS := if x.1 0 4 = 0 then (if x.2.2.1 n 0 6 = 7 then put x n (fX10_latch n 3 (foc x n)) else x) else x
def rbat (c : Int32) (y : RS) : RS := if y.1 0 46 = 0 then (if y.1 13 c.toNatClampNeg = 7 then fX11_latch c 3 y else y) else y
theorem cb_step {n k : Nat} {p1 v : Int32} {y : PS} (hv : ¬ (3 : Int32) ≤ v) (hn : v.toNatClampNeg = n) : fX10_passBattery_L68 p1 (k + 1) y v = fX10_passBattery_L68 p1 k (cbat n y) (v + 1) := by
  show (if (3 : Int32) ≤ v then y else _) = _
  rw [if_neg hv, hn]
  unfold cbat
  by_cases c1 : y.1 0 4 = 0
  · by_cases c2 : y.2.2.1 n 0 6 = 7
    · rw [if_pos c1, if_pos c2, if_pos c1, if_pos c2]
    · rw [if_pos c1, if_neg c2, if_pos c1, if_neg c2]
  · rw [if_neg c1, if_neg c1]
theorem cb_end {k : Nat} {p1 v : Int32} {y : PS} (hv : (3 : Int32) ≤ v) : fX10_passBattery_L68 p1 (k + 1) y v = y := if_pos hv
theorem cb_eq {p1 : Int32} {y : PS} : fX10_passBattery_J66 p1 y = cbat 2 (cbat 1 (cbat 0 y)) := by
  unfold fX10_passBattery_J66
  rw [show mu32 0 3 = 3 from by decide, cb_step (n := 0) (v := 0) (by decide) (by decide), cb_step (n := 1) (v := 0 + 1) (by decide) (by decide), cb_step (n := 2) (v := 0 + 1 + 1) (by decide) (by decide), cb_end (v := 0 + 1 + 1 + 1) (by decide)]
theorem rb_step {k : Nat} {v1 v : Int32} {y : RS} (hv : ¬ (3 : Int32) ≤ v) : fX11_tick_L135 (k + 1) y v1 v = fX11_tick_L135 k (rbat v y) v1 (v + 1) := by
  show (if (3 : Int32) ≤ v then _ else _) = _
  rw [if_neg hv]
  unfold rbat
  by_cases c1 : y.1 0 46 = 0
  · by_cases c2 : y.1 13 v.toNatClampNeg = 7
    · rw [if_pos c1, if_pos c2, if_pos c1, if_pos c2]
    · rw [if_pos c1, if_neg c2, if_pos c1, if_neg c2]
  · rw [if_neg c1, if_neg c1]
theorem rb_end {k : Nat} {v1 v : Int32} {y : RS} (hv : (3 : Int32) ≤ v) : fX11_tick_L135 (k + 1) y v1 v = fX11_tick_L172 (mu32 0 3 + 1) y v1 0 := if_pos hv
def rrel (c : Int32) (y : RS) : RS := if y.1 29 c.toNatClampNeg = 0 then y else (if y.1 30 (((c + 2) - (c + 2) / 3 * 3).toNatClampNeg) = 0 then y else sR (fX11_run c y).1 29 c.toNatClampNeg 0)
theorem rr_step {k : Nat} {v1 v : Int32} {y : RS} (hv : ¬ (3 : Int32) ≤ v) : fX11_tick_L172 (k + 1) y v1 v = fX11_tick_L172 k (rrel v y) v1 (v + 1) := by
  show (if (3 : Int32) ≤ v then _ else _) = _
  rw [if_neg hv]
  unfold rrel
  by_cases c1 : y.1 29 v.toNatClampNeg = 0
  · rw [if_pos c1, if_pos c1]
  · rw [if_neg c1, if_neg c1]
    by_cases c2 : y.1 30 (((v + 2) - (v + 2) / 3 * 3).toNatClampNeg) = 0
    · rw [if_pos c2, if_pos c2]
    · rw [if_neg c2, if_neg c2]
theorem rr_end {k : Nat} {v1 v : Int32} {y : RS} (hv : (3 : Int32) ≤ v) : fX11_tick_L172 (k + 1) y v1 v = (y, v1) := if_pos hv
theorem rr_eq {v1 : Int32} {y : RS} : fX11_tick_L172 (mu32 0 3 + 1) y v1 0 = (rrel (nI 2) (rrel (nI 1) (rrel (nI 0) y)), v1) := by
  rw [show mu32 0 3 = 3 from by decide, rr_step (v := 0) (by decide), rr_step (v := 0 + 1) (by decide), rr_step (v := 0 + 1 + 1) (by decide), rr_end (v := 0 + 1 + 1 + 1) (by decide), show (0 : Int32) + 1 + 1 = nI 2 from by decide, show (0 : Int32) + 1 = nI 1 from by decide, nI_0]
theorem rb_eq {v1 : Int32} {y : RS} : fX11_tick_J133 y v1 = (rrel (nI 2) (rrel (nI 1) (rrel (nI 0) (rbat (nI 2) (rbat (nI 1) (rbat (nI 0) y))))), v1) := by
  unfold fX11_tick_J133
  rw [show mu32 0 3 = 3 from by decide, rb_step (v := 0) (by decide), rb_step (v := 0 + 1) (by decide), rb_step (v := 0 + 1 + 1) (by decide), rb_end (v := 0 + 1 + 1 + 1) (by decide), rr_eq, show (0 : Int32) + 1 + 1 = nI 2 from by decide, show (0 : Int32) + 1 = nI 1 from by decide, nI_0]
theorem rb_1 {v1 : Int32} {y : RS} : (fX11_tick_J133 y v1).1 = rrel (nI 2) (rrel (nI 1) (rrel (nI 0) (rbat (nI 2) (rbat (nI 1) (rbat (nI 0) y))))) ∧ (fX11_tick_J133 y v1).2 = v1 := by
  rw [rb_eq]
  dsimp only
  exact ⟨rfl, rfl⟩
theorem sp_bat {n T B : Nat} {x : PS} {y : RS} (hn : n < 3) (h : SP x y) (hok : okR T B y) : SP (cbat n x) (rbat (nI n) y) ∧ okR T B (rbat (nI n) y) := by
  have c1 := (h.2.2.2 n hn).1.ph
  have e4 : x.1 0 4 = y.1 0 46 := h.1.cg
  unfold cbat rbat
  rw [tn hn, ← c1, ← e4]
  by_cases q1 : x.1 0 4 = 0
  · rw [if_pos q1, if_pos q1]
    by_cases q2 : x.2.2.1 n 0 6 = 7
    · rw [if_pos q2, if_pos q2]
      exact ⟨sp_latch hn (by rw [vp_in_iff]; decide) h hok, okX11_latch (vn hn) (by rw [vp_in_iff]; decide) (fun q => absurd q (by decide)) hok⟩
    · rw [if_neg q2, if_neg q2]; exact ⟨h, hok⟩
  · rw [if_neg q1, if_neg q1]; exact ⟨h, hok⟩
theorem i2 {n : Nat} (hn : n < 3) : ((nI n + 2) - (nI n + 2) / 3 * 3).toNatClampNeg = (n + 2) % 3 := by
  rcases (show n = 0 ∨ n = 1 ∨ n = 2 by omega) with q | q | q <;> subst q <;> decide
theorem rel_ch {n : Nat} {x : FS} {y : RS} {tm : Int32} (h : CH 0 n x.2.1 y tm) : CH 0 n (sC x 0 9 0).2.1 (sR y 29 n 0) tm := ⟨h.ph, h.al, h.st, (by show (0 : Int32) = va_up (y.1 29) n 0 n; rw [va_up_self]), h.dn, h.cf, h.we, h.am, h.ra, h.le, h.ma, h.de, h.bo, h.fl, h.pr, h.ti, h.bu, h.ai, h.op, h.su, h.co, h.at_, h.pd, h.la, h.ty, h.tc, h.ed, h.ru, h.nu, h.re, h.r1, h.r2⟩
theorem ch_29 {n : Nat} {c : Nat → Nat → Int32} {y : RS} {tm : Int32} (h : CH 0 n c y tm) (h9 : c 0 9 = 0) : CH 0 n c (sR y 29 n 0) tm := ⟨h.ph, h.al, h.st, (by show c 0 9 = va_up (y.1 29) n 0 n; rw [va_up_self]; exact h9), h.dn, h.cf, h.we, h.am, h.ra, h.le, h.ma, h.de, h.bo, h.fl, h.pr, h.ti, h.bu, h.ai, h.op, h.su, h.co, h.at_, h.pd, h.la, h.ty, h.tc, h.ed, h.ru, h.nu, h.re, h.r1, h.r2⟩
theorem G_tc {x : PS} {y : RS} {n o k : Nat} {v : Int32} (h : G (foc x 0) y) : G (foc (tC x n o k v) 0) y := h
theorem sp_tc9 {n : Nat} {x : PS} {y : RS} (hn : n < 3) (h : SP x y) : SP (tC x n 0 9 0) (sR y 29 n 0) := by
  refine ⟨G_r (by decide) (by decide) (G_tc h.1), dr_s (Or.inr (by decide)) h.2.1, fun d hd => h.2.2.1 d hd, fun m hm => ?_⟩
  show CC m (va_up x.2.2.1 n (va_up (x.2.2.1 n) 0 (va_up (x.2.2.1 n 0) 9 0)) m) (sR y 29 n 0) (x.1 0 3)
  obtain ⟨c1, c2, c3, c4⟩ := h.2.2.2 m hm
  have kS : Kp n y (sR y 29 n 0) := kp_s rfl (fun _ _ _ => rfl)
  by_cases e : m = n
  · subst e
    rw [va_up_self]
    exact ⟨rel_ch (x := (x.1, x.2.2.1 m, x.2.2.2)) c1, c2, c3, fun a b => c4 a b⟩
  · rw [va_up_ne _ _ e]
    exact cc_kp hn hm e kS (h.2.2.2 m hm)
theorem sp_relay {n n2 T B : Nat} {x : PS} {y : RS} (hn : n < 3) (h2 : n2 = (n + 2) % 3) (h : SP x y) (hok : okR T (B + 1) y) : SP (fX10_passRelay n n2 x) (rrel (nI n) y) ∧ okR T B (rrel (nI n) y) := by
  have ht : 0 ≤ (y.1 0 45).toInt := hok.1.1
  obtain ⟨c1, c2, c3, c4⟩ := h.2.2.2 n hn
  have hn2 : n2 < 3 := by omega
  have d2 := (h.2.2.2 n2 hn2).1.dn
  unfold fX10_passRelay rrel
  rw [i2 hn, tn hn, ← h2, ← c1.wa, ← d2]
  by_cases q1 : x.2.2.1 n 0 9 = 0
  · rw [if_pos q1, if_pos q1]; exact ⟨h, okR_le (k := 1) hok⟩
  · rw [if_neg q1, if_neg q1]
    by_cases q2 : x.2.2.1 n2 0 10 = 0
    · rw [if_pos q2, if_pos q2]; exact ⟨h, okR_le (k := 1) hok⟩
    · rw [if_neg q2, if_neg q2]
      have h9 := sp_tc9 hn h
      have hf : foc (tC x n 0 9 0) n = sC (foc x n) 0 9 0 := by
        show (x.1, va_up x.2.2.1 n (va_up (x.2.2.1 n) 0 (va_up (x.2.2.1 n 0) 9 0)) n, x.2.2.2) = _
        rw [va_up_self]
      rw [hf]
      have hcan : fX1_canRun (sC (foc x n) 0 9 0) = fX1_canRun (foc x n) := rfl
      have ecan := canrun_eq (x := foc x n) (tm := x.1 0 3) hn c1
      rw [hcan]
      unfold fX11_run
      rw [← ecan, tn hn]
      by_cases q3 : fX1_canRun (foc x n) = 0
      · rw [if_pos q3, if_pos q3]
        exact ⟨h9, okR_sR rfl (okR_le (k := 1) hok)⟩
      · rw [if_neg q3, if_neg q3]
        have hG : G (foc x n) y := h.1
        have hv6 : 6 ≤ y.1 13 n := by
          rw [← c1.ph]
          rcases (canrun_ne q3).1 with e | e
          · have e' : x.2.2.1 n 0 6 = 6 := e
            rw [e']; decide
          · have e' : x.2.2.1 n 0 6 = 8 := e
            rw [e']; decide
        have okn : okR T B (fX11_note 3 (nI n) (y.1 16 n) (sR (sR y 13 n 7) 29 n 0)) := okX11_note (okR_sR rfl (okR_s13 hn (fun _ => okR_pv hok hn (Or.inl hv6)) hok))
        obtain ⟨s1, s2⟩ := s_start hn hG c1 q3
        have he : 0 ≤ ((sR (sR y 13 n 7) 29 n 0).1 0 50).toInt := hok.2.1.1
        have hZ : G (sC (sC (sC (foc x n) 0 9 0) 0 6 7) 0 9 0) (sR (sR y 13 n 7) 29 n 0) := s1
        have hC0 : CH 0 n (sC (sC (sC (foc x n) 0 9 0) 0 6 7) 0 9 0).2.1 (sR (sR y 13 n 7) 29 n 0) (x.1 0 3) := ⟨s2.ph, s2.al, s2.st, s2.wa, s2.dn, s2.cf, s2.we, s2.am, s2.ra, s2.le, s2.ma, s2.de, s2.bo, s2.fl, s2.pr, s2.ti, s2.bu, s2.ai, s2.op, s2.su, s2.co, s2.at_, s2.pd, s2.la, s2.ty, s2.tc, s2.ed, s2.ru, s2.nu, s2.re, s2.r1, s2.r2⟩
        have era : (sC (foc x n) 0 9 0).2.1 4 1 = y.1 16 n := c1.ra
        unfold fX10_startRunning
        rw [era]
        have hN := s_note (n := n) (a := 3) (v := y.1 16 n) hZ he
        have hC := note_c (n := n) (a := 3) (v := y.1 16 n) hZ he
        have kN : Kp n y (fX11_note 3 (nI n) (y.1 16 n) (sR (sR y 13 n 7) 29 n 0)) := kpX11_note (kp_s rfl (kp_s rfl (fun _ _ _ => rfl)))
        have hCn : CH 0 n (fX10_note n 3 (y.1 16 n) (sC (sC (sC (foc x n) 0 9 0) 0 6 7) 0 9 0)).2.1 (fX11_note 3 (nI n) (y.1 16 n) (sR (sR y 13 n 7) 29 n 0)) (x.1 0 3) := by rw [hC]; exact ch_note hC0
        have l2 : LF (fX10_note n 3 (y.1 16 n) (sC (sC (sC (foc x n) 0 9 0) 0 6 7) 0 9 0)).2.1 := by rw [hC]; exact c2
        have l3 : P10 (fX10_note n 3 (y.1 16 n) (sC (sC (sC (foc x n) 0 9 0) 0 6 7) 0 9 0)).2.1 := by rw [hC]; exact c3
        have l6 : (fX10_note n 3 (y.1 16 n) (sC (sC (sC (foc x n) 0 9 0) 0 6 7) 0 9 0)).2.1 0 6 = 7 := by rw [hC]; rfl
        have l9 : (fX10_note n 3 (y.1 16 n) (sC (sC (sC (foc x n) 0 9 0) 0 6 7) 0 9 0)).2.1 0 9 = 0 := by rw [hC]; rfl
        generalize fX10_note n 3 (y.1 16 n) (sC (sC (sC (foc x n) 0 9 0) 0 6 7) 0 9 0) = u at hN hCn l2 l3 l6 l9 ⊢
        dsimp only
        generalize fX11_note 3 (nI n) (y.1 16 n) (sR (sR y 13 n 7) 29 n 0) = Y at hN hCn kN okn ⊢
        have ep : put (tC x n 0 9 0) n u = put x n u := by
          show (u.1, x.2.1, va_up (va_up x.2.2.1 n _) n u.2.1, u.2.2) = _
          rw [va_up_up]
        have ep2 : put (x.1, x.2.1, va_up x.2.2.1 n (va_up (x.2.2.1 n) 0 (va_up (x.2.2.1 n 0) 9 0)), x.2.2.2) n u = put x n u := ep
        refine ⟨?_, okR_sR rfl okn⟩
        have goal : SP (put x n u) (sR Y 29 n 0) := sp_put hn h (kp_s rfl kN) (G_r (by decide) (by decide) hN) ⟨ch_29 hCn l9, l2, l3, fun a b => by rw [l6] at b; exact absurd b (by decide)⟩
        first
          | exact ep ▸ goal
          | (rw [ep]; exact goal)
          | (rw [ep2]; exact goal)
