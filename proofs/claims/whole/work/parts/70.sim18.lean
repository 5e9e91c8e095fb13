/-! a tick as a whole -/
theorem t8_step {k n : Nat} {v1 v : Int32} {y : RS} (hv : ¬ (3 : Int32) ≤ v) (hn : n < 3) (e : v = nI n) : fX11_tick_L8 (k + 1) y v1 v = fX11_tick_L8 k (rst (nI n) y).1 (v1 + (rst (nI n) y).2) (v + 1) := by
  subst e
  show (if (3 : Int32) ≤ nI n then _ else _) = _
  rw [if_neg hv]
  have hz : v1 + 0 = v1 := Int32.add_zero v1
  by_cases c7 : y.1 13 n = 7
  · rw [rst_7 c7 hn, tn hn, if_pos c7]
    unfold rfin
    rw [tn hn]
    by_cases c2 : fX11_isEntry (nI n) (fX11_lines (nI n) (fX11_deliver (nI n) y).1) = 0
    · rw [if_pos c2, if_pos c2]
    · rw [if_neg c2, if_neg c2]
      by_cases c3 : ((fX11_lines (nI n) (fX11_deliver (nI n) y).1).1 0 45 - (fX11_lines (nI n) (fX11_deliver (nI n) y).1).1 44 n) < 60
      · rw [if_pos c3, if_pos c3]
      · rw [if_neg c3, if_neg c3]
  · rw [rst_0 c7 hn, tn hn, if_neg c7]
    unfold rfin
    rw [tn hn]
    dsimp only
    rw [hz]
    by_cases c2 : fX11_isEntry (nI n) (fX11_lines (nI n) y) = 0
    · rw [if_pos c2, if_pos c2]
    · rw [if_neg c2, if_neg c2]
      by_cases c3 : ((fX11_lines (nI n) y).1 0 45 - (fX11_lines (nI n) y).1 44 n) < 60
      · rw [if_pos c3, if_pos c3]
      · rw [if_neg c3, if_neg c3]
theorem t8_end {k : Nat} {v1 v : Int32} {y : RS} (hv : (3 : Int32) ≤ v) : fX11_tick_L8 (k + 1) y v1 v = (if (y.1 0 47) = 0 then (fX11_tick_J106 y v1 (fX11_most 0 (((y.1 0 46) - 1) - v1) y)) else (fX11_tick_J106 y v1 (fX11_least 36000 ((y.1 0 46) + 4) y))) := if_pos hv
theorem most0 {d : Int32} {y : RS} : fX11_most 0 d y = (if (0 : Int32) < d then d else (0 : Int32)) := by
  unfold fX11_most
  by_cases a1 : (0 : Int32) < d
  · rw [if_pos a1, if_pos (by rw [Int32.lt_iff_toInt_lt] at a1; rw [Int32.le_iff_toInt_le]; omega)]
  · rw [if_neg a1]
    by_cases a2 : (0 : Int32) ≤ d
    · rw [if_pos a2]
      rw [Int32.lt_iff_toInt_lt] at a1
      rw [Int32.le_iff_toInt_le] at a2
      exact i32_of (by omega)
    · rw [if_neg a2]
theorem least36 {d : Int32} {y : RS} : fX11_least 36000 d y = (if d < (36000 : Int32) then d else (36000 : Int32)) := by
  unfold fX11_least
  by_cases a1 : d < (36000 : Int32)
  · rw [if_pos a1, if_pos (by rw [Int32.lt_iff_toInt_lt] at a1; rw [Int32.le_iff_toInt_le]; omega)]
  · rw [if_neg a1]
    by_cases a2 : d ≤ (36000 : Int32)
    · rw [if_pos a2]
      rw [Int32.lt_iff_toInt_lt] at a1
      rw [Int32.le_iff_toInt_le] at a2
      exact i32_of (by omega)
    · rw [if_neg a2]
def KB (y Y : RS) : Prop := (∀ k, Y.1 23 k = y.1 23 k) ∧ (∀ k, Y.1 24 k = y.1 24 k) ∧ Y.1 0 47 = y.1 0 47 ∧ (∀ d, Y.1 2 d = y.1 2 d) ∧ (∀ d, Y.1 3 d = y.1 3 d)
theorem kb_tr {a b c : RS} (h1 : KB a b) (h2 : KB b c) : KB a c := ⟨fun k => (h2.1 k).trans (h1.1 k), fun k => (h2.2.1 k).trans (h1.2.1 k), h2.2.2.1.trans h1.2.2.1, fun k => (h2.2.2.2.1 k).trans (h1.2.2.2.1 k), fun k => (h2.2.2.2.2 k).trans (h1.2.2.2.2 k)⟩
theorem kb_rf {a : RS} : KB a a := ⟨fun _ => rfl, fun _ => rfl, rfl, fun _ => rfl, fun _ => rfl⟩
theorem kp_kb {n : Nat} {y Y : RS} (h : Kp n y Y) : KB y Y := ⟨fun k => h 23 k (fun q => by unfold Wr at q; omega), fun k => h 24 k (fun q => by unfold Wr at q; omega), h 0 47 (fun q => by unfold Wr at q; omega), fun k => h 2 k (fun q => by unfold Wr at q; omega), fun k => h 3 k (fun q => by unfold Wr at q; omega)⟩
def TK (y Y : RS) : Prop := Y.1 0 45 = y.1 0 45 ∧ Y.1 0 0 = y.1 0 0 ∧ KB y Y
theorem kp_tk {n : Nat} {y Y : RS} (h : Kp n y Y) : TK y Y := ⟨kp_time h, h 0 0 (fun q => by unfold Wr at q; omega), kp_kb h⟩
theorem tk_tr {a b c : RS} (h1 : TK a b) (h2 : TK b c) : TK a c := ⟨h2.1.trans h1.1, h2.2.1.trans h1.2.1, kb_tr h1.2.2 h2.2.2⟩
theorem tk_rf {a : RS} : TK a a := ⟨rfl, rfl, kb_rf⟩
theorem t_latch {n : Nat} {p : Int32} {y : RS} (hn : n < 3) (ht : 0 ≤ (y.1 0 45).toInt) : TK y (fX11_latch (nI n) p y) := kp_tk (kpX11_latch (y0 := y) (x := y) ht (vn hn) (fun _ _ _ => rfl))
theorem t_bat {n : Nat} {y : RS} (hn : n < 3) (ht : 0 ≤ (y.1 0 45).toInt) : TK y (rbat (nI n) y) := by
  unfold rbat
  by_cases q1 : y.1 0 46 = 0
  · rw [if_pos q1]
    by_cases q2 : y.1 13 (nI n).toNatClampNeg = 7
    · rw [if_pos q2]; exact t_latch hn ht
    · rw [if_neg q2]; exact tk_rf
  · rw [if_neg q1]; exact tk_rf
theorem t_rel {n : Nat} {y : RS} (hn : n < 3) (ht : 0 ≤ (y.1 0 45).toInt) : TK y (rrel (nI n) y) := by
  unfold rrel
  by_cases q1 : y.1 29 (nI n).toNatClampNeg = 0
  · rw [if_pos q1]; exact tk_rf
  · rw [if_neg q1]
    by_cases q2 : y.1 30 (((nI n + 2) - (nI n + 2) / 3 * 3).toNatClampNeg) = 0
    · rw [if_pos q2]; exact tk_rf
    · rw [if_neg q2]
      have k := kpX11_run (y0 := y) (x := y) ht (vn hn) (fun _ _ _ => rfl)
      generalize (fX11_run (nI n) y).1 = Y at k ⊢
      exact kp_tk (kp_s rfl k)
theorem t_133 {y : RS} {v1 : Int32} (ht : 0 ≤ (y.1 0 45).toInt) : TK y (fX11_tick_J133 y v1).1 := by
  rw [rb_1.1]
  have e1 := t_bat (n := 0) (by decide) ht
  have e2 := tk_tr e1 (t_bat (n := 1) (y := rbat (nI 0) y) (by decide) (by rw [e1.1]; exact ht))
  have e3 := tk_tr e2 (t_bat (n := 2) (y := rbat (nI 1) (rbat (nI 0) y)) (by decide) (by rw [e2.1]; exact ht))
  generalize rbat (nI 2) (rbat (nI 1) (rbat (nI 0) y)) = Z at e3 ⊢
  have f1 := tk_tr e3 (t_rel (n := 0) (y := Z) (by decide) (by rw [e3.1]; exact ht))
  have f2 := tk_tr f1 (t_rel (n := 1) (y := rrel (nI 0) Z) (by decide) (by rw [f1.1]; exact ht))
  exact tk_tr f2 (t_rel (n := 2) (y := rrel (nI 1) (rrel (nI 0) Z)) (by decide) (by rw [f2.1]; exact ht))
theorem t_106 {y : RS} {v1 w0 : Int32} (ht : 0 ≤ (y.1 0 45).toInt) : TK y (fX11_tick_J106 y v1 w0).1 := by
  have e0 : TK y (sR y 0 46 w0) := ⟨rfl, rfl, fun _ => rfl, fun _ => rfl, rfl, fun _ => rfl, fun _ => rfl⟩
  unfold fX11_tick_J106
  by_cases q1 : y.1 0 47 = 0
  · rw [if_pos q1]
    by_cases q2 : (3600 : Int32) ≤ w0
    · rw [if_pos q2]; exact tk_tr e0 (t_133 (by rw [e0.1]; exact ht))
    · rw [if_neg q2]
      have e1 := t_latch (n := 0) (p := 6) (y := sR y 0 46 w0) (by decide) (by rw [e0.1]; exact ht)
      rw [nI_0] at e1
      have e2 := tk_tr e0 e1
      exact tk_tr e2 (t_133 (by rw [e2.1]; exact ht))
  · rw [if_neg q1]; exact tk_tr e0 (t_133 (by rw [e0.1]; exact ht))
theorem t_bt {y : RS} (ht : 0 ≤ (y.1 0 45 + 1).toInt) : (fX11_beginTick y).1 0 0 = y.1 0 0 ∧ KB y (fX11_beginTick y) := by
  rw [bt_eq]
  have e0 : (sR y 0 45 (y.1 0 45 + 1)).1 0 0 = y.1 0 0 := rfl
  have e45 : (sR y 0 45 (y.1 0 45 + 1)).1 0 45 = y.1 0 45 + 1 := by
    show va_up (y.1 0) 45 (y.1 0 45 + 1) 45 = _
    rw [va_up_self]
  have eK : KB y (sR y 0 45 (y.1 0 45 + 1)) := ⟨fun _ => rfl, fun _ => rfl, rfl, fun _ => rfl, fun _ => rfl⟩
  generalize sR y 0 45 (y.1 0 45 + 1) = Z at e0 e45 eK ⊢
  have f1 := kp_tk (kb (m := 0) (y := Z) (by decide) (by rw [e45]; exact ht))
  have f2 := tk_tr f1 (kp_tk (kb (m := 1) (y := bst (nI 0) Z) (by decide) (by rw [f1.1, e45]; exact ht)))
  have f3 := tk_tr f2 (kp_tk (kb (m := 2) (y := bst (nI 1) (bst (nI 0) Z)) (by decide) (by rw [f2.1, e45]; exact ht)))
  exact ⟨f3.2.1.trans e0, kb_tr eK f3.2.2⟩
theorem sp_rest {T B : Nat} {x : PS} {y : RS} {v1 : Int32} (h : SP x y) (hok : okR T (B + 3) y) : SP (fX10_passRelay 2 1 (fX10_passRelay 1 0 (fX10_passRelay 0 2 (cbat 2 (cbat 1 (cbat 0 x)))))) (fX11_tick_J133 y v1).1 ∧ (fX11_tick_J133 y v1).2 = v1 ∧ okR T B (fX11_tick_J133 y v1).1 := by
  rw [rb_1.1, rb_1.2]
  obtain ⟨a1, o1⟩ := sp_bat (n := 0) (by decide) h hok
  obtain ⟨a2, o2⟩ := sp_bat (n := 1) (by decide) a1 o1
  obtain ⟨a3, o3⟩ := sp_bat (n := 2) (by decide) a2 o2
  obtain ⟨a4, o4⟩ := sp_relay (n := 0) (n2 := 2) (B := B + 2) (by decide) (by decide) a3 o3
  obtain ⟨a5, o5⟩ := sp_relay (n := 1) (n2 := 0) (B := B + 1) (by decide) (by decide) a4 o4
  obtain ⟨a6, o6⟩ := sp_relay (n := 2) (n2 := 1) (B := B) (by decide) (by decide) a5 o5
  exact ⟨a6, rfl, o6⟩
theorem sp_106 {T B : Nat} {x : PS} {y : RS} {p1 v1 w0 : Int32} (h : SP x y) (hok : okR T (B + 3) y) : SP (fX10_passRelay 2 1 (fX10_passRelay 1 0 (fX10_passRelay 0 2 (fX10_passBattery_J34 p1 x w0)))) (fX11_tick_J106 y v1 w0).1 ∧ (fX11_tick_J106 y v1 w0).2 = v1 ∧ okR T B (fX11_tick_J106 y v1 w0).1 := by
  have hg := sp_chg (w := w0) h
  have hok1 : okR T (B + 3) (sR y 0 46 w0) := okR_sR rfl hok
  have e5 : x.1 0 5 = y.1 0 47 := h.1.mn
  unfold fX10_passBattery_J34 fX11_tick_J106
  rw [← e5]
  by_cases q1 : x.1 0 5 = 0
  · rw [if_pos q1, if_pos q1]
    by_cases q2 : (3600 : Int32) ≤ w0
    · rw [if_pos q2, if_pos q2, cb_eq]; exact sp_rest hg hok1
    · rw [if_neg q2, if_neg q2, cb_eq]
      have hl := sp_latch (n := 0) (p := 6) (by decide) (by rw [vp_in_iff]; decide) hg hok1
      have ol : okR T (B + 3) (fX11_latch (nI 0) 6 (sR y 0 46 w0)) := okX11_latch (vn (by decide)) (by rw [vp_in_iff]; decide) (fun q => absurd q (by decide)) hok1
      rw [nI_0] at hl ol
      exact sp_rest hl ol
  · rw [if_neg q1, if_neg q1, cb_eq]; exact sp_rest hg hok1
theorem st_time {k : Nat} {x : PS} {y : RS} {tm' tm : Int32} (h : ST k x y tm' tm) : y.1 0 45 = tm' := by
  have q : x.1 0 3 = y.1 0 45 := h.1.tm
  exact q.symm.trans h.2.1
theorem s_tick {T B : Nat} {x : PS} {y : RS} (h : SP x y) (hb : (x.1 0 3).toInt < 400000) (hok : okR (T + 1) (B + 8) y) : SP (fX10_passTick x).1 (fX11_tick y).1 ∧ (fX10_passTick x).2 = (fX11_tick y).2 ∧ okR T B (fX11_tick y).1 ∧ (fX10_passTick x).1.1 0 3 = x.1 0 3 + 1 ∧ (fX11_tick y).1.1 0 0 = y.1 0 0 ∧ KB y (fX11_tick y).1 := by
  have h0 : 0 ≤ (x.1 0 3).toInt := h.1.tb.1
  have et := i32_succ (a := x.1 0 3) (b := 400000) (by rw [show (400000 : Int32).toInt = 400000 from rfl]; exact hb)
  have ob : okR T (B + 8) (fX11_beginTick y) := okX11_beginTick hok
  have s0 := st_begin h hb
  obtain ⟨s1, n1, o1⟩ := st_step (n := 0) (B := B + 7) (by decide) s0 et ob
  obtain ⟨s2, n2, o2⟩ := st_step (n := 1) (B := B + 6) (by decide) s1 et o1
  obtain ⟨s3, n3, o3⟩ := st_step (n := 2) (B := B + 5) (by decide) s2 et o2
  have hS := st_sp s3
  have eR : fX11_tick y = (if ((rst (nI 2) (rst (nI 1) (rst (nI 0) (fX11_beginTick y)).1).1).1.1 0 47) = 0 then (fX11_tick_J106 (rst (nI 2) (rst (nI 1) (rst (nI 0) (fX11_beginTick y)).1).1).1 (pSum x) (fX11_most 0 ((((rst (nI 2) (rst (nI 1) (rst (nI 0) (fX11_beginTick y)).1).1).1.1 0 46) - 1) - pSum x) (rst (nI 2) (rst (nI 1) (rst (nI 0) (fX11_beginTick y)).1).1).1)) else (fX11_tick_J106 (rst (nI 2) (rst (nI 1) (rst (nI 0) (fX11_beginTick y)).1).1).1 (pSum x) (fX11_least 36000 (((rst (nI 2) (rst (nI 1) (rst (nI 0) (fX11_beginTick y)).1).1).1.1 0 46) + 4) (rst (nI 2) (rst (nI 1) (rst (nI 0) (fX11_beginTick y)).1).1).1))) := by
    unfold fX11_tick pSum
    rw [n1, n2, n3, show mu32 0 3 = 3 from by decide, t8_step (n := 0) (v := 0) (by decide) (by decide) (by decide), t8_step (n := 1) (v := 0 + 1) (by decide) (by decide) (by decide), t8_step (n := 2) (v := 0 + 1 + 1) (by decide) (by decide) (by decide), t8_end (v := 0 + 1 + 1 + 1) (by decide)]
  have ey : y.1 0 45 = x.1 0 3 := h.1.tm.symm
  have tb0 := t_bt (y := y) (by rw [ey, et]; omega)
  have bt45 : (fX11_beginTick y).1 0 45 = x.1 0 3 + 1 := st_time s0
  have r1 := kp_tk (kp_rst (n := 0) (y := fX11_beginTick y) (by decide) (by rw [bt45, et]; omega))
  have r2 := tk_tr r1 (kp_tk (kp_rst (n := 1) (y := (rst (nI 0) (fX11_beginTick y)).1) (by decide) (by rw [r1.1, bt45, et]; omega)))
  have r3 := tk_tr r2 (kp_tk (kp_rst (n := 2) (y := (rst (nI 1) (rst (nI 0) (fX11_beginTick y)).1).1) (by decide) (by rw [r2.1, bt45, et]; omega)))
  have e00 : (rst (nI 2) (rst (nI 1) (rst (nI 0) (fX11_beginTick y)).1).1).1.1 0 0 = y.1 0 0 ∧ KB y (rst (nI 2) (rst (nI 1) (rst (nI 0) (fX11_beginTick y)).1).1).1 := ⟨r3.2.1.trans tb0.1, kb_tr tb0.2 r3.2.2⟩
  have et3 : (rst (nI 2) (rst (nI 1) (rst (nI 0) (fX11_beginTick y)).1).1).1.1 0 45 = x.1 0 3 + 1 := st_time s3
  rw [fX10_passTick_eq]
  unfold pBat fX10_passBattery
  generalize pC 2 (pC 1 (pC 0 (pT0 x))) = X at hS ⊢
  generalize (rst (nI 2) (rst (nI 1) (rst (nI 0) (fX11_beginTick y)).1).1).1 = Y at hS o3 eR et3 e00 ⊢
  have e4 : X.1 0 4 = Y.1 0 46 := hS.1.cg
  have e5 : X.1 0 5 = Y.1 0 47 := hS.1.mn
  rw [most0, least36, ← e4, ← e5] at eR
  have tmJ : ∀ w0, (fX11_tick_J106 Y (pSum x) w0).1.1 0 45 = x.1 0 3 + 1 ∧ (fX11_tick_J106 Y (pSum x) w0).1.1 0 0 = y.1 0 0 ∧ KB y (fX11_tick_J106 Y (pSum x) w0).1 := fun w0 => by
    have q := t_106 (y := Y) (v1 := pSum x) (w0 := w0) (by rw [et3]; omega)
    exact ⟨q.1.trans et3, q.2.1.trans e00.1, kb_tr e00.2 q.2.2⟩
  have fin : ∀ w0, SP (fX10_passRelay 2 1 (fX10_passRelay 1 0 (fX10_passRelay 0 2 (fX10_passBattery_J34 (pSum x) X w0)))) (fX11_tick_J106 Y (pSum x) w0).1 ∧ pSum x = (fX11_tick_J106 Y (pSum x) w0).2 ∧ okR T B (fX11_tick_J106 Y (pSum x) w0).1 := by
    intro w0
    have q := sp_106 (B := B) (p1 := pSum x) (v1 := pSum x) (w0 := w0) hS (okR_mono (by omega) o3)
    exact ⟨q.1, q.2.1.symm, q.2.2⟩
  by_cases q1 : X.1 0 5 = 0
  · rw [if_pos q1] at eR ⊢
    rw [eR]
    have f := fin (if (0 : Int32) < (X.1 0 4 - 1 - pSum x) then (X.1 0 4 - 1 - pSum x) else (0 : Int32))
    exact ⟨f.1, f.2.1, f.2.2, (f.1.1.tm).trans (tmJ _).1, (tmJ _).2.1, (tmJ _).2.2⟩
  · rw [if_neg q1] at eR ⊢
    rw [eR]
    have f := fin (if (X.1 0 4 + 4) < (36000 : Int32) then (X.1 0 4 + 4) else (36000 : Int32))
    exact ⟨f.1, f.2.1, f.2.2, (f.1.1.tm).trans (tmJ _).1, (tmJ _).2.1, (tmJ _).2.2⟩
theorem s_ticks_l {p1 : Int32} : ∀ (k : Nat) (T B : Nat) (x : PS) (y : RS) (v2 v3 : Int32), SP x y → (x.1 0 3).toInt + k ≤ 400000 → okR (T + k) (B + 8 * k) y → (fX10_ticks_L25 p1 k x v2 v3).1 = 0 ∧ SP (fX10_ticks_L25 p1 k x v2 v3).2.1 (fX11_ticks_L34 p1 k y v2 v3).1 ∧ (fX10_ticks_L25 p1 k x v2 v3).2.2 = (fX11_ticks_L34 p1 k y v2 v3).2 ∧ okR T B (fX11_ticks_L34 p1 k y v2 v3).1 ∧ ((fX10_ticks_L25 p1 k x v2 v3).2.1.1 0 3).toInt ≤ (x.1 0 3).toInt + k ∧ (fX11_ticks_L34 p1 k y v2 v3).1.1 0 0 = y.1 0 0 ∧ KB y (fX11_ticks_L34 p1 k y v2 v3).1 := by
  intro k
  induction k with
  | zero => intro T B x y v2 v3 h hb hok; exact ⟨rfl, h, rfl, hok, by show (x.1 0 3).toInt ≤ _; omega, rfl, kb_rf⟩
  | succ k ih =>
    intro T B x y v2 v3 h hb hok
    unfold fX10_ticks_L25 fX11_ticks_L34
    by_cases c : p1 ≤ v3
    · rw [if_pos c, if_pos c]
      exact ⟨rfl, h, rfl, okR_mono2 (by omega) (by omega) hok, by show (x.1 0 3).toInt ≤ _; omega, rfl, kb_rf⟩
    · rw [if_neg c, if_neg c]
      obtain ⟨t1, t2, t3, t4, e0, ek⟩ := s_tick (T := T + k) (B := B + 8 * k) h (by omega) (okR_mono2 (by omega) (by omega) hok)
      have h0 : 0 ≤ (x.1 0 3).toInt := h.1.tb.1
      have et := i32_succ (a := x.1 0 3) (b := 400000) (by rw [show (400000 : Int32).toInt = 400000 from rfl]; omega)
      rw [t2]
      generalize (fX10_passTick x).1 = X at t1 t4 ⊢
      generalize (fX11_tick y).1 = Y at t1 t3 e0 ek ⊢
      obtain ⟨i1, i2, i3, i4, i5, i6, i7⟩ := ih T B X Y (v2 + (fX11_tick y).2) (v3 + 1) t1 (by rw [t4, et]; omega) t3
      refine ⟨i1, i2, i3, i4, ?_, i6.trans e0, kb_tr ek i7⟩
      rw [t4, et] at i5
      omega
theorem s_ticks {T B : Nat} {x : PS} {y : RS} {p1 : Int32} (h : SP x y) (hb : (x.1 0 3).toInt + 601 ≤ 400000) (hok : okR (T + 601) (B + 8 * 601) y) : SP (fX10_ticks p1 x).2.1 (fX11_ticks p1 y).1 ∧ okR T B (fX11_ticks p1 y).1 ∧ ((fX10_ticks p1 x).2.1.1 0 3).toInt ≤ (x.1 0 3).toInt + 601 ∧ KB y (fX11_ticks p1 y).1 ∧ (((fX10_ticks p1 x).1 = 0 ∧ (fX11_ticks p1 y).1.1 0 0 = 0 ∧ (fX10_ticks p1 x).2.2 = (fX11_ticks p1 y).2) ∨ ((fX10_ticks p1 x).1 = 2 ∧ (fX11_ticks p1 y).1.1 0 0 = 1)) := by
  by_cases hr : 0 ≤ p1.toInt ∧ p1.toInt ≤ 600
  · have q1 : ¬ p1 < 0 := by rw [Int32.lt_iff_toInt_lt, show (0 : Int32).toInt = 0 from rfl]; omega
    have q2 : p1 ≤ 600 := by rw [Int32.le_iff_toInt_le, show (600 : Int32).toInt = 600 from rfl]; omega
    have hm : mu32 0 p1 + 1 ≤ 601 := by unfold mu32; rw [show (0 : Int32).toInt = 0 from rfl]; omega
    have eC : fX10_ticks p1 x = fX10_ticks_L25 p1 (mu32 0 p1 + 1) x 0 0 := by
      unfold fX10_ticks
      rw [if_neg q1, if_pos q2]
    have eR : fX11_ticks p1 y = fX11_ticks_L34 p1 (mu32 0 p1 + 1) (sR y 0 0 0) 0 0 := by
      unfold fX11_ticks
      rw [isin_i (l := 0) (h := 600) rfl rfl, if_pos hr, if_neg one_ne]
    rw [eC, eR]
    obtain ⟨i1, i2, i3, i4, i5, i6, i7⟩ := s_ticks_l (p1 := p1) (mu32 0 p1 + 1) T B x (sR y 0 0 0) 0 0 (sp_thr h) (by omega) (okR_mono2 (by omega) (by omega) (okR_sR (v := 0) (o := 0) (k := 0) rfl hok))
    exact ⟨i2, i4, by omega, kb_tr (show KB y (sR y 0 0 0) from ⟨fun _ => rfl, fun _ => rfl, rfl, fun _ => rfl, fun _ => rfl⟩) i7, Or.inl ⟨i1, i6, i3⟩⟩
  · have eC : fX10_ticks p1 x = (2, x, 0) := by
      unfold fX10_ticks
      by_cases q1 : p1 < 0
      · rw [if_pos q1, xc_2']
      · have q3 := q1
        rw [Int32.lt_iff_toInt_lt, show (0 : Int32).toInt = 0 from rfl] at q3
        have q2 : ¬ p1 ≤ 600 := by rw [Int32.le_iff_toInt_le, show (600 : Int32).toInt = 600 from rfl]; omega
        rw [if_neg q1, if_neg q2, xc_2']
    have eR : fX11_ticks p1 y = (sR y 0 0 1, 0) := by
      unfold fX11_ticks
      rw [isin_i (l := 0) (h := 600) rfl rfl, if_neg hr, if_pos rfl]
    rw [eC, eR]
    exact ⟨sp_thr h, okR_mono2 (by omega) (by omega) (okR_sR rfl hok), by show (x.1 0 3).toInt ≤ _; omega, ⟨fun _ => rfl, fun _ => rfl, rfl, fun _ => rfl, fun _ => rfl⟩, Or.inr ⟨rfl, rfl⟩⟩
