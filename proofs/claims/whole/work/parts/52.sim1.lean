/-! alarms, phases -/
def LF (c : Nat → Nat → Int32) : Prop := c 4 2 = -1 ∨ (1 ≤ (c 4 2).toInt ∧ (c 4 2).toInt ≤ 9999990)
def P10 (c : Nat → Nat → Int32) : Prop := (c 10 3).toInt < 60 ∨ b0 (c 0 7) = 1
theorem tyr_0 : tyr 0 0 0 0 0 0 (-1) := ⟨rfl, rfl, by decide, by decide, Or.inl ⟨rfl, rfl, rfl, by decide, by decide⟩⟩
def lb (p ph : Int32) (b : Nat) : Nat := if p ≤ 4 ∧ ph = 7 then 0 else b
theorem lb_0 {p ph : Int32} : lb p ph 0 = 0 := by unfold lb; exact ite_self _
theorem nlt4 {j : Nat} (hj : j < 7) (h : ¬ (4 : Int32) < nI j) : j ≤ 4 := by
  rw [Int32.lt_iff_toInt_lt, nI_toInt (by omega), show (4 : Int32).toInt = 4 from rfl] at h
  omega
theorem lt4 {j : Nat} (hj : j < 7) (h : (4 : Int32) < nI j) : 5 ≤ j := by
  rw [Int32.lt_iff_toInt_lt, nI_toInt (by omega), show (4 : Int32).toInt = 4 from rfl] at h
  omega
theorem le4 {j : Nat} (hj : j < 7) (h : (4 : Int32) < nI j) : ¬ nI j ≤ 4 := by
  have h1 := lt4 hj h
  rw [Int32.le_iff_toInt_le, nI_toInt (by omega), show (4 : Int32).toInt = 4 from rfl]
  omega
theorem le4' {j : Nat} (hj : j < 7) (h : ¬ (4 : Int32) < nI j) : nI j ≤ 4 := by
  have h1 := nlt4 hj h
  rw [Int32.le_iff_toInt_le, nI_toInt (by omega), show (4 : Int32).toInt = 4 from rfl]
  omega
theorem phi {a : Int32} {v : Int32} {k : Int} (hv : v.toInt = k) (h : a = v) : a.toInt = k := by rw [h]; exact hv
theorem hold_c {X Z : FS} (h : X.2.1 = Z.2.1) : (fX1_hold X).2.1 = (fX1_hold Z).2.1 := by
  show va_up (va_up X.2.1 0 (va_up (X.2.1 0) 6 8)) 6 (va_up (va_up X.2.1 0 (va_up (X.2.1 0) 6 8) 6) 2 0) = _
  rw [h]
  rfl
theorem lat_e1 {n m j : Nat} {x : FS} (ea : x.2.1 0 7 = nI m) (hb0 : ((nI m >>> (nI j &&& 31)) &&& 1) = 0) : fX10_latch n (nI j) x = fX10_latch_J46 n (nI j) (fX10_note n 7 (nI j) (sP (sC x 0 7 (nI m ||| ((1 : Int32) <<< (nI j &&& 31)))) 0 7 (x.1 0 3))) := by
  unfold fX10_latch fX1_hasAlarm fX10_note
  rw [ea, if_pos hb0, if_pos rfl]
  have e3 : (sP (sC x 0 7 (nI m ||| ((1 : Int32) <<< (nI j &&& 31)))) 0 7 (x.1 0 3)).1 0 3 = x.1 0 3 := rfl
  rw [e3]
theorem lat_e2 {n m j : Nat} {y : RS} (hp1 : (nI n).toNatClampNeg = n) (em : y.1 28 n = nI m) (hb : ¬ ((nI m >>> (nI j &&& 31)) &&& 1) = 1) : fX11_latch (nI n) (nI j) y = (if (4 : Int32) < nI j then fX11_note 7 (nI n) (nI j) (sR (sR y 28 n (nI m ||| ((1 : Int32) <<< (nI j &&& 31)))) 0 49 0) else if y.1 13 n = 7 then sR (sR (fX11_note 7 (nI n) (nI j) (sR (sR y 28 n (nI m ||| ((1 : Int32) <<< (nI j &&& 31)))) 0 49 0)) 13 n 8) 20 n 0 else fX11_note 7 (nI n) (nI j) (sR (sR y 28 n (nI m ||| ((1 : Int32) <<< (nI j &&& 31)))) 0 49 0)) := by
  unfold fX11_latch
  rw [hp1, em, if_neg hb]
  have e : (fX11_note 7 (nI n) (nI j) (sR (sR y 28 n (nI m ||| ((1 : Int32) <<< (nI j &&& 31)))) 0 49 0)).1 13 n = y.1 13 n := rfl
  rw [e]
theorem lat_G {n : Nat} {x : FS} {y : RS} {V : Int32} (hG : G x y) : G (sP (sC x 0 7 V) 0 7 (x.1 0 3)) (sR (sR y 28 n V) 0 49 0) := ⟨hG.tm, hG.cg, hG.mn, hG.cn, Or.inr ⟨Int.le_refl _, hG.tb.1⟩, hG.en, hG.lg, hG.ch, hG.tb⟩
theorem lat_1 {b n : Nat} {x : FS} {y : RS} {tm V : Int32} (h : CH b n x.2.1 y tm) (hV : V &&& 31 = x.2.1 0 7 &&& 31) : CH b n (sC x 0 7 V).2.1 (sR (sR y 28 n V) 0 49 0) tm := ⟨h.ph, (by show V = va_up (y.1 28) n V n; rw [va_up_self]), h.st, h.wa, h.dn, h.cf, h.we, h.am, h.ra, h.le, h.ma, h.de, h.bo, h.fl, h.pr, h.ti, h.bu, h.ai, h.op, h.su, h.co, h.at_, h.pd, h.la, h.ty, h.tc, h.ed, ⟨fun q => by show V &&& 31 = 0; rw [hV]; exact h.ru.1 q, h.ru.2⟩, h.nu, h.re, h.r1, h.r2⟩
theorem lat_2 {b n : Nat} {x : FS} {y : RS} {tm V : Int32} (h : CH b n x.2.1 y tm) (h7 : x.2.1 0 6 = 7) : CH 0 n (fX1_hold (sC x 0 7 V)).2.1 (sR (sR (sR (sR y 28 n V) 0 49 0) 13 n 8) 20 n 0) tm := by
  have h9 := phi (k := 7) rfl h7
  exact ⟨(by show (8 : Int32) = va_up (y.1 13) n 8 n; rw [va_up_self]), (by show V = va_up (y.1 28) n V n; rw [va_up_self]), h.st, h.wa, h.dn, h.cf, h.we, h.am, h.ra, h.le, h.ma, h.de, (by show bor 0 0 (va_up (y.1 20) n 0 n); rw [va_up_self]; exact ⟨rfl, by decide, by decide⟩), h.fl, h.pr, h.ti, h.bu, h.ai, h.op, h.su, h.co, h.at_, h.pd, h.la, h.ty, (fun _ => h.tc (by rw [h9]; decide)), ⟨fun q => absurd q (by show ¬ (2 ≤ (8 : Int32).toInt ∧ (8 : Int32).toInt ≤ 5); decide), fun _ => h.ed.2 (by rw [h9]; decide)⟩, ⟨fun q => absurd q (by show ¬ (8 : Int32) = 7; decide), by show 0 ≤ (8 : Int32).toInt; decide, by show (8 : Int32).toInt ≤ 8; decide, h.ru.2.2.2⟩, h.nu, (fun _ q => absurd q (by show ¬ (8 : Int32).toInt ≤ 5; decide)), h.r1, h.r2⟩
theorem lat_3 {b n : Nat} {x : FS} {y : RS} {tm V : Int32} (h : CH b n x.2.1 y tm) (h7 : ¬ x.2.1 0 6 = 7) : CH b n (sC x 0 7 V).2.1 (sR (sR y 28 n V) 0 49 0) tm := ⟨h.ph, (by show V = va_up (y.1 28) n V n; rw [va_up_self]), h.st, h.wa, h.dn, h.cf, h.we, h.am, h.ra, h.le, h.ma, h.de, h.bo, h.fl, h.pr, h.ti, h.bu, h.ai, h.op, h.su, h.co, h.at_, h.pd, h.la, h.ty, h.tc, h.ed, ⟨fun q => absurd q h7, h.ru.2⟩, h.nu, h.re, h.r1, h.r2⟩
theorem ch_note2 {b n : Nat} {c : Nat → Nat → Int32} {y : RS} {tm k d v : Int32} (h : CH b n c (sR (sR y 13 n 8) 20 n 0) tm) : CH b n c (sR (sR (fX11_note k d v y) 13 n 8) 20 n 0) tm := h
theorem hold_rd {X : FS} {o k : Nat} (q1 : ¬ (o = 0 ∧ (k = 6 ∨ k = 7))) (q2 : ¬ (o = 6 ∧ k = 2)) : (fX1_hold X).2.1 o k = X.2.1 o k := by
  show (sC (sC X 0 6 8) 6 2 0).2.1 o k = _
  rw [sC_rd q2, sC_rd (fun e => q1 ⟨e.1, Or.inl e.2⟩)]
theorem lat_J {b n j : Nat} {X : FS} {Y : RS} {tm P : Int32} {c : Nat → Nat → Int32} (hj : j < 7) (hN : G X Y) (hph : X.2.1 0 6 = c 0 6) (hP : P = c 0 6) (hA : (4 : Int32) < nI j → CH b n X.2.1 Y tm) (hB : c 0 6 = 7 → CH 0 n (fX1_hold X).2.1 (sR (sR Y 13 n 8) 20 n 0) tm) (hC : ¬ c 0 6 = 7 → CH b n X.2.1 Y tm) (f1 : ∀ o k, ¬ (o = 0 ∧ (k = 6 ∨ k = 7)) → ¬ (o = 6 ∧ k = 2) → X.2.1 o k = c o k) (f4 : nI j = 0 → b0 (X.2.1 0 7) = 1) (f5 : b0 (c 0 7) = 1 → b0 (X.2.1 0 7) = 1) : G (fX10_latch_J46 n (nI j) X) (if (4 : Int32) < nI j then Y else if P = 7 then sR (sR Y 13 n 8) 20 n 0 else Y) ∧ CH (lb (nI j) (c 0 6) b) n (fX10_latch_J46 n (nI j) X).2.1 (if (4 : Int32) < nI j then Y else if P = 7 then sR (sR Y 13 n 8) 20 n 0 else Y) tm ∧ (∀ o k, ¬ (o = 0 ∧ (k = 6 ∨ k = 7)) → ¬ (o = 6 ∧ k = 2) → (fX10_latch_J46 n (nI j) X).2.1 o k = c o k) ∧ (fX10_latch_J46 n (nI j) X).2.1 0 6 = (if nI j ≤ 4 ∧ c 0 6 = 7 then 8 else c 0 6) ∧ (nI j = 0 → b0 ((fX10_latch_J46 n (nI j) X).2.1 0 7) = 1) ∧ (b0 (c 0 7) = 1 → b0 ((fX10_latch_J46 n (nI j) X).2.1 0 7) = 1) := by
  unfold fX10_latch_J46
  by_cases h4 : (4 : Int32) < nI j
  · rw [if_pos h4, if_pos h4]
    have h7 : ¬ (nI j ≤ 4 ∧ c 0 6 = 7) := fun q => le4 hj h4 q.1
    refine ⟨hN, ?_, f1, ?_, f4, f5⟩
    · unfold lb
      rw [if_neg h7]
      exact hA h4
    · rw [if_neg h7, hph]
  · rw [if_neg h4, if_neg h4, hph, hP]
    by_cases h7 : c 0 6 = 7
    · rw [if_pos h7, if_pos h7]
      have h8 : nI j ≤ 4 ∧ c 0 6 = 7 := ⟨le4' hj h4, h7⟩
      have e07 : (fX1_hold X).2.1 0 7 = X.2.1 0 7 := rfl
      refine ⟨hN, ?_, fun o k q1 q2 => (hold_rd q1 q2).trans (f1 o k q1 q2), ?_, ?_, ?_⟩
      · unfold lb
        rw [if_pos h8]
        exact hB h7
      · rw [if_pos h8]; rfl
      · rw [e07]; exact f4
      · rw [e07]; exact f5
    · rw [if_neg h7, if_neg h7]
      have h8 : ¬ (nI j ≤ 4 ∧ c 0 6 = 7) := fun q => h7 q.2
      refine ⟨hN, ?_, f1, ?_, f4, f5⟩
      · unfold lb
        rw [if_neg h8]
        exact hC h7
      · rw [if_neg h8, hph]
theorem s_latch_c {b n T B j : Nat} {x : FS} {y : RS} {tm V : Int32} (hG : G x y) (h : CH b n x.2.1 y tm) (hok : okR T B y) (hj : j < 7) (hV1 : j = 0 → b0 V = 1) (hV2 : b0 (x.2.1 0 7) = 1 → b0 V = 1) (hV3 : 5 ≤ j → V &&& 31 = x.2.1 0 7 &&& 31) {X : FS} {Y : RS} (eX : fX10_note n 7 (nI j) (sP (sC x 0 7 V) 0 7 (x.1 0 3)) = X) (eY : fX11_note 7 (nI n) (nI j) (sR (sR y 28 n V) 0 49 0) = Y) : G (fX10_latch_J46 n (nI j) X) (if (4 : Int32) < nI j then Y else if y.1 13 n = 7 then sR (sR Y 13 n 8) 20 n 0 else Y) ∧ CH (lb (nI j) (x.2.1 0 6) b) n (fX10_latch_J46 n (nI j) X).2.1 (if (4 : Int32) < nI j then Y else if y.1 13 n = 7 then sR (sR Y 13 n 8) 20 n 0 else Y) tm ∧ (∀ o k, ¬ (o = 0 ∧ (k = 6 ∨ k = 7)) → ¬ (o = 6 ∧ k = 2) → (fX10_latch_J46 n (nI j) X).2.1 o k = x.2.1 o k) ∧ (fX10_latch_J46 n (nI j) X).2.1 0 6 = (if nI j ≤ 4 ∧ x.2.1 0 6 = 7 then 8 else x.2.1 0 6) ∧ (nI j = 0 → b0 ((fX10_latch_J46 n (nI j) X).2.1 0 7) = 1) ∧ (b0 (x.2.1 0 7) = 1 → b0 ((fX10_latch_J46 n (nI j) X).2.1 0 7) = 1) := by
  have hZ : G (sP (sC x 0 7 V) 0 7 (x.1 0 3)) (sR (sR y 28 n V) 0 49 0) := lat_G hG
  have he : 0 ≤ ((sR (sR y 28 n V) 0 49 0).1 0 50).toInt := hok.2.1.1
  have hN := s_note (n := n) (a := 7) (v := nI j) hZ he
  have hC : (fX10_note n 7 (nI j) (sP (sC x 0 7 V) 0 7 (x.1 0 3))).2.1 = (sC x 0 7 V).2.1 := note_c (n := n) (a := 7) (v := nI j) hZ he
  rw [eX] at hN hC
  have hj0 : nI j = 0 → j = 0 := fun q => by
    have q2 := congrArg Int32.toInt q
    rw [nI_toInt (by omega), show (0 : Int32).toInt = 0 from rfl] at q2
    omega
  have f2 : X.2.1 0 7 = V := by rw [hC]; rfl
  have f3 : X.2.1 0 6 = x.2.1 0 6 := by rw [hC]; rfl
  rw [eY] at hN
  refine lat_J hj hN f3 h.ph.symm (fun h4 => ?_) (fun h7 => ?_) (fun h7 => ?_) (fun o k q1 q2 => ?_) (fun q => ?_) (fun q => ?_)
  · rw [hC, ← eY]; exact ch_note (lat_1 h (hV3 (lt4 hj h4)))
  · rw [hold_c hC, ← eY]; exact ch_note2 (lat_2 h h7)
  · rw [hC, ← eY]; exact ch_note (lat_3 h h7)
  · rw [hC]; exact sC_rd (fun e => q1 ⟨e.1, Or.inr e.2⟩)
  · rw [f2]; exact hV1 (hj0 q)
  · rw [f2]; exact hV2 q
theorem s_latch {b n T B : Nat} {x : FS} {y : RS} {p tm : Int32} (hn : n < 3) (hp : vp_in p 7) (hG : G x y) (h : CH b n x.2.1 y tm) (hok : okR T B y) : G (fX10_latch n p x) (fX11_latch (nI n) p y) ∧ CH (lb p (x.2.1 0 6) b) n (fX10_latch n p x).2.1 (fX11_latch (nI n) p y) tm ∧ (∀ o k, ¬ (o = 0 ∧ (k = 6 ∨ k = 7)) → ¬ (o = 6 ∧ k = 2) → (fX10_latch n p x).2.1 o k = x.2.1 o k) ∧ (fX10_latch n p x).2.1 0 6 = (if p ≤ 4 ∧ x.2.1 0 6 = 7 then 8 else x.2.1 0 6) ∧ (p = 0 → b0 ((fX10_latch n p x).2.1 0 7) = 1) ∧ (b0 (x.2.1 0 7) = 1 → b0 ((fX10_latch n p x).2.1 0 7) = 1) := by
  have hp1 : (nI n).toNatClampNeg = n := tn hn
  obtain ⟨m, hm, em⟩ := vp_in_of (hok.2.2.2.1 n hn) (by decide)
  obtain ⟨j, hj, ej⟩ := vp_in_of hp (by decide)
  have ea : x.2.1 0 7 = nI m := h.al.trans em
  obtain ⟨t1, t2, t3⟩ := al_run ⟨m, hm⟩ ⟨j, hj⟩
  obtain ⟨u1, u2, _, _⟩ := al_b0 ⟨m, hm⟩ ⟨j, hj⟩
  dsimp only at t1 t2 t3 u1 u2
  subst ej
  by_cases hb : ((nI m >>> (nI j &&& 31)) &&& 1) = 1
  · have hb0 : ¬ ((nI m >>> (nI j &&& 31)) &&& 1) = 0 := by rw [hb]; decide
    have h7 : ¬ (nI j ≤ 4 ∧ x.2.1 0 6 = 7) := fun q => t2 hb (nlt4 hj (fun q2 => le4 hj q2 q.1)) (by rw [← ea]; exact h.ru.1 q.2)
    have e1 : fX10_latch n (nI j) x = x := by
      unfold fX10_latch fX1_hasAlarm
      rw [ea, if_neg hb0, if_neg (by decide)]
      unfold fX10_latch_J46
      by_cases h4 : (4 : Int32) < nI j
      · rw [if_pos h4]
      · rw [if_neg h4, if_neg (fun q => h7 ⟨le4' hj h4, q⟩)]
    have e2 : fX11_latch (nI n) (nI j) y = y := by unfold fX11_latch; rw [hp1, em, if_pos hb]
    rw [e1, e2]
    refine ⟨hG, ?_, fun _ _ _ _ => rfl, ?_, fun q => ?_, id⟩
    · unfold lb; rw [if_neg h7]; exact h
    · rw [if_neg h7]
    · rw [ea]
      have hj0 : j = 0 := by
        have q2 := congrArg Int32.toInt q
        rw [nI_toInt (by omega), show (0 : Int32).toInt = 0 from rfl] at q2
        omega
      subst hj0
      exact hb
  · have hb0 := t1.resolve_right hb
    have e1 := lat_e1 (n := n) ea hb0
    have e2 := lat_e2 hp1 em hb
    rw [e1, e2]
    exact s_latch_c hG h hok hj u1 (by rw [ea]; exact u2) (by rw [ea]; exact t3) rfl rfl
