/-! a tick begins -/
theorem fo_form {X x : FS} {A : Nat} (h1 : X.1 = x.1) (h2 : X.2.2 = x.2.2) (h3 : ∀ o q, ¬ (o = A ∧ (q = 2 ∨ q = 3)) → X.2.1 o q = x.2.1 o q) : X = sC (sC x A 2 (X.2.1 A 2)) A 3 (X.2.1 A 3) := by
  have e : X.2.1 = (sC (sC x A 2 (X.2.1 A 2)) A 3 (X.2.1 A 3)).2.1 := by
    funext o q
    by_cases c3 : o = A ∧ q = 3
    · rw [c3.1, c3.2]
      show X.2.1 A 3 = va_up (va_up x.2.1 A (va_up (x.2.1 A) 2 (X.2.1 A 2))) A (va_up (va_up x.2.1 A (va_up (x.2.1 A) 2 (X.2.1 A 2)) A) 3 (X.2.1 A 3)) A 3
      rw [va_up_self, va_up_self]
    · rw [sC_rd c3]
      by_cases c2 : o = A ∧ q = 2
      · rw [c2.1, c2.2]
        show X.2.1 A 2 = va_up x.2.1 A (va_up (x.2.1 A) 2 (X.2.1 A 2)) A 2
        rw [va_up_self, va_up_self]
      · rw [sC_rd c2]
        exact h3 o q (fun e => e.2.elim (fun e2 => c2 ⟨e.1, e2⟩) (fun e2 => c3 ⟨e.1, e2⟩))
  exact Prod.ext h1 (Prod.ext e h2)
def bst (v1 : Int32) (y : RS) : RS := (sR (sR (sR (sR (sR (sR (sR y 30 v1.toNatClampNeg (0)) 35 v1.toNatClampNeg ((y.1 35 v1.toNatClampNeg) - (y.1 32 ((((3600 : Int32) * v1) + ((y.1 0 45) - (y.1 0 45) / 3600 * 3600)).toNatClampNeg)))) 32 ((((3600 : Int32) * v1) + ((y.1 0 45) - (y.1 0 45) / 3600 * 3600)).toNatClampNeg) (0)) 36 v1.toNatClampNeg ((y.1 36 v1.toNatClampNeg) - (y.1 33 ((((3600 : Int32) * v1) + ((y.1 0 45) - (y.1 0 45) / 3600 * 3600)).toNatClampNeg)))) 33 ((((3600 : Int32) * v1) + ((y.1 0 45) - (y.1 0 45) / 3600 * 3600)).toNatClampNeg) (0)) 37 v1.toNatClampNeg ((y.1 37 v1.toNatClampNeg) - (y.1 34 ((((900 : Int32) * v1) + ((y.1 0 45) - (y.1 0 45) / 900 * 900)).toNatClampNeg)))) 34 ((((900 : Int32) * v1) + ((y.1 0 45) - (y.1 0 45) / 900 * 900)).toNatClampNeg) (0))
theorem bt_step {k : Nat} {v1 : Int32} {y : RS} (h : ¬ (3 : Int32) ≤ v1) : fX11_beginTick_L12 (k + 1) y v1 = fX11_beginTick_L12 k (bst v1 y) (v1 + 1) := if_neg h
theorem bt_end {k : Nat} {v1 : Int32} {y : RS} (h : (3 : Int32) ≤ v1) : fX11_beginTick_L12 (k + 1) y v1 = y := if_pos h
theorem bt_eq {y : RS} : fX11_beginTick y = bst (nI 2) (bst (nI 1) (bst (nI 0) (sR y 0 45 (y.1 0 45 + 1)))) := by
  unfold fX11_beginTick
  rw [show mu32 0 3 = 3 from by decide, bt_step (v1 := 0) (by decide), bt_step (v1 := 0 + 1) (by decide), bt_step (v1 := 0 + 1 + 1) (by decide), bt_end (v1 := 0 + 1 + 1 + 1) (by decide), show (0 : Int32) + 1 + 1 = nI 2 from by decide, show (0 : Int32) + 1 = nI 1 from by decide, show (0 : Int32) = nI 0 from by decide]
theorem kp_bst {y0 y : RS} {p1 : Int32} (ht : 0 ≤ (y0.1 0 45).toInt) (hc : vp_in p1 3) (h : Kp p1.toNatClampNeg y0 y) : Kp p1.toNatClampNeg y0 (bst p1 y) := by
  unfold bst
  exact kp_34 hc ht h (kp_s rfl (kp_32 rfl hc ht h (kp_s rfl (kp_32 rfl hc ht h (kp_s rfl (kp_s rfl h))))))
theorem ok_bst {T B : Nat} {y : RS} {p1 : Int32} (h : okR T B y) : okR T B (bst p1 y) := by
  unfold bst
  exact okR_sR rfl (okR_sR rfl (okR_sR rfl (okR_sR rfl (okR_sR rfl (okR_sR rfl (okR_sR rfl h))))))
section S17
variable {n T B : Nat} {x : FS} {y : RS} {tm tm' : Int32} {gd : Nat → Nat → Int32}
theorem adv_eq {j : Nat} (h : CH 0 n x.2.1 y tm) (ht : tm'.toInt = tm.toInt + 1) (hj : (j : Int) = tm'.toInt % 3600) : fX4_advance x = sC (sC (sC x 12 1 (nI j)) 12 2 (x.2.1 12 2 - x.2.1 13 j)) 13 j 0 := by
  have ha := h.at_
  have e1 := i32_succ (a := x.2.1 12 1) (b := 10000) (by rw [show (10000 : Int32).toInt = 10000 from rfl]; omega)
  unfold fX4_advance
  by_cases c : (3600 : Int32) ≤ x.2.1 12 1 + 1
  · rw [if_pos c]
    rw [Int32.le_iff_toInt_le, show (3600 : Int32).toInt = 3600 from rfl, e1] at c
    have j0 : j = 0 := by omega
    subst j0
    rw [nI_0]
  · rw [if_neg c]
    rw [Int32.le_iff_toInt_le, show (3600 : Int32).toInt = 3600 from rfl, e1] at c
    have e2 : x.2.1 12 1 + 1 = nI j := i32_of (by rw [e1, nI_toInt (by omega)]; omega)
    rw [e2, nI_clamp (by omega)]
theorem bt_form (hn : n < 3) (h : CH 0 n x.2.1 y tm) (h0 : 0 ≤ tm.toInt) (h4 : tm.toInt ≤ 400000) (ht : tm'.toInt = tm.toInt + 1) (hy : y.1 0 45 = tm') : ∃ (a1 a2 a3 a4 : Int32) (j q : Nat), fX1_beginTick tm' x = sC (sC (sC (sC (sC (sC (sC (sC x 12 1 (nI j)) 12 2 (x.2.1 12 2 - x.2.1 13 j)) 13 j 0) 10 2 a1) 10 3 a2) 7 2 a3) 7 3 a4) 0 10 0 ∧ bst (nI n) y = sR (sR (sR (sR (sR (sR (sR y 30 n 0) 35 n (y.1 35 n - y.1 32 (3600 * n + j))) 32 (3600 * n + j) 0) 36 n (y.1 36 n - y.1 33 (3600 * n + j))) 33 (3600 * n + j) 0) 37 n (y.1 37 n - y.1 34 (900 * n + q))) 34 (900 * n + q) 0 ∧ j < 3600 ∧ (j : Int) = tm'.toInt % 3600 ∧ rgr 20 3600 a3 a4 (x.2.1 8) (y.1 36 n - y.1 33 (3600 * n + j)) (fun k => va_up (y.1 33) (3600 * n + j) 0 (3600 * n + k)) tm' ∧ rgr 60 900 a1 a2 (x.2.1 11) (y.1 37 n - y.1 34 (900 * n + q)) (fun k => va_up (y.1 34) (900 * n + q) 0 (900 * n + k)) tm' ∧ a2.toInt ≤ (x.2.1 10 3).toInt := by
  obtain ⟨j, hj, ej, ex⟩ := ix_h (c := nI n) (t := tm') (vn hn) (by omega)
  obtain ⟨q, hq, eq, ey⟩ := ix_a (c := nI n) (t := tm') (vn hn) (by omega)
  rw [tn hn] at ex ey
  have eA := adv_eq (j := j) h ht ej
  obtain ⟨f1, f2, f3, f4, f5⟩ := fo_10 (x := sC (sC (sC x 12 1 (nI j)) 12 2 (x.2.1 12 2 - x.2.1 13 j)) 13 j 0) (r' := fun k => va_up (y.1 34) (900 * n + q) 0 (900 * n + k)) (show rgr 60 900 (x.2.1 10 2) (x.2.1 10 3) (x.2.1 11) (y.1 37 n) (fun j => y.1 34 (900 * n + j)) tm from h.r2) ht h0 h4 eq (fun k _ => seg_10)
  have e10 := fo_form f1 f2 f3
  have f411 : (fX8_forgetOld_10 tm' (sC (sC (sC x 12 1 (nI j)) 12 2 (x.2.1 12 2 - x.2.1 13 j)) 13 j 0)).2.1 11 = x.2.1 11 := by
    funext k
    exact f3 11 k (fun e => absurd e.1 (by decide))
  rw [f411] at f4
  generalize (fX8_forgetOld_10 tm' (sC (sC (sC x 12 1 (nI j)) 12 2 (x.2.1 12 2 - x.2.1 13 j)) 13 j 0)).2.1 10 2 = a1 at e10 f4
  generalize (fX8_forgetOld_10 tm' (sC (sC (sC x 12 1 (nI j)) 12 2 (x.2.1 12 2 - x.2.1 13 j)) 13 j 0)).2.1 10 3 = a2 at e10 f4 f5
  obtain ⟨g1, g2, g3, g4, g5⟩ := fo_7 (x := sC (sC (sC (sC (sC x 12 1 (nI j)) 12 2 (x.2.1 12 2 - x.2.1 13 j)) 13 j 0) 10 2 a1) 10 3 a2) (r' := fun k => va_up (y.1 33) (3600 * n + j) 0 (3600 * n + k)) (show rgr 20 3600 (x.2.1 7 2) (x.2.1 7 3) (x.2.1 8) (y.1 36 n) (fun j => y.1 33 (3600 * n + j)) tm from h.r1) ht h0 h4 ej (fun k _ => seg_7)
  have e7 := fo_form g1 g2 g3
  have g48 : (fX8_forgetOld_7 tm' (sC (sC (sC (sC (sC x 12 1 (nI j)) 12 2 (x.2.1 12 2 - x.2.1 13 j)) 13 j 0) 10 2 a1) 10 3 a2)).2.1 8 = x.2.1 8 := by
    funext k
    exact g3 8 k (fun e => absurd e.1 (by decide))
  rw [g48] at g4
  generalize (fX8_forgetOld_7 tm' (sC (sC (sC (sC (sC x 12 1 (nI j)) 12 2 (x.2.1 12 2 - x.2.1 13 j)) 13 j 0) 10 2 a1) 10 3 a2)).2.1 7 2 = a3 at e7 g4
  generalize (fX8_forgetOld_7 tm' (sC (sC (sC (sC (sC x 12 1 (nI j)) 12 2 (x.2.1 12 2 - x.2.1 13 j)) 13 j 0) 10 2 a1) 10 3 a2)).2.1 7 3 = a4 at e7 g4
  refine ⟨a1, a2, a3, a4, j, q, ?_, ?_, hj, ej, g4, f4, f5⟩
  · unfold fX1_beginTick
    rw [eA, e10, e7]
  · unfold bst
    rw [tn hn, hy, ex, ey]
theorem bt_ch (hn : n < 3) (h : CH 0 n x.2.1 y tm) (h0 : 0 ≤ tm.toInt) (h4 : tm.toInt ≤ 400000) (ht : tm'.toInt = tm.toInt + 1) (hy : y.1 0 45 = tm') (lf : LF x.2.1) (p10 : P10 x.2.1) (hid : ID n x.2.1 y tm) : CH 0 n (fX1_beginTick tm' x).2.1 (bst (nI n) y) tm' ∧ (fX1_beginTick tm' x).2.1 0 10 = 0 ∧ LF (fX1_beginTick tm' x).2.1 ∧ P10 (fX1_beginTick tm' x).2.1 ∧ ID n (fX1_beginTick tm' x).2.1 (bst (nI n) y) tm ∧ (fX1_beginTick tm' x).1 = x.1 ∧ (fX1_beginTick tm' x).2.2 = x.2.2 := by
  obtain ⟨a1, a2, a3, a4, j, q, e1, e2, hj, ej, r1, r2, r3⟩ := bt_form hn h h0 h4 ht hy
  rw [e1, e2]
  have hco : ∀ k, k < 3600 → va_up (x.2.1 13) j 0 k = va_up (y.1 32) (3600 * n + j) 0 (3600 * n + k) := by
    intro k hk
    rw [seg_7]
    by_cases e : k = j
    · subst e
      rw [va_up_self, if_pos rfl]
    · rw [va_up_ne _ _ e, if_neg e]; exact h.co k hk
  have hla : lar (x.2.1 6 1) (y.1 21 n) tm' := by
    rcases h.la with q | ⟨l1, l2, l3⟩
    · exact Or.inl q
    · exact Or.inr ⟨l1, l2, by omega⟩
  refine ⟨⟨h.ph, h.al, h.st, h.wa, (by show (0 : Int32) = va_up (y.1 30) n 0 n; rw [va_up_self]), h.cf, h.we, h.am, h.ra, h.le, h.ma, h.de, h.bo, h.fl, h.pr, h.ti, h.bu, h.ai, h.op, (by show x.2.1 12 2 - x.2.1 13 j = va_up (y.1 35) n _ n; rw [va_up_self, h.su, h.co j hj]), hco, (by show (nI j).toInt = tm'.toInt % 3600; rw [nI_toInt (by omega)]; exact ej), h.pd, hla, h.ty, h.tc, h.ed, h.ru, h.nu, h.re, (by show rgr 20 3600 a3 a4 (x.2.1 8) (va_up (y.1 36) n _ n) (fun k => va_up (y.1 33) (3600 * n + j) 0 (3600 * n + k)) tm'; rw [va_up_self]; exact r1), (by show rgr 60 900 a1 a2 (x.2.1 11) (va_up (y.1 37) n _ n) (fun k => va_up (y.1 34) (900 * n + q) 0 (900 * n + k)) tm'; rw [va_up_self]; exact r2)⟩, rfl, lf, ?_, fun b1 b2 => hid b1 b2, rfl, rfl⟩
  rcases p10 with q | q
  · exact Or.inl (by show a2.toInt < 60; omega)
  · exact Or.inr q
end S17
