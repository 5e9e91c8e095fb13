/-! a stroke as a whole -/
section S14
variable {b n T B : Nat} {x : FS} {y : RS} {tm : Int32} {gd : Nat → Nat → Int32}
theorem st_left {X : FS} {Y : RS} {p2 : Int32} (hn : n < 3) (hG : G X Y) (h : CH b n (sC X 4 3 (X.2.1 4 3 + 1)).2.1 Y tm) (h7 : X.2.1 0 6 = 7) (hd : X.2.1 0 10 = 0) (lf : LF X.2.1) (hok : okR T B Y) (hc : (X.2.1 10 3).toInt ≤ 60) (hi : X.2.1 1 6 = x.2.1 1 6) : RES b n x tm (if fX6_hasTooMuchAir (fX7_countStroke X).1 = 0 then fX10_makeStroke_J52 n (fX7_countStroke X).1 (fX7_countStroke X).2 else fX10_makeStroke_J52 n (fX10_latch n 0 (fX7_countStroke X).1) (fX7_countStroke X).2) (fX11_stroke_J147 (nI n) p2 Y) := by
  have el : X.2.1 4 2 = Y.1 17 n := h.le
  have hG1 : G (sC X 4 3 (X.2.1 4 3 + 1)) Y := hG
  unfold fX11_stroke_J147 fX11_stroke_J162
  rw [tn hn, ← el]
  by_cases l1 : X.2.1 4 2 = -1
  · have eQ : fX7_countStroke X = (sC X 4 3 (X.2.1 4 3 + 1), 0) := by
      unfold fX7_countStroke
      rw [if_pos l1]
    rw [eQ, if_neg (show ¬ X.2.1 4 2 = 1 by rw [l1]; decide), if_pos (show X.2.1 4 2 ≤ 0 by rw [l1]; decide)]
    exact st_fin hn hG1 h h7 hd hok (Or.inl ⟨rfl, Or.inl l1⟩) hc hi
  · have l2 := lf.resolve_left l1
    have l3 : ¬ X.2.1 4 2 ≤ 0 := by rw [Int32.le_iff_toInt_le, show (0 : Int32).toInt = 0 from rfl]; omega
    have e1 : (X.2.1 4 2 - 1).toInt = (X.2.1 4 2).toInt - 1 := by rw [i32_sub (by rw [show (1 : Int32).toInt = 1 from rfl]; omega) (by rw [show (1 : Int32).toInt = 1 from rfl]; omega)]; rfl
    have hD : CH b n (sC (sC X 4 3 (X.2.1 4 3 + 1)) 4 2 (X.2.1 4 2 - 1)).2.1 (sR Y 17 n (X.2.1 4 2 - 1)) tm := st_D h
    have hG2 : G (sC (sC X 4 3 (X.2.1 4 3 + 1)) 4 2 (X.2.1 4 2 - 1)) (sR Y 17 n (X.2.1 4 2 - 1)) := G_r (by decide) (by decide) hG
    have hok2 : okR T B (sR Y 17 n (X.2.1 4 2 - 1)) := okR_sR rfl hok
    rw [if_neg l3, if_neg l3]
    by_cases l4 : X.2.1 4 2 = 1
    · have l5 : X.2.1 4 2 - 1 = 0 := by rw [l4]; decide
      have eQ : fX7_countStroke X = (sC (sC X 4 3 (X.2.1 4 3 + 1)) 4 2 (X.2.1 4 2 - 1), 1) := by
        unfold fX7_countStroke
        rw [if_neg l1, if_pos l5]
      rw [eQ, if_pos l4]
      exact st_fin hn hG2 hD h7 hd hok2 (Or.inr rfl) hc hi
    · have l6 : ¬ (X.2.1 4 2).toInt = 1 := fun q => l4 (i32_of q)
      have l5 : ¬ X.2.1 4 2 - 1 = 0 := fun q => by
        rw [q, show (0 : Int32).toInt = 0 from rfl] at e1; omega
      have eQ : fX7_countStroke X = (sC (sC X 4 3 (X.2.1 4 3 + 1)) 4 2 (X.2.1 4 2 - 1), 0) := by
        unfold fX7_countStroke
        rw [if_neg l1, if_neg l5]
      rw [eQ, if_neg l4]
      refine st_fin hn hG2 hD h7 hd hok2 (Or.inl ⟨rfl, Or.inr ?_⟩) hc hi
      show 1 ≤ (X.2.1 4 2 - 1).toInt ∧ (X.2.1 4 2 - 1).toInt ≤ 9999990
      omega
theorem st_67 {Z : RS} {p2 : Int32} {a : Nat} (hn : n < 3) (hG : G x Z) (htm : x.1 0 3 = tm) (hA : CH b n (sC (sC (sC (sC (sC x 13 a (x.2.1 13 a + 1)) 12 2 (x.2.1 12 2 + 1)) 0 8 (x.2.1 0 8 + 1)) 9 2 (x.2.1 9 2 + 6)) 4 3 (x.2.1 4 3 + 1)).2.1 (sR Z 25 n (Z.1 25 n + 6)) tm) (h7 : x.2.1 0 6 = 7) (hd : x.2.1 0 10 = 0) (lf : LF x.2.1) (hok : okR T B Z) (hc : (x.2.1 10 3).toInt < 60) (ea : (x.2.1 12 1).toNatClampNeg = a) : RES b n x tm (fX10_makeStroke n x) (fX11_stroke_J67 (nI n) p2 Z) := by
  have eai : x.2.1 9 5 = Z.1 23 n := hA.ai
  have ebu : x.2.1 9 4 = Z.1 27 n := hA.bu
  have eZt : Z.1 0 45 = tm := hG.tm.symm.trans htm
  have ht : 0 ≤ tm.toInt := by rw [← htm]; exact hG.tb.1
  obtain ⟨Lr, o1, o2, _⟩ := hA.r2
  have eM : fX10_makeStroke n x = (if fX6_hasTooMuchAir (fX7_countStroke (fX6_carryStroke tm (sC (sC (sC x 13 a (x.2.1 13 a + 1)) 12 2 (x.2.1 12 2 + 1)) 0 8 (x.2.1 0 8 + 1)))).1 = 0 then fX10_makeStroke_J52 n (fX7_countStroke (fX6_carryStroke tm (sC (sC (sC x 13 a (x.2.1 13 a + 1)) 12 2 (x.2.1 12 2 + 1)) 0 8 (x.2.1 0 8 + 1)))).1 (fX7_countStroke (fX6_carryStroke tm (sC (sC (sC x 13 a (x.2.1 13 a + 1)) 12 2 (x.2.1 12 2 + 1)) 0 8 (x.2.1 0 8 + 1)))).2 else fX10_makeStroke_J52 n (fX10_latch n 0 (fX7_countStroke (fX6_carryStroke tm (sC (sC (sC x 13 a (x.2.1 13 a + 1)) 12 2 (x.2.1 12 2 + 1)) 0 8 (x.2.1 0 8 + 1)))).1) (fX7_countStroke (fX6_carryStroke tm (sC (sC (sC x 13 a (x.2.1 13 a + 1)) 12 2 (x.2.1 12 2 + 1)) 0 8 (x.2.1 0 8 + 1)))).2) := by
    have e1 : fX4_add x = sC (sC x 13 a (x.2.1 13 a + 1)) 12 2 (x.2.1 12 2 + 1) := by
      unfold fX4_add
      rw [ea]
    have e2 : (fX4_add x).1 0 3 = tm := htm
    have e3 : (sC (sC x 13 a (x.2.1 13 a + 1)) 12 2 (x.2.1 12 2 + 1)).2.1 0 8 = x.2.1 0 8 := rfl
    unfold fX10_makeStroke
    rw [e2, e1, e3]
  rw [eM]
  unfold fX11_stroke_J67 fX11_stroke_J104
  rw [tn hn]
  have e5 : ∀ v : Int32, (sR Z 25 n v).1 23 n = Z.1 23 n := fun _ => rfl
  have e6 : ∀ v : Int32, (sR Z 25 n v).1 0 45 = Z.1 0 45 := fun _ => rfl
  rw [e5, e6, eZt, ← eai, ← ebu]
  by_cases c0 : x.2.1 9 5 = 0
  · have eC : fX6_carryStroke tm (sC (sC (sC x 13 a (x.2.1 13 a + 1)) 12 2 (x.2.1 12 2 + 1)) 0 8 (x.2.1 0 8 + 1)) = sC (sC (sC (sC (sC x 13 a (x.2.1 13 a + 1)) 12 2 (x.2.1 12 2 + 1)) 0 8 (x.2.1 0 8 + 1)) 9 2 (x.2.1 9 2 + 6)) 9 4 0 := by
      unfold fX6_carryStroke
      exact if_pos c0
    rw [eC, if_pos c0, if_pos c0]
    have hA2 := st_C0 hA
    exact st_left hn (show G _ _ from G_r (by decide) (by decide) (G_r (by decide) (by decide) hG)) ⟨hA2.ph, hA2.al, hA2.st, hA2.wa, hA2.dn, hA2.cf, hA2.we, hA2.am, hA2.ra, hA2.le, hA2.ma, hA2.de, hA2.bo, hA2.fl, hA2.pr, hA2.ti, hA2.bu, hA2.ai, hA2.op, hA2.su, hA2.co, hA2.at_, hA2.pd, hA2.la, hA2.ty, hA2.tc, hA2.ed, hA2.ru, hA2.nu, hA2.re, hA2.r1, hA2.r2⟩ h7 hd lf (okR_sR rfl (okR_sR rfl hok)) (Int.le_of_lt hc) rfl
  · obtain ⟨j, hj, ej, ex⟩ := ix_a (c := nI n) (t := tm) (vn hn) ht
    rw [tn hn] at ex
    obtain ⟨i, hi, ei⟩ := add_10 (x := sC (sC (sC (sC (sC x 13 a (x.2.1 13 a + 1)) 12 2 (x.2.1 12 2 + 1)) 0 8 (x.2.1 0 8 + 1)) 9 2 (x.2.1 9 2 + 6)) 9 4 (x.2.1 9 4 + 1)) (p := tm) o1 (show 0 ≤ (x.2.1 10 3).toInt by have : (x.2.1 10 3).toInt = Lr.length := o2; omega) hc
    have eC : fX6_carryStroke tm (sC (sC (sC x 13 a (x.2.1 13 a + 1)) 12 2 (x.2.1 12 2 + 1)) 0 8 (x.2.1 0 8 + 1)) = sC (sC (sC (sC (sC (sC (sC x 13 a (x.2.1 13 a + 1)) 12 2 (x.2.1 12 2 + 1)) 0 8 (x.2.1 0 8 + 1)) 9 2 (x.2.1 9 2 + 6)) 9 4 (x.2.1 9 4 + 1)) 11 i tm) 10 3 (x.2.1 10 3 + 1) := by
      unfold fX6_carryStroke
      exact (if_neg c0).trans ei
    rw [eC, if_neg c0, if_neg c0, ex]
    have hA2 := st_C1 (i := i) (j := j) hA hc hi ej
    have e27 : (sR Z 25 n (Z.1 25 n + 6)).1 27 n = x.2.1 9 4 := ebu.symm
    rw [e27] at hA2
    have hc1 := i32_succ (a := x.2.1 10 3) (b := 1000) (by rw [show (1000 : Int32).toInt = 1000 from rfl]; omega)
    exact st_left hn (show G _ _ from G_r (by decide) (by decide) (G_r (by decide) (by decide) (G_r (by decide) (by decide) (G_r (by decide) (by decide) hG)))) ⟨hA2.ph, hA2.al, hA2.st, hA2.wa, hA2.dn, hA2.cf, hA2.we, hA2.am, hA2.ra, hA2.le, hA2.ma, hA2.de, hA2.bo, hA2.fl, hA2.pr, hA2.ti, hA2.bu, hA2.ai, hA2.op, hA2.su, hA2.co, hA2.at_, hA2.pd, hA2.la, hA2.ty, hA2.tc, hA2.ed, hA2.ru, hA2.nu, hA2.re, hA2.r1, hA2.r2⟩ h7 hd lf (okR_sR rfl (okR_sR rfl (okR_sR rfl (okR_sR rfl hok)))) (by show (x.2.1 10 3 + 1).toInt ≤ 60; rw [hc1]; omega) rfl
theorem s_stroke {e : Nat} {p2 : Int32} (hn : n < 3) (hG : G x y) (htm : x.1 0 3 = tm) (h : CH (b + e) n x.2.1 y tm) (he : (p2 = 0 ∧ e = 0) ∨ (p2 = 1 ∧ e = 1)) (h7 : x.2.1 0 6 = 7) (hd : x.2.1 0 10 = 0) (lf : LF x.2.1) (p10 : P10 x.2.1) (hok : okR T B y) : RES b n x tm (fX10_makeStroke n x) (fX11_stroke (nI n) p2 y) := by
  have hc := cnt60 hn h hok h7 p10
  have ht : 0 ≤ tm.toInt := by rw [← htm]; exact hG.tb.1
  obtain ⟨j, hj, ej, ex⟩ := ix_h (c := nI n) (t := tm) (vn hn) ht
  rw [tn hn] at ex
  have ea : (x.2.1 12 1).toNatClampNeg = j := by
    have := h.at_
    rw [clamp_toNat (by omega)]; omega
  have et : y.1 0 45 = tm := hG.tm.symm.trans htm
  unfold fX11_stroke
  rw [tn hn, et, ex]
  rcases he with ⟨e1, e2⟩ | ⟨e1, e2⟩
  · subst e2
    rw [if_pos e1]
    have hA := st_A (a := j) h
    exact st_67 hn (G_r (by decide) (by decide) (G_r (by decide) (by decide) (G_r (by decide) (by decide) (G_r (by decide) (by decide) hG)))) htm hA h7 hd lf (okR_sR rfl (okR_sR rfl (okR_sR rfl (okR_sR rfl hok)))) hc ea
  · subst e2
    rw [if_neg (by rw [e1]; decide)]
    have hA := st_A (a := j) (st_B h)
    exact st_67 hn (G_r (by decide) (by decide) (G_r (by decide) (by decide) (G_r (by decide) (by decide) (G_r (by decide) (by decide) (G_r (by decide) (by decide) hG))))) htm ⟨hA.ph, hA.al, hA.st, hA.wa, hA.dn, hA.cf, hA.we, hA.am, hA.ra, hA.le, hA.ma, hA.de, hA.bo, hA.fl, hA.pr, hA.ti, hA.bu, hA.ai, hA.op, hA.su, hA.co, hA.at_, hA.pd, hA.la, hA.ty, hA.tc, hA.ed, hA.ru, hA.nu, hA.re, hA.r1, hA.r2⟩ h7 hd lf (okR_sR rfl (okR_sR rfl (okR_sR rfl (okR_sR rfl (okR_sR rfl hok))))) hc ea
end S14
