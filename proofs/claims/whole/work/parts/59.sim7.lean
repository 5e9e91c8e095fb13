/-! boluses -/
theorem clamp_toNat {o : Int32} (h : 0 ≤ o.toInt) : o.toNatClampNeg = o.toInt.toNat := by
  obtain ⟨a, ha, e⟩ := nI_of (x := o) (by rw [Int32.lt_iff_toInt_lt, show (0 : Int32).toInt = 0 from rfl]; omega)
  rw [e, nI_toInt ha, nI_clamp ha]; omega
theorem add_7 {x : FS} {p : Int32} (ho : 0 ≤ (x.2.1 7 2).toInt ∧ (x.2.1 7 2).toInt < 20) (hk0 : 0 ≤ (x.2.1 7 3).toInt) (hk : (x.2.1 7 3).toInt < 20) : ∃ i : Nat, i = ((x.2.1 7 2).toInt.toNat + (x.2.1 7 3).toInt.toNat) % 20 ∧ fX8_add_7 p x = sC (sC x 8 i p) 7 3 (x.2.1 7 3 + 1) := by
  refine ⟨_, rfl, ?_⟩
  have e1 : (x.2.1 7 2 + x.2.1 7 3).toInt = (x.2.1 7 2).toInt + (x.2.1 7 3).toInt := i32_add (by omega) (by omega)
  have q1 : ¬ (20 : Int32) ≤ x.2.1 7 3 := by rw [Int32.le_iff_toInt_le, show (20 : Int32).toInt = 20 from rfl]; omega
  unfold fX8_add_7
  rw [if_neg q1]
  by_cases q2 : (20 : Int32) ≤ x.2.1 7 2 + x.2.1 7 3
  · rw [if_pos q2]
    rw [Int32.le_iff_toInt_le, show (20 : Int32).toInt = 20 from rfl, e1] at q2
    have e2 : (x.2.1 7 2 + x.2.1 7 3 - 20).toInt = (x.2.1 7 2).toInt + (x.2.1 7 3).toInt - 20 := by rw [i32_sub (by rw [show (20 : Int32).toInt = 20 from rfl]; omega) (by rw [show (20 : Int32).toInt = 20 from rfl]; omega), e1]; rfl
    have e3 : (x.2.1 7 2 + x.2.1 7 3 - 20).toNatClampNeg = ((x.2.1 7 2).toInt.toNat + (x.2.1 7 3).toInt.toNat) % 20 := by rw [clamp_toNat (by omega), e2]; omega
    rw [e3]
  · rw [if_neg q2]
    rw [Int32.le_iff_toInt_le, show (20 : Int32).toInt = 20 from rfl, e1] at q2
    have e3 : (x.2.1 7 2 + x.2.1 7 3).toNatClampNeg = ((x.2.1 7 2).toInt.toNat + (x.2.1 7 3).toInt.toNat) % 20 := by rw [clamp_toNat (by omega), e1]; omega
    rw [e3]
theorem seg_7 {r : Nat → Int32} {n j q : Nat} {v : Int32} : va_up r (3600 * n + j) v (3600 * n + q) = if q = j then v else r (3600 * n + q) := by
  by_cases e : q = j
  · rw [if_pos e, e, va_up_self]
  · rw [if_neg e, va_up_ne _ _ (by omega)]
theorem add_10 {x : FS} {p : Int32} (ho : 0 ≤ (x.2.1 10 2).toInt ∧ (x.2.1 10 2).toInt < 60) (hk0 : 0 ≤ (x.2.1 10 3).toInt) (hk : (x.2.1 10 3).toInt < 60) : ∃ i : Nat, i = ((x.2.1 10 2).toInt.toNat + (x.2.1 10 3).toInt.toNat) % 60 ∧ fX8_add_10 p x = sC (sC x 11 i p) 10 3 (x.2.1 10 3 + 1) := by
  refine ⟨_, rfl, ?_⟩
  have e1 : (x.2.1 10 2 + x.2.1 10 3).toInt = (x.2.1 10 2).toInt + (x.2.1 10 3).toInt := i32_add (by omega) (by omega)
  have q1 : ¬ (60 : Int32) ≤ x.2.1 10 3 := by rw [Int32.le_iff_toInt_le, show (60 : Int32).toInt = 60 from rfl]; omega
  unfold fX8_add_10
  rw [if_neg q1]
  by_cases q2 : (60 : Int32) ≤ x.2.1 10 2 + x.2.1 10 3
  · rw [if_pos q2]
    rw [Int32.le_iff_toInt_le, show (60 : Int32).toInt = 60 from rfl, e1] at q2
    have e2 : (x.2.1 10 2 + x.2.1 10 3 - 60).toInt = (x.2.1 10 2).toInt + (x.2.1 10 3).toInt - 60 := by rw [i32_sub (by rw [show (60 : Int32).toInt = 60 from rfl]; omega) (by rw [show (60 : Int32).toInt = 60 from rfl]; omega), e1]; rfl
    have e3 : (x.2.1 10 2 + x.2.1 10 3 - 60).toNatClampNeg = ((x.2.1 10 2).toInt.toNat + (x.2.1 10 3).toInt.toNat) % 60 := by rw [clamp_toNat (by omega), e2]; omega
    rw [e3]
  · rw [if_neg q2]
    rw [Int32.le_iff_toInt_le, show (60 : Int32).toInt = 60 from rfl, e1] at q2
    have e3 : (x.2.1 10 2 + x.2.1 10 3).toNatClampNeg = ((x.2.1 10 2).toInt.toNat + (x.2.1 10 3).toInt.toNat) % 60 := by rw [clamp_toNat (by omega), e1]; omega
    rw [e3]
theorem seg_10 {r : Nat → Int32} {n j q : Nat} {v : Int32} : va_up r (900 * n + j) v (900 * n + q) = if q = j then v else r (900 * n + q) := by
  by_cases e : q = j
  · rw [if_pos e, e, va_up_self]
  · rw [if_neg e, va_up_ne _ _ (by omega)]
section S9
variable {n T B : Nat} {x : FS} {y : RS} {tm : Int32} {gd : Nat → Nat → Int32}
theorem prog_of {b : Nat} (h : CH b n x.2.1 y tm) (hv : vp_in (y.1 15 n) 16) : vp_in (x.2.1 4 0) 16 ∧ y.1 15 n = x.2.1 4 0 := by
  rcases h.pd with ⟨_, q, _⟩ | q
  · rw [q, vp_in_iff] at hv; exact absurd hv.1 (by decide)
  · exact q
theorem prog_7 {b : Nat} (hn : n < 3) (h : CH b n x.2.1 y tm) (hok : okR T B y) (h7 : x.2.1 0 6 = 7) : vp_in (x.2.1 4 0) 16 ∧ y.1 15 n = x.2.1 4 0 := prog_of h (okR_pv hok hn (Or.inl (by rw [← h.ph, h7]; decide)))
theorem ring_eq {cap span : Nat} {o k w u : Int32} {t r : Nat → Int32} (h : rgr cap span o k t w r u) : k = w := by
  obtain ⟨L, _, l2, l3, _⟩ := h
  exact i32_of (l2.trans l3.symm)
theorem sr_refuse {a v : Int32} (hG : G x y) (he : 0 ≤ (y.1 0 50).toInt) (h : CH 0 n x.2.1 y tm) (lf : LF x.2.1) (p10 : P10 x.2.1) : SR n x tm (fX10_note n a v x, -1) (fX11_note a (nI n) v y, 0) := by
  have e := note_c (n := n) (a := a) (v := v) hG he
  refine ⟨s_note hG he, ?_, ?_, ?_, Or.inl ⟨rfl, rfl, ?_⟩, ?_⟩
  · show CH 0 n (fX10_note n a v x).2.1 _ tm
    rw [e]; exact ch_note h
  · show LF (fX10_note n a v x).2.1
    rw [e]; exact lf
  · show P10 (fX10_note n a v x).2.1
    rw [e]; exact p10
  · show (fX10_note n a v x).2.1 0 6 = _
    rw [e]
  · show (fX10_note n a v x).2.1 1 6 = _
    rw [e]
theorem bol_ch {Bv : Int32} {i j : Nat} (h : CH 0 n x.2.1 y tm) (ht : 0 ≤ tm.toInt) (hB : 0 ≤ Bv.toInt ∧ Bv.toInt ≤ 5000) (hk : (x.2.1 7 3).toInt < 20) (hi : i = ((x.2.1 7 2).toInt.toNat + (x.2.1 7 3).toInt.toNat) % 20) (hj : (j : Int) = tm.toInt % 3600) : CH 0 n (sC (sC (sC (sC x 8 i tm) 7 3 (x.2.1 7 3 + 1)) 6 1 tm) 6 2 Bv).2.1 (sR (sR (sR (sR y 20 n Bv) 21 n tm) 33 (3600 * n + j) (y.1 33 (3600 * n + j) + 1)) 36 n (y.1 36 n + 1)) tm := by
  have hr : rgr 20 3600 (x.2.1 7 2) (x.2.1 7 3 + 1) (va_up (x.2.1 8) i tm) (y.1 36 n + 1) (fun q => va_up (y.1 33) (3600 * n + j) (y.1 33 (3600 * n + j) + 1) (3600 * n + q)) tm := rg_add_7 h.r1 hk hi hj (fun q _ => by
    show va_up (y.1 33) (3600 * n + j) (y.1 33 (3600 * n + j) + 1) (3600 * n + q) = if q = j then y.1 33 (3600 * n + q) + 1 else y.1 33 (3600 * n + q)
    rw [seg_7]
    by_cases e : q = j
    · rw [if_pos e, if_pos e, e]
    · rw [if_neg e, if_neg e])
  exact ⟨h.ph, h.al, h.st, h.wa, h.dn, h.cf, h.we, h.am, h.ra, h.le, h.ma, h.de, (by show bor 0 Bv (va_up (y.1 20) n Bv n); rw [va_up_self]; exact ⟨Int.add_zero _, hB.1, hB.2⟩), h.fl, h.pr, h.ti, h.bu, h.ai, h.op, h.su, h.co, h.at_, h.pd, (by show lar tm (va_up (y.1 21) n tm n) tm; rw [va_up_self]; exact Or.inr ⟨rfl, ht, Int.le_refl _⟩), h.ty, h.tc, h.ed, h.ru, h.nu, h.re, (by show rgr 20 3600 (x.2.1 7 2) (x.2.1 7 3 + 1) (va_up (x.2.1 8) i tm) (va_up (y.1 36) n (y.1 36 n + 1) n) (fun q => va_up (y.1 33) (3600 * n + j) (y.1 33 (3600 * n + j) + 1) (3600 * n + q)) tm; rw [va_up_self]; exact hr), h.r2⟩
theorem sr_bolus (hn : n < 3) (hD : DR gd y) (hV : DV y) (hG : G x y) (htm : x.1 0 3 = tm) (h : CH 0 n x.2.1 y tm) (lf : LF x.2.1) (p10 : P10 x.2.1) (hok : okR T B y) : SR n x tm (fX10_pressBolus gd n x) (fX11_beginBolus (nI n) y) ∧ (fX10_pressBolus gd n x).1.2.1 0 6 = x.2.1 0 6 := by
  have he : 0 ≤ (y.1 0 50).toInt := hok.2.1.1
  have ht : 0 ≤ tm.toInt := by rw [← htm]; exact hG.tb.1
  have ht4 : tm.toInt ≤ 400000 := by rw [← htm]; exact hG.tb.2
  unfold fX10_pressBolus fX11_beginBolus
  rw [tn hn, ← h.ph]
  by_cases h7 : x.2.1 0 6 = 7
  · rw [if_pos h7, if_pos h7]
    obtain ⟨z1, z2⟩ := prog_7 hn h hok h7
    have v := hV _ (vi_lt z1)
    have ref := sr_refuse (a := 6) (v := 0) hG he h lf p10
    have ref2 : (fX10_note n 6 0 x).2.1 0 6 = x.2.1 0 6 := by rw [note_c hG he]
    have ek := ring_eq h.r1
    have eb : (x.2.1 6 2 = 0) ↔ (y.1 20 n = 0) := by
      have := h.bo.1
      constructor
      · intro q; refine i32_of ?_; rw [← this, q]; rfl
      · intro q; rw [q] at this; refine i32_of ?_; rw [show (0 : Int32).toInt = 0 from rfl] at this ⊢; omega
    obtain ⟨j, hj, ej, ex⟩ := ix_h (c := nI n) (t := tm) (vn hn) ht
    rw [tn hn] at ex
    obtain ⟨Lr, o1, o2, _⟩ := h.r1
    have hk0 : 0 ≤ (x.2.1 7 3).toInt := by omega
    rw [z2]
    unfold fX0_mayBegin fX0_begin
    rw [dr_row hD z1 (k := 9) (by decide) (by decide), dr_row hD z1 (k := 11) (by decide) (by decide), dr_row hD z1 (k := 12) (by decide) (by decide), ← ek, ← hG.tm, htm, ex]
    have er : (sR y 20 n (y.1 9 (x.2.1 4 0).toNatClampNeg)).1 20 n = y.1 9 (x.2.1 4 0).toNatClampNeg := va_up_self _ _ _
    rw [er]
    generalize y.1 9 (x.2.1 4 0).toNatClampNeg = Bv at v ⊢
    generalize y.1 11 (x.2.1 4 0).toNatClampNeg = Lk at v ⊢
    generalize y.1 12 (x.2.1 4 0).toNatClampNeg = Mn at v ⊢
    by_cases c1 : Bv ≤ 0
    · rw [if_pos c1, if_pos c1, if_pos rfl]; exact ⟨ref, ref2⟩
    · rw [if_neg c1, if_neg c1]
      by_cases c2 : x.2.1 6 2 = 0
      · rw [if_pos c2, if_pos (eb.mp c2)]
        have fin : ∀ c3 : ¬ Mn ≤ x.2.1 7 3, SR n x tm (fX10_note n 5 Bv (sC (sC (fX8_add_7 tm x) 6 1 tm) 6 2 Bv), (fX10_note n 5 Bv (sC (sC (fX8_add_7 tm x) 6 1 tm) 6 2 Bv)).2.1 0 6) (fX11_note 5 (nI n) Bv (sR (sR (sR (sR y 20 n Bv) 21 n tm) 33 (3600 * n + j) (y.1 33 (3600 * n + j) + 1)) 36 n (x.2.1 7 3 + 1)), 1) ∧ (fX10_note n 5 Bv (sC (sC (fX8_add_7 tm x) 6 1 tm) 6 2 Bv)).2.1 0 6 = x.2.1 0 6 := by
          intro c3
          rw [Int32.le_iff_toInt_le] at c3
          have hk : (x.2.1 7 3).toInt < 20 := by omega
          obtain ⟨i, hi, ei⟩ := add_7 (p := tm) o1 hk0 hk
          rw [ei, ek]
          have g2 := bol_ch (Bv := Bv) h ht v.1 hk hi ej
          rw [ek] at g2
          have hZ : G (sC (sC (sC (sC x 8 i tm) 7 3 (y.1 36 n + 1)) 6 1 tm) 6 2 Bv) (sR (sR (sR (sR y 20 n Bv) 21 n tm) 33 (3600 * n + j) (y.1 33 (3600 * n + j) + 1)) 36 n (y.1 36 n + 1)) := G_r (by decide) (by decide) (G_r (by decide) (by decide) (G_r (by decide) (by decide) (G_r (by decide) (by decide) hG)))
          refine ⟨sr_note (a := 5) (v := Bv) hZ he g2 lf p10 rfl one_ne, ?_⟩
          rw [note_c hZ he]
          rfl
        by_cases c3 : Mn ≤ x.2.1 7 3
        · rw [if_pos c3, if_pos c3, ite_self, ite_self, ite_self, if_pos rfl]; exact ⟨ref, ref2⟩
        · rw [if_neg c3, if_neg c3]
          rcases h.la with ⟨l1, l2⟩ | ⟨l1, l2, l3⟩
          · have c4 : y.1 21 n < 0 := by rw [l2]; decide
            have c5 : ¬ (tm - x.2.1 6 1) < Lk := by
              rw [Int32.lt_iff_toInt_lt, i32_sub (by omega) (by omega), l1]; omega
            rw [if_pos c4, if_neg c5, if_neg one_ne]; exact fin c3
          · have c4 : ¬ y.1 21 n < 0 := by rw [Int32.lt_iff_toInt_lt, show (0 : Int32).toInt = 0 from rfl]; omega
            rw [if_neg c4, ← l1]
            by_cases c5 : (tm - x.2.1 6 1) < Lk
            · rw [if_pos c5, if_pos c5, if_pos rfl]; exact ⟨ref, ref2⟩
            · rw [if_neg c5, if_neg c5, if_neg one_ne]; exact fin c3
      · rw [if_neg c2, if_neg (fun q => c2 (eb.mpr q)), if_pos rfl]; exact ⟨ref, ref2⟩
  · rw [if_neg h7, if_neg h7]; exact ⟨sr_no hG h lf p10, rfl⟩
end S9
