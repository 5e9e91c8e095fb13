/-! a stroke -/
section S13
variable {b n T B : Nat} {x : FS} {y : RS} {tm : Int32} {gd : Nat → Nat → Int32}
theorem st_A {a : Nat} (h : CH b n x.2.1 y tm) : CH b n (sC (sC (sC (sC (sC x 13 a (x.2.1 13 a + 1)) 12 2 (x.2.1 12 2 + 1)) 0 8 (x.2.1 0 8 + 1)) 9 2 (x.2.1 9 2 + 6)) 4 3 (x.2.1 4 3 + 1)).2.1 (sR (sR (sR (sR (sR y 18 n (y.1 18 n + 1)) 31 n (y.1 31 n + 1)) 35 n (y.1 35 n + 1)) 32 (3600 * n + a) (y.1 32 (3600 * n + a) + 1)) 25 n (y.1 25 n + 6)) tm := by
  have hco : ∀ j, j < 3600 → va_up (x.2.1 13) a (x.2.1 13 a + 1) j = va_up (y.1 32) (3600 * n + a) (y.1 32 (3600 * n + a) + 1) (3600 * n + j) := by
    intro j hj
    rw [seg_7]
    by_cases e : j = a
    · subst e
      rw [va_up_self, if_pos rfl, h.co j hj]
    · rw [va_up_ne _ _ e, if_neg e]; exact h.co j hj
  exact ⟨h.ph, h.al, (by show x.2.1 0 8 + 1 = va_up (y.1 31) n _ n; rw [va_up_self, h.st]), h.wa, h.dn, h.cf, h.we, h.am, h.ra, h.le, (by show x.2.1 4 3 + 1 = va_up (y.1 18) n _ n; rw [va_up_self, h.ma]), h.de, h.bo, h.fl, (by show x.2.1 9 2 + 6 = va_up (y.1 25) n _ n; rw [va_up_self, h.pr]), h.ti, h.bu, h.ai, h.op, (by show x.2.1 12 2 + 1 = va_up (y.1 35) n _ n; rw [va_up_self, h.su]), hco, h.at_, h.pd, h.la, h.ty, h.tc, h.ed, h.ru, h.nu, h.re, h.r1, h.r2⟩
theorem st_B (h : CH (b + 1) n x.2.1 y tm) : CH b n x.2.1 (sR y 20 n (y.1 20 n - 1)) tm := by
  have hb := h.bo
  have e : (y.1 20 n - 1).toInt = (y.1 20 n).toInt - 1 := i32_sub (by rw [show (1 : Int32).toInt = 1 from rfl]; have := hb.1; have := hb.2.1; omega) (by rw [show (1 : Int32).toInt = 1 from rfl]; have := hb.2.2; omega)
  exact ⟨h.ph, h.al, h.st, h.wa, h.dn, h.cf, h.we, h.am, h.ra, h.le, h.ma, h.de, (by show bor b (x.2.1 6 2) (va_up (y.1 20) n (y.1 20 n - 1) n); rw [va_up_self]; have h1 := hb.1; exact ⟨by rw [e]; omega, hb.2.1, by rw [e]; have := hb.2.2; omega⟩), h.fl, h.pr, h.ti, h.bu, h.ai, h.op, h.su, h.co, h.at_, h.pd, h.la, h.ty, h.tc, h.ed, h.ru, h.nu, h.re, h.r1, h.r2⟩
theorem st_C0 (h : CH b n x.2.1 y tm) : CH b n (sC x 9 4 0).2.1 (sR y 27 n 0) tm := ⟨h.ph, h.al, h.st, h.wa, h.dn, h.cf, h.we, h.am, h.ra, h.le, h.ma, h.de, h.bo, h.fl, h.pr, h.ti, (by show (0 : Int32) = va_up (y.1 27) n 0 n; rw [va_up_self]), h.ai, h.op, h.su, h.co, h.at_, h.pd, h.la, h.ty, h.tc, h.ed, h.ru, h.nu, h.re, h.r1, h.r2⟩
theorem st_C1 {i j : Nat} (h : CH b n x.2.1 y tm) (hk : (x.2.1 10 3).toInt < 60) (hi : i = ((x.2.1 10 2).toInt.toNat + (x.2.1 10 3).toInt.toNat) % 60) (hj : (j : Int) = tm.toInt % 900) : CH b n (sC (sC (sC x 9 4 (x.2.1 9 4 + 1)) 11 i tm) 10 3 (x.2.1 10 3 + 1)).2.1 (sR (sR (sR y 27 n (y.1 27 n + 1)) 34 (900 * n + j) (y.1 34 (900 * n + j) + 1)) 37 n (y.1 37 n + 1)) tm := by
  have hr : rgr 60 900 (x.2.1 10 2) (x.2.1 10 3 + 1) (va_up (x.2.1 11) i tm) (y.1 37 n + 1) (fun q => va_up (y.1 34) (900 * n + j) (y.1 34 (900 * n + j) + 1) (900 * n + q)) tm := rg_add_10 h.r2 hk hi hj (fun q _ => by
    show va_up (y.1 34) (900 * n + j) (y.1 34 (900 * n + j) + 1) (900 * n + q) = if q = j then y.1 34 (900 * n + q) + 1 else y.1 34 (900 * n + q)
    rw [seg_10]
    by_cases e : q = j
    · rw [if_pos e, if_pos e, e]
    · rw [if_neg e, if_neg e])
  exact ⟨h.ph, h.al, h.st, h.wa, h.dn, h.cf, h.we, h.am, h.ra, h.le, h.ma, h.de, h.bo, h.fl, h.pr, h.ti, (by show x.2.1 9 4 + 1 = va_up (y.1 27) n (y.1 27 n + 1) n; rw [va_up_self, h.bu]), h.ai, h.op, h.su, h.co, h.at_, h.pd, h.la, h.ty, h.tc, h.ed, h.ru, h.nu, h.re, h.r1, (by show rgr 60 900 (x.2.1 10 2) (x.2.1 10 3 + 1) (va_up (x.2.1 11) i tm) (va_up (y.1 37) n (y.1 37 n + 1) n) (fun q => va_up (y.1 34) (900 * n + j) (y.1 34 (900 * n + j) + 1) (900 * n + q)) tm; rw [va_up_self]; exact hr)⟩
theorem st_D {v : Int32} (h : CH b n x.2.1 y tm) : CH b n (sC x 4 2 v).2.1 (sR y 17 n v) tm := ⟨h.ph, h.al, h.st, h.wa, h.dn, h.cf, h.we, h.am, h.ra, (by show v = va_up (y.1 17) n v n; rw [va_up_self]), h.ma, h.de, h.bo, h.fl, h.pr, h.ti, h.bu, h.ai, h.op, h.su, h.co, h.at_, h.pd, h.la, h.ty, h.tc, h.ed, h.ru, h.nu, h.re, h.r1, h.r2⟩
theorem least10 {r : Int32} {Z : RS} : fX11_least r 10 Z = (if (10 : Int32) < r then (10 : Int32) else r) := by
  unfold fX11_least
  by_cases q : (10 : Int32) < r
  · rw [if_pos q, if_pos (by rw [Int32.lt_iff_toInt_lt] at q; rw [Int32.le_iff_toInt_le]; omega)]
  · rw [if_neg q]
    by_cases q2 : (10 : Int32) ≤ r
    · rw [if_pos q2]
      rw [Int32.lt_iff_toInt_lt] at q
      rw [Int32.le_iff_toInt_le] at q2
      exact i32_of (by omega)
    · rw [if_neg q2]
theorem done_ch (h : CH b n x.2.1 y tm) {Z : RS} : CH 0 n (fX7_keepOpen (sC (sC x 0 10 1) 6 2 0)).2.1 (sR (sR (sR (sR y 30 n 1) 17 n (-1)) 20 n 0) 16 n (fX11_least (y.1 16 n) 10 Z)) tm := by
  rw [least10, ← h.ra]
  have hr : 0 ≤ (if (10 : Int32) < x.2.1 4 1 then (10 : Int32) else x.2.1 4 1).toInt ∧ (if (10 : Int32) < x.2.1 4 1 then (10 : Int32) else x.2.1 4 1).toInt ≤ 9999 := by
    by_cases q : (10 : Int32) < x.2.1 4 1
    · rw [if_pos q]; decide
    · rw [if_neg q]; exact h.nu.1
  exact ⟨h.ph, h.al, h.st, h.wa, (by show (1 : Int32) = va_up (y.1 30) n 1 n; rw [va_up_self]), h.cf, h.we, h.am, (by show (if (10 : Int32) < x.2.1 4 1 then (10 : Int32) else x.2.1 4 1) = va_up (y.1 16) n _ n; rw [va_up_self]), (by show (-1 : Int32) = va_up (y.1 17) n (-1) n; rw [va_up_self]), h.ma, h.de, (by show bor 0 0 (va_up (y.1 20) n 0 n); rw [va_up_self]; exact ⟨rfl, by decide, by decide⟩), h.fl, h.pr, h.ti, h.bu, h.ai, h.op, h.su, h.co, h.at_, (h.pd.elim (fun a => Or.inl ⟨a.1, a.2.1, by show (if (10 : Int32) < x.2.1 4 1 then (10 : Int32) else x.2.1 4 1) = 0; rw [a.2.2]; decide⟩) (fun a => Or.inr a)), h.la, h.ty, h.tc, h.ed, h.ru, ⟨hr, h.nu.2⟩, h.re, h.r1, h.r2⟩
def RES (b n : Nat) (x : FS) (tm : Int32) (X : FS) (Y : RS) : Prop := G X Y ∧ ((CH b n X.2.1 Y tm ∧ X.2.1 0 6 = 7 ∧ X.2.1 0 10 = 0) ∨ (CH 0 n X.2.1 Y tm ∧ ¬ (X.2.1 0 6 = 7 ∧ X.2.1 0 10 = 0))) ∧ LF X.2.1 ∧ P10 X.2.1 ∧ (X.2.1 0 6 = 7 ∨ X.2.1 0 6 = 8) ∧ X.2.1 1 6 = x.2.1 1 6
/-- the end of a stroke: the program is done, or not -/
theorem st_end {X : FS} {Y : RS} {last p2 : Int32} (hn : n < 3) (hG : G X Y) (h : (CH b n X.2.1 Y tm ∧ X.2.1 0 6 = 7 ∧ X.2.1 0 10 = 0) ∨ (CH 0 n X.2.1 Y tm ∧ X.2.1 0 6 = 8)) (hok : okR T B Y) (hl : (last = 0 ∧ LF X.2.1) ∨ last = 1) (p10 : P10 X.2.1) (hi : X.2.1 1 6 = x.2.1 1 6) : RES b n x tm (fX10_makeStroke_J52 n X last) (fX11_stroke_J209 (nI n) p2 Y last) := by
  have hph : X.2.1 0 6 = 7 ∨ X.2.1 0 6 = 8 := by
    rcases h with q | q
    · exact Or.inl q.2.1
    · exact Or.inr q.2
  unfold fX10_makeStroke_J52 fX11_stroke_J209
  rcases hl with ⟨l0, lf⟩ | l1
  · rw [if_pos l0, if_pos l0]
    refine ⟨hG, ?_, lf, p10, hph, hi⟩
    rcases h with q | q
    · exact Or.inl q
    · exact Or.inr ⟨q.1, fun a => by rw [q.2] at a; exact absurd a.1 (by decide)⟩
  · rw [if_neg (by rw [l1]; decide), if_neg (by rw [l1]; decide), tn hn]
    have hD : CH 0 n (fX7_keepOpen (sC (sC X 0 10 1) 6 2 0)).2.1 (sR (sR (sR (sR Y 30 n 1) 17 n (-1)) 20 n 0) 16 n (fX11_least (Y.1 16 n) 10 (sR (sR (sR Y 30 n 1) 17 n (-1)) 20 n 0))) tm := by
      rcases h with q | q
      · exact done_ch q.1
      · exact done_ch q.1
    have hG2 : G (fX7_keepOpen (sC (sC X 0 10 1) 6 2 0)) (sR (sR (sR (sR Y 30 n 1) 17 n (-1)) 20 n 0) 16 n (fX11_least (Y.1 16 n) 10 (sR (sR (sR Y 30 n 1) 17 n (-1)) 20 n 0))) := G_r (by decide) (by decide) (G_r (by decide) (by decide) (G_r (by decide) (by decide) (G_r (by decide) (by decide) hG)))
    have hok2 : okR T B (sR (sR (sR (sR Y 30 n 1) 17 n (-1)) 20 n 0) 16 n (fX11_least (Y.1 16 n) 10 (sR (sR (sR Y 30 n 1) 17 n (-1)) 20 n 0))) := okR_sR rfl (okR_sR rfl (okR_sR rfl (okR_sR rfl hok)))
    have c1 : (fX7_keepOpen (sC (sC X 0 10 1) 6 2 0)).2.1 0 6 = X.2.1 0 6 := rfl
    have c2 : (fX7_keepOpen (sC (sC X 0 10 1) 6 2 0)).2.1 0 10 = 1 := rfl
    have c3 : (fX7_keepOpen (sC (sC X 0 10 1) 6 2 0)).2.1 4 2 = -1 := rfl
    have c4 : (fX7_keepOpen (sC (sC X 0 10 1) 6 2 0)).2.1 10 3 = X.2.1 10 3 := rfl
    have c5 : (fX7_keepOpen (sC (sC X 0 10 1) 6 2 0)).2.1 0 7 = X.2.1 0 7 := rfl
    have c6 : (fX7_keepOpen (sC (sC X 0 10 1) 6 2 0)).2.1 1 6 = X.2.1 1 6 := rfl
    generalize fX7_keepOpen (sC (sC X 0 10 1) 6 2 0) = X2 at hD hG2 c1 c2 c3 c4 c5 c6 ⊢
    generalize sR (sR (sR (sR Y 30 n 1) 17 n (-1)) 20 n 0) 16 n (fX11_least (Y.1 16 n) 10 (sR (sR (sR Y 30 n 1) 17 n (-1)) 20 n 0)) = Y2 at hD hG2 hok2 ⊢
    obtain ⟨g1, g2, g3, g4, g5, g6⟩ := s_latch (p := 5) hn (by rw [vp_in_iff]; decide) hG2 hD hok2
    rw [lb_0] at g2
    rw [if_neg (fun q => absurd q.1 (by decide))] at g4
    refine ⟨g1, Or.inr ⟨g2, fun a => ?_⟩, ?_, ?_, ?_, ?_⟩
    · rw [g3 0 10 (by decide) (by decide), c2] at a
      exact absurd a.2 one_ne
    · unfold LF
      rw [g3 4 2 (by decide) (by decide), c3]; exact Or.inl rfl
    · unfold P10
      rw [g3 10 3 (by decide) (by decide), c4]
      rcases p10 with q | q
      · exact Or.inl q
      · exact Or.inr (g6 (by rw [c5]; exact q))
    · rw [g4, c1]; exact hph
    · rw [g3 1 6 (by decide) (by decide), c6]; exact hi
theorem b0_31 : ∀ m : Fin 128, nI m.val &&& 31 = 0 → ¬ b0 (nI m.val) = 1 := by decide +kernel
theorem cnt60 (hn : n < 3) (h : CH b n x.2.1 y tm) (hok : okR T B y) (h7 : x.2.1 0 6 = 7) (p10 : P10 x.2.1) : (x.2.1 10 3).toInt < 60 := by
  rcases p10 with q | q
  · exact q
  · obtain ⟨m, hm, em⟩ := vp_in_of (hok.2.2.2.1 n hn) (by decide)
    have ea : x.2.1 0 7 = nI m := h.al.trans em
    have h1 := h.ru.1 h7
    rw [ea] at q h1
    exact absurd q (b0_31 ⟨m, hm⟩ h1)
/-- too much air, or not -/
theorem st_fin {X : FS} {Y : RS} {last p2 : Int32} (hn : n < 3) (hG : G X Y) (h : CH b n X.2.1 Y tm) (h7 : X.2.1 0 6 = 7) (hd : X.2.1 0 10 = 0) (hok : okR T B Y) (hl : (last = 0 ∧ LF X.2.1) ∨ last = 1) (hc : (X.2.1 10 3).toInt ≤ 60) (hi : X.2.1 1 6 = x.2.1 1 6) : RES b n x tm (if fX6_hasTooMuchAir X = 0 then fX10_makeStroke_J52 n X last else fX10_makeStroke_J52 n (fX10_latch n 0 X) last) (fX11_stroke_J182 (nI n) p2 Y last) := by
  have er := ring_eq h.r2
  have air : RES b n x tm (fX10_makeStroke_J52 n (fX10_latch n 0 X) last) (fX11_stroke_J203 (nI n) p2 Y last) := by
    unfold fX11_stroke_J203
    obtain ⟨g1, g2, g3, g4, g5, g6⟩ := s_latch (p := 0) hn (by rw [vp_in_iff]; decide) hG h hok
    have q0 : (0 : Int32) ≤ 4 ∧ X.2.1 0 6 = 7 := ⟨by decide, h7⟩
    unfold lb at g2
    rw [if_pos q0] at g2 g4
    refine st_end hn g1 (Or.inr ⟨g2, g4⟩) (okX11_latch (vn hn) (by rw [vp_in_iff]; decide) (fun q => absurd q (by decide)) hok) ?_ (Or.inr (g5 rfl)) ?_
    · rcases hl with ⟨l0, lf⟩ | l1
      · refine Or.inl ⟨l0, ?_⟩
        unfold LF
        rw [g3 4 2 (by decide) (by decide)]; exact lf
      · exact Or.inr l1
    · rw [g3 1 6 (by decide) (by decide)]; exact hi
  unfold fX6_hasTooMuchAir fX11_stroke_J182
  rw [tn hn, ← h.bu, ← er]
  by_cases q5 : (5 : Int32) ≤ X.2.1 9 4
  · rw [if_pos q5, if_neg one_ne, if_pos q5]; exact air
  · rw [if_neg q5, if_neg q5]
    by_cases q60 : X.2.1 10 3 < 60
    · rw [if_pos q60, if_pos rfl, if_pos q60]
      rw [Int32.lt_iff_toInt_lt, show (60 : Int32).toInt = 60 from rfl] at q60
      exact st_end hn hG (Or.inl ⟨h, h7, hd⟩) hok hl (Or.inl q60) hi
    · rw [if_neg q60, if_neg one_ne, if_neg q60]; exact air
end S13
