/-! strokes of a tick -/
section S15
variable {n T B : Nat} {x : FS} {y : RS} {tm : Int32} {gd : Nat → Nat → Int32}
theorem del_loop {v2 vm : Int32} {W : Int} (hn : n < 3) (hv2 : 0 ≤ v2.toInt) (hvm : 0 ≤ vm.toInt) (hW : (v2 + vm).toInt = W) (hW2 : W = v2.toInt + vm.toInt) : ∀ (k : Nat) (x : FS) (y : RS) (v4 v5 : Int32) (b : Nat), 0 ≤ v5.toInt → v5.toInt ≤ W → W - v5.toInt < k → DR gd y → G x y → x.1 0 3 = tm → LF x.2.1 → P10 x.2.1 → okR T B y → (x.2.1 0 6 = 7 ∨ x.2.1 0 6 = 8) → ((CH b n x.2.1 y tm ∧ x.2.1 0 6 = 7 ∧ x.2.1 0 10 = 0 ∧ (b : Int) = W - (if v5.toInt < v2.toInt then v2.toInt else v5.toInt)) ∨ (CH 0 n x.2.1 y tm ∧ ¬ (x.2.1 0 6 = 7 ∧ x.2.1 0 10 = 0))) → G (fX10_deliver_L50 gd n k x (v2 + vm) v4 v5).1 (fX11_deliver_L78 (nI n) k y v2 vm v4 v5).1 ∧ CH 0 n (fX10_deliver_L50 gd n k x (v2 + vm) v4 v5).1.2.1 (fX11_deliver_L78 (nI n) k y v2 vm v4 v5).1 tm ∧ LF (fX10_deliver_L50 gd n k x (v2 + vm) v4 v5).1.2.1 ∧ P10 (fX10_deliver_L50 gd n k x (v2 + vm) v4 v5).1.2.1 ∧ ((fX10_deliver_L50 gd n k x (v2 + vm) v4 v5).1.2.1 0 6 = 7 ∨ (fX10_deliver_L50 gd n k x (v2 + vm) v4 v5).1.2.1 0 6 = 8) ∧ (fX10_deliver_L50 gd n k x (v2 + vm) v4 v5).1.2.1 1 6 = x.2.1 1 6 ∧ (fX10_deliver_L50 gd n k x (v2 + vm) v4 v5).2 = (fX11_deliver_L78 (nI n) k y v2 vm v4 v5).2 := by
  intro k
  induction k with
  | zero => intro x y v4 v5 b _ _ h3; omega
  | succ k ih =>
    intro x y v4 v5 b h1 h2 h3 hD hG htm lf p10 hok hph hst
    have ht : 0 ≤ (y.1 0 45).toInt := hok.1.1
    have kp0 : Kp n y y := fun _ _ _ => rfl
    unfold fX10_deliver_L50 fX11_deliver_L78
    rw [tn hn]
    by_cases c1 : (v2 + vm) ≤ v5
    · rw [if_pos c1, if_pos c1]
      rw [Int32.le_iff_toInt_le, hW] at c1
      refine ⟨hG, ?_, lf, p10, hph, rfl, rfl⟩
      rcases hst with ⟨q1, _, _, q4⟩ | q
      · have hb : b = 0 := by
          by_cases e : v5.toInt < v2.toInt
          · rw [if_pos e] at q4; omega
          · rw [if_neg e] at q4; omega
        rw [hb] at q1; exact q1
      · exact q.1
    · rw [if_neg c1, if_neg c1]
      rw [Int32.le_iff_toInt_le, hW] at c1
      rcases hst with ⟨q1, q2, q3, q4⟩ | ⟨q1, q2⟩
      · rw [← q1.ph, ← q1.dn, ← q1.su, if_pos q2, if_pos q2, if_pos q3, if_pos q3]
        obtain ⟨z1, z2⟩ := prog_7 hn q1 hok q2
        rw [z2, dr_row hD z1 (k := 8) (by decide) (by decide)]
        by_cases c2 : x.2.1 12 2 < y.1 8 (x.2.1 4 0).toNatClampNeg
        · rw [if_pos c2, if_pos c2]
          have ev := i32_succ (a := v5) (b := v2 + vm) (by rw [hW]; omega)
          have fin : ∀ (p2 : Int32) (b1 : Nat), RES b1 n x tm (fX10_makeStroke n x) (fX11_stroke (nI n) p2 y) → (b1 : Int) = W - (if (v5 + 1).toInt < v2.toInt then v2.toInt else (v5 + 1).toInt) → G (fX10_deliver_L50 gd n k (fX10_makeStroke n x) (v2 + vm) (v4 + 1) (v5 + 1)).1 (fX11_deliver_L78 (nI n) k (fX11_stroke (nI n) p2 y) v2 vm (v4 + 1) (v5 + 1)).1 ∧ CH 0 n (fX10_deliver_L50 gd n k (fX10_makeStroke n x) (v2 + vm) (v4 + 1) (v5 + 1)).1.2.1 (fX11_deliver_L78 (nI n) k (fX11_stroke (nI n) p2 y) v2 vm (v4 + 1) (v5 + 1)).1 tm ∧ LF (fX10_deliver_L50 gd n k (fX10_makeStroke n x) (v2 + vm) (v4 + 1) (v5 + 1)).1.2.1 ∧ P10 (fX10_deliver_L50 gd n k (fX10_makeStroke n x) (v2 + vm) (v4 + 1) (v5 + 1)).1.2.1 ∧ ((fX10_deliver_L50 gd n k (fX10_makeStroke n x) (v2 + vm) (v4 + 1) (v5 + 1)).1.2.1 0 6 = 7 ∨ (fX10_deliver_L50 gd n k (fX10_makeStroke n x) (v2 + vm) (v4 + 1) (v5 + 1)).1.2.1 0 6 = 8) ∧ (fX10_deliver_L50 gd n k (fX10_makeStroke n x) (v2 + vm) (v4 + 1) (v5 + 1)).1.2.1 1 6 = x.2.1 1 6 ∧ (fX10_deliver_L50 gd n k (fX10_makeStroke n x) (v2 + vm) (v4 + 1) (v5 + 1)).2 = (fX11_deliver_L78 (nI n) k (fX11_stroke (nI n) p2 y) v2 vm (v4 + 1) (v5 + 1)).2 := by
            intro p2 b1 hR hb1
            obtain ⟨r1, r2, r3, r4, r5, r6⟩ := hR
            have kS := kpX11_stroke (y0 := y) (p2 := p2) (x := y) ht (vn hn) (fun _ _ _ => rfl)
            rw [tn hn] at kS
            have okS2 : okR T B (fX11_stroke (nI n) p2 y) := okX11_stroke (vn hn) hok
            have et : (fX10_makeStroke n x).1 0 3 = tm := by rw [r1.tm, kp_time kS, ← hG.tm]; exact htm
            obtain ⟨i1, i2, i3, i4, i5, i6, i7⟩ := ih (fX10_makeStroke n x) (fX11_stroke (nI n) p2 y) (v4 + 1) (v5 + 1) b1 (by omega) (by omega) (by omega) (dr_kp hD kS) r1 et r3 r4 okS2 r5 (by
              rcases r2 with q | q
              · exact Or.inl ⟨q.1, q.2.1, q.2.2, hb1⟩
              · exact Or.inr q)
            exact ⟨i1, i2, i3, i4, i5, i6.trans r6, i7⟩
          by_cases c3 : v5 < v2
          · rw [if_pos c3]
            rw [Int32.lt_iff_toInt_lt] at c3
            rw [if_pos c3] at q4
            refine fin 0 b (s_stroke (e := 0) hn hG htm q1 (Or.inl ⟨rfl, rfl⟩) q2 q3 lf p10 hok) ?_
            rw [ev]
            by_cases c4 : v5.toInt + 1 < v2.toInt
            · rw [if_pos c4]; exact q4
            · rw [if_neg c4]; omega
          · rw [if_neg c3]
            rw [Int32.lt_iff_toInt_lt] at c3
            rw [if_neg c3] at q4
            obtain ⟨b1, hb1⟩ : ∃ b1, b = b1 + 1 := ⟨b - 1, by omega⟩
            subst hb1
            refine fin 1 b1 (s_stroke (e := 1) hn hG htm q1 (Or.inr ⟨rfl, rfl⟩) q2 q3 lf p10 hok) ?_
            rw [ev, if_neg (by omega)]
            omega
        · rw [if_neg c2, if_neg c2]
          have ev := i32_succ (a := v5) (b := v2 + vm) (by rw [hW]; omega)
          obtain ⟨g1, g2, g3, g4, g5, g6⟩ := s_latch (p := 4) hn (by rw [vp_in_iff]; decide) hG q1 hok
          have q0 : (4 : Int32) ≤ 4 ∧ x.2.1 0 6 = 7 := ⟨by decide, q2⟩
          unfold lb at g2
          rw [if_pos q0] at g2 g4
          have kS := kpX11_latch (y0 := y) (p2 := 4) (x := y) ht (vn hn) (fun _ _ _ => rfl)
          rw [tn hn] at kS
          have okS2 : okR T B (fX11_latch (nI n) 4 y) := okX11_latch (vn hn) (by rw [vp_in_iff]; decide) (fun _ => by rw [tn hn, z2]; exact z1) hok
          have et : (fX10_latch n 4 x).1 0 3 = tm := by rw [g1.tm, kp_time kS, ← hG.tm]; exact htm
          obtain ⟨i1, i2, i3, i4, i5, i6, i7⟩ := ih (fX10_latch n 4 x) (fX11_latch (nI n) 4 y) v4 (v5 + 1) 0 (by omega) (by omega) (by omega) (dr_kp hD kS) g1 et (by unfold LF; rw [g3 4 2 (by decide) (by decide)]; exact lf) (by
            unfold P10
            rw [g3 10 3 (by decide) (by decide)]
            rcases p10 with q | q
            · exact Or.inl q
            · exact Or.inr (g6 q)) okS2 (Or.inr g4) (Or.inr ⟨g2, fun a => by rw [g4] at a; exact absurd a.1 (by decide)⟩)
          exact ⟨i1, i2, i3, i4, i5, i6.trans (g3 1 6 (by decide) (by decide)), i7⟩
      · rw [← q1.ph, ← q1.dn]
        by_cases c7 : x.2.1 0 6 = 7
        · have c0 : ¬ x.2.1 0 10 = 0 := fun q => q2 ⟨c7, q⟩
          rw [if_pos c7, if_pos c7, if_neg c0, if_neg c0]
          exact ⟨hG, q1, lf, p10, hph, rfl, rfl⟩
        · rw [if_neg c7, if_neg c7]
          exact ⟨hG, q1, lf, p10, hph, rfl, rfl⟩
theorem del_ch {S R M : Int32} (h : CH 0 n x.2.1 y tm) (hR : 0 ≤ R.toInt ∧ R.toInt < 360) (hM : 0 ≤ M.toInt ∧ M.toInt ≤ (x.2.1 6 2).toInt) : CH M.toInt.toNat n (sC (sC (sC x 4 4 S) 4 4 R) 6 2 (x.2.1 6 2 - M)).2.1 (sR (sR y 19 n S) 19 n R) tm := by
  have hb := h.bo
  have h1 := hb.1
  have h2 := hb.2.2
  have e : (x.2.1 6 2 - M).toInt = (x.2.1 6 2).toInt - M.toInt := i32_sub (by omega) (by omega)
  exact ⟨h.ph, h.al, h.st, h.wa, h.dn, h.cf, h.we, h.am, h.ra, h.le, h.ma, (by show R = va_up _ n R n; rw [va_up_self]), (by show bor M.toInt.toNat (x.2.1 6 2 - M) (y.1 20 n); exact ⟨by rw [e]; omega, by rw [e]; omega, h2⟩), h.fl, h.pr, h.ti, h.bu, h.ai, h.op, h.su, h.co, h.at_, h.pd, h.la, h.ty, h.tc, h.ed, h.ru, ⟨h.nu.1, hR, h.nu.2.2⟩, h.re, h.r1, h.r2⟩
theorem s_deliver (hn : n < 3) (hD : DR gd y) (hV : DV y) (hG : G x y) (htm : x.1 0 3 = tm) (h : CH 0 n x.2.1 y tm) (h7 : x.2.1 0 6 = 7) (hd : x.2.1 0 10 = 0) (lf : LF x.2.1) (p10 : P10 x.2.1) (hok : okR T B y) : G (fX10_deliver gd n x).1 (fX11_deliver (nI n) y).1 ∧ CH 0 n (fX10_deliver gd n x).1.2.1 (fX11_deliver (nI n) y).1 tm ∧ LF (fX10_deliver gd n x).1.2.1 ∧ P10 (fX10_deliver gd n x).1.2.1 ∧ ((fX10_deliver gd n x).1.2.1 0 6 = 7 ∨ (fX10_deliver gd n x).1.2.1 0 6 = 8) ∧ (fX10_deliver gd n x).1.2.1 1 6 = x.2.1 1 6 ∧ (fX10_deliver gd n x).2 = (fX11_deliver (nI n) y).2 := by
  obtain ⟨z1, z2⟩ := prog_7 hn h hok h7
  have hv := hV _ (vi_lt z1)
  obtain ⟨n1, n2, n3⟩ := h.nu
  have hb := h.bo
  have eb : x.2.1 6 2 = y.1 20 n := i32_of (by have := hb.1; omega)
  have eS : (x.2.1 4 4 + x.2.1 4 1).toInt = (x.2.1 4 4).toInt + (x.2.1 4 1).toInt := i32_add (by omega) (by omega)
  obtain ⟨s, hs, es⟩ := nI_of (x := x.2.1 4 4 + x.2.1 4 1) (by rw [Int32.lt_iff_toInt_lt, show (0 : Int32).toInt = 0 from rfl]; omega)
  have hs2 : (s : Int) = (x.2.1 4 4).toInt + (x.2.1 4 1).toInt := by rw [← eS, es, nI_toInt hs]
  have eR : (x.2.1 4 4 + x.2.1 4 1) - (x.2.1 4 4 + x.2.1 4 1) / 360 * 360 = nI (s % 360) := by rw [es, show (360 : Int32) = nI 360 from rfl, pk_rem hs (by decide) (by decide)]
  have eQ : (x.2.1 4 4 + x.2.1 4 1) / 360 = nI (s / 360) := by rw [es, show (360 : Int32) = nI 360 from rfl, pk_div hs (by decide) (by decide)]
  have hm360 : s % 360 < 360 := Nat.mod_lt _ (by decide)
  have eM : ∀ Z : RS, (if y.1 20 n ≤ 0 then fX11_least (y.1 20 n) 0 Z else fX11_least (y.1 20 n) (y.1 10 (x.2.1 4 0).toNatClampNeg) Z) = (if x.2.1 6 2 < y.1 10 (x.2.1 4 0).toNatClampNeg then x.2.1 6 2 else y.1 10 (x.2.1 4 0).toNatClampNeg) := by
    intro Z
    unfold fX11_least
    rw [← eb]
    generalize y.1 10 (x.2.1 4 0).toNatClampNeg = pc at hv ⊢
    by_cases a1 : x.2.1 6 2 ≤ 0
    · have a2 := a1
      rw [Int32.le_iff_toInt_le, show (0 : Int32).toInt = 0 from rfl] at a2
      have a9 := hb.2.1
      have a3 : x.2.1 6 2 = 0 := i32_of (by rw [show (0 : Int32).toInt = 0 from rfl]; omega)
      rw [if_pos a1, a3, if_pos (show (0 : Int32) ≤ 0 by decide)]
      by_cases a4 : (0 : Int32) < pc
      · rw [if_pos a4]
      · rw [if_neg a4]
        rw [Int32.lt_iff_toInt_lt, show (0 : Int32).toInt = 0 from rfl] at a4
        exact i32_of (by rw [show (0 : Int32).toInt = 0 from rfl]; omega)
    · rw [if_neg a1]
      by_cases a4 : x.2.1 6 2 < pc
      · rw [if_pos a4, if_neg (by rw [Int32.lt_iff_toInt_lt] at a4; rw [Int32.le_iff_toInt_le]; omega)]
      · rw [if_neg a4, if_pos (by rw [Int32.lt_iff_toInt_lt] at a4; rw [Int32.le_iff_toInt_le]; omega)]
  have hMb : 0 ≤ (if x.2.1 6 2 < y.1 10 (x.2.1 4 0).toNatClampNeg then x.2.1 6 2 else y.1 10 (x.2.1 4 0).toNatClampNeg).toInt ∧ (if x.2.1 6 2 < y.1 10 (x.2.1 4 0).toNatClampNeg then x.2.1 6 2 else y.1 10 (x.2.1 4 0).toNatClampNeg).toInt ≤ (x.2.1 6 2).toInt := by
    generalize y.1 10 (x.2.1 4 0).toNatClampNeg = pc at hv ⊢
    by_cases a4 : x.2.1 6 2 < pc
    · rw [if_pos a4]; exact ⟨hb.2.1, Int.le_refl _⟩
    · rw [if_neg a4]
      rw [Int32.lt_iff_toInt_lt] at a4
      exact ⟨hv.2.1.1, by omega⟩
  have eC : fX10_deliver gd n x = fX10_deliver_L50 gd n (mu32 0 (nI (s / 360) + (if x.2.1 6 2 < y.1 10 (x.2.1 4 0).toNatClampNeg then x.2.1 6 2 else y.1 10 (x.2.1 4 0).toNatClampNeg)) + 1) (sC (sC (sC x 4 4 (x.2.1 4 4 + x.2.1 4 1)) 4 4 (nI (s % 360))) 6 2 (x.2.1 6 2 - (if x.2.1 6 2 < y.1 10 (x.2.1 4 0).toNatClampNeg then x.2.1 6 2 else y.1 10 (x.2.1 4 0).toNatClampNeg))) (nI (s / 360) + (if x.2.1 6 2 < y.1 10 (x.2.1 4 0).toNatClampNeg then x.2.1 6 2 else y.1 10 (x.2.1 4 0).toNatClampNeg)) 0 0 := by
    unfold fX10_deliver fX7_strokesDue
    rw [dr_row hD z1 (k := 10) (by decide) (by decide), eR, eQ]
    rfl
  have eD : fX11_deliver (nI n) y = fX11_deliver_L78 (nI n) (mu32 0 (nI (s / 360) + (if x.2.1 6 2 < y.1 10 (x.2.1 4 0).toNatClampNeg then x.2.1 6 2 else y.1 10 (x.2.1 4 0).toNatClampNeg)) + 1) (sR (sR y 19 n (x.2.1 4 4 + x.2.1 4 1)) 19 n (nI (s % 360))) (nI (s / 360)) (if x.2.1 6 2 < y.1 10 (x.2.1 4 0).toNatClampNeg then x.2.1 6 2 else y.1 10 (x.2.1 4 0).toNatClampNeg) 0 0 := by
    unfold fX11_deliver fX11_deliver_J68
    have e19 : ∀ v : Int32, (sR y 19 n v).1 19 n = v := fun v => va_up_self _ _ _
    rw [tn hn, ← h.de, ← h.ra, e19, eR, eQ, z2]
    by_cases a1 : y.1 20 n ≤ 0
    · have eM1 := fun Z => (if_pos a1).symm.trans (eM Z)
      rw [if_pos a1, eM1]
    · have eM1 := fun Z => (if_neg a1).symm.trans (eM Z)
      rw [if_neg a1, eM1]
  rw [eC, eD]
  generalize (if x.2.1 6 2 < y.1 10 (x.2.1 4 0).toNatClampNeg then x.2.1 6 2 else y.1 10 (x.2.1 4 0).toNatClampNeg) = M at hMb ⊢
  have hMM : M.toInt ≤ 5000 := by have := hb.1; have := hb.2.2; omega
  have eq1 : (nI (s / 360)).toInt = ((s / 360 : Nat) : Int) := nI_toInt (by omega)
  have hW : (nI (s / 360) + M).toInt = ((s / 360 : Nat) : Int) + M.toInt := by rw [i32_add (by omega) (by omega), eq1]
  have hc := del_ch (S := x.2.1 4 4 + x.2.1 4 1) (R := nI (s % 360)) h (by rw [nI_toInt (by omega)]; omega) hMb
  have hG2 : G (sC (sC (sC x 4 4 (x.2.1 4 4 + x.2.1 4 1)) 4 4 (nI (s % 360))) 6 2 (x.2.1 6 2 - M)) (sR (sR y 19 n (x.2.1 4 4 + x.2.1 4 1)) 19 n (nI (s % 360))) := G_r (by decide) (by decide) (G_r (by decide) (by decide) hG)
  have kk : Kp n y (sR (sR y 19 n (x.2.1 4 4 + x.2.1 4 1)) 19 n (nI (s % 360))) := kp_s rfl (kp_s rfl (fun _ _ _ => rfl))
  have fu : ((s / 360 : Nat) : Int) + M.toInt - (0 : Int32).toInt < ((mu32 0 (nI (s / 360) + M) + 1 : Nat) : Int) := by
    unfold mu32
    rw [hW, show (0 : Int32).toInt = 0 from rfl]; omega
  refine del_loop (T := T) (B := B) hn (by omega) hMb.1 hW (by omega) _ _ _ 0 0 M.toInt.toNat (by decide) (by rw [show (0 : Int32).toInt = 0 from rfl]; omega) fu (dr_kp hD kk) hG2 htm lf p10 (okR_sR rfl (okR_sR rfl hok)) (Or.inl h7) (Or.inl ⟨hc, h7, hd, ?_⟩)
  rw [show (0 : Int32).toInt = 0 from rfl, eq1]
  by_cases a0 : (0 : Int) < ((s / 360 : Nat) : Int)
  · rw [if_pos a0]; omega
  · rw [if_neg a0]; omega
end S15
