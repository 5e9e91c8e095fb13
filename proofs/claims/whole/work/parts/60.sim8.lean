/-! ACK and the other keys -/
theorem ix_v {n : Nat} {v : Int32} (hn : n < 3) (h1 : 0 ≤ v.toInt) (h2 : v.toInt < 900) : (((900 : Int32) * nI n) + v).toNatClampNeg = 900 * n + v.toInt.toNat := by
  obtain ⟨m, hm, e2⟩ := nI_of (x := v) (by rw [Int32.lt_iff_toInt_lt, show (0 : Int32).toInt = 0 from rfl]; omega)
  rw [e2, nI_toInt hm] at h2
  rw [e2, show (900 : Int32) = nI 900 from rfl, pk_mul, nI_add, nI_clamp (by omega), nI_toInt hm]
  omega
theorem L72_eq {n : Nat} (hn : n < 3) : ∀ (k : Nat) (y : RS) (v : Int32), 0 ≤ v.toInt → v.toInt ≤ 900 → 901 ≤ v.toInt + k → ∃ R : Nat → Int32, fX11_acknowledge_L72 (nI n) k y v = (va_up y.1 34 R, y.2) ∧ (∀ j : Nat, j < 900 → v.toInt ≤ j → R (900 * n + j) = 0) ∧ (∀ q : Nat, (∀ j : Nat, j < 900 → v.toInt ≤ j → q ≠ 900 * n + j) → R q = y.1 34 q) := by
  intro k
  induction k with
  | zero => intro y v h1 h2 h3; omega
  | succ k ih =>
    intro y v h1 h2 h3
    unfold fX11_acknowledge_L72
    by_cases q : (900 : Int32) ≤ v
    · rw [if_pos q]
      rw [Int32.le_iff_toInt_le, show (900 : Int32).toInt = 900 from rfl] at q
      refine ⟨y.1 34, ?_, fun j hj hj2 => by omega, fun _ _ => rfl⟩
      rw [va_up_eta]
    · rw [if_neg q]
      rw [Int32.le_iff_toInt_le, show (900 : Int32).toInt = 900 from rfl] at q
      have ev := i32_succ (a := v) (b := 1000) (by rw [show (1000 : Int32).toInt = 1000 from rfl]; omega)
      rw [ix_v hn h1 (by omega)]
      obtain ⟨R, e1, e2, e3⟩ := ih (sR y 34 (900 * n + v.toInt.toNat) 0) (v + 1) (by omega) (by omega) (by omega)
      refine ⟨R, ?_, fun j hj hj2 => ?_, fun q1 hq => ?_⟩
      · rw [e1]
        show (va_up (va_up y.1 34 _) 34 R, y.2) = _
        rw [va_up_up]
      · by_cases hj3 : (j : Int) = v.toInt
        · rw [e3 _ (fun j' g1 g2 => by omega)]
          show va_up (y.1 34) (900 * n + v.toInt.toNat) 0 (900 * n + j) = 0
          rw [show v.toInt.toNat = j by omega, va_up_self]
        · exact e2 j hj (by omega)
      · rw [e3 q1 (fun j' g1 g2 => hq j' g1 (by omega))]
        show va_up (y.1 34) (900 * n + v.toInt.toNat) 0 q1 = _
        rw [va_up_ne _ _ (hq v.toInt.toNat (by omega) (by omega))]
section S10
variable {n T B : Nat} {x : FS} {y : RS} {tm : Int32} {gd : Nat → Nat → Int32}
theorem cbt_eq {v : Int32} (hn : n < 3) (hD : DR gd y) (hG : G x y) (h : CH 0 n x.2.1 y tm) (hok : okR T B y) (hb : ¬ (((y.1 28 n) >>> (v &&& 31)) &&& 1) = 0) : fX10_canBeTaken gd v x = fX11_mayTake (nI n) v y := by
  unfold fX10_canBeTaken fX11_mayTake
  rw [tn hn, ← h.ai, ← h.op, ← hG.cg, ← hG.mn, ← h.su]
  by_cases v4 : v = 4
  · obtain ⟨z1, z2⟩ := prog_of h (al4 hok hn hb v4)
    rw [z2, dr_row hD z1 (k := 8) (by decide) (by decide)]
  · rw [if_neg v4, if_neg v4]
theorem take_n {V : Int32} (h : CH 0 n x.2.1 y tm) (hV : x.2.1 0 7 &&& 31 = 0 → V &&& 31 = 0) : CH 0 n (sC x 0 7 V).2.1 (sR y 28 n V) tm := ⟨h.ph, (by show V = va_up (y.1 28) n V n; rw [va_up_self]), h.st, h.wa, h.dn, h.cf, h.we, h.am, h.ra, h.le, h.ma, h.de, h.bo, h.fl, h.pr, h.ti, h.bu, h.ai, h.op, h.su, h.co, h.at_, h.pd, h.la, h.ty, h.tc, h.ed, ⟨fun q => hV (h.ru.1 q), h.ru.2⟩, h.nu, h.re, h.r1, h.r2⟩
theorem take_0 {V : Int32} {R : Nat → Int32} (h : CH 0 n x.2.1 y tm) (hV : x.2.1 0 7 &&& 31 = 0 → V &&& 31 = 0) (hR : ∀ j : Nat, j < 900 → R (900 * n + j) = 0) : CH 0 n (fX6_forgetAir (sC x 0 7 V)).2.1 (va_up (sR (sR (sR y 28 n V) 27 n 0) 37 n 0).1 34 R, y.2) tm := by
  have hr : rgr 60 900 (x.2.1 10 2) 0 (x.2.1 11) 0 (fun j => R (900 * n + j)) tm := by
    obtain ⟨L, l1, _⟩ := h.r2
    refine ⟨[], l1, rfl, rfl, Nat.zero_le _, fun i hi => absurd hi (Nat.not_lt_zero _), List.Pairwise.nil, fun u hu => absurd hu List.not_mem_nil, fun j hj => ?_⟩
    show (R (900 * n + j)).toInt = _
    rw [hR j hj]
    rfl
  exact ⟨h.ph, (by show V = va_up (y.1 28) n V n; rw [va_up_self]), h.st, h.wa, h.dn, h.cf, h.we, h.am, h.ra, h.le, h.ma, h.de, h.bo, h.fl, h.pr, h.ti, (by show (0 : Int32) = va_up (y.1 27) n 0 n; rw [va_up_self]), h.ai, h.op, h.su, h.co, h.at_, h.pd, h.la, h.ty, h.tc, h.ed, ⟨fun q => hV (h.ru.1 q), h.ru.2⟩, h.nu, h.re, h.r1, (by show rgr 60 900 (x.2.1 10 2) 0 (x.2.1 11) (va_up (y.1 37) n 0 n) (fun j => R (900 * n + j)) tm; rw [va_up_self]; exact hr)⟩
theorem G_34 {R : Nat → Int32} (h : G x y) : G x (va_up y.1 34 R, y.2) := h
theorem ack_take {v3 : Int32} (hn : n < 3) (hv : vp_in v3 7) (hG : G x y) (h : CH 0 n x.2.1 y tm) (lf : LF x.2.1) (p10 : P10 x.2.1) (hok : okR T (B + 1 + 1) y) (ht : 0 ≤ (y.1 0 45).toInt) {y' : RS} (hy' : y' = (if v3 = 0 then fX11_note 8 (nI n) v3 (fX11_acknowledge_L72 (nI n) (mu32 0 900 + 1) (sR (sR (sR y 28 n ((y.1 28 n) &&& (((1 : Int32) <<< (v3 &&& 31)) ^^^ (-1)))) 27 n 0) 37 n 0) 0) else fX11_note 8 (nI n) v3 (sR y 28 n ((y.1 28 n) &&& (((1 : Int32) <<< (v3 &&& 31)) ^^^ (-1)))))) : G (fX10_takeAlarm n v3 x) y' ∧ CH 0 n (fX10_takeAlarm n v3 x).2.1 y' tm ∧ LF (fX10_takeAlarm n v3 x).2.1 ∧ P10 (fX10_takeAlarm n v3 x).2.1 ∧ okR T B y' ∧ Kp n y y' ∧ (fX10_takeAlarm n v3 x).2.1 0 6 = x.2.1 0 6 ∧ (fX10_takeAlarm n v3 x).2.1 1 6 = x.2.1 1 6 := by
  have he : 0 ≤ (y.1 0 50).toInt := hok.2.1.1
  have ho := okR_out (al := v3) (vn hn) hv hok
  rw [tn hn] at ho
  have kp0 : Kp n y y := fun _ _ _ => rfl
  obtain ⟨m, hm, em⟩ := vp_in_of (hok.2.2.2.1 n hn) (by decide)
  obtain ⟨j, hj, ej⟩ := vp_in_of hv (by decide)
  obtain ⟨_, _, u3, u4⟩ := al_b0 ⟨m, hm⟩ ⟨j, hj⟩
  dsimp only at u3 u4
  rw [← ej, ← em] at u3 u4
  rw [← h.al] at u3 u4 hy' ho
  unfold fX10_takeAlarm fX10_takeAlarm_J25
  generalize (x.2.1 0 7) &&& (((1 : Int32) <<< (v3 &&& 31)) ^^^ (-1)) = V at u3 u4 hy' ho ⊢
  by_cases v0 : v3 = 0
  · rw [if_pos v0] at hy' ⊢
    have hx9 : okR T (B + 1) (fX11_acknowledge_L72 (nI n) (mu32 0 900 + 1) (sR (sR (sR y 28 n V) 27 n 0) 37 n 0) 0) := okX11_acknowledge_L72 (okR_sR rfl (okR_sR rfl ho))
    have hk9 : Kp n y (fX11_acknowledge_L72 (nI n) (mu32 0 900 + 1) (sR (sR (sR y 28 n V) 27 n 0) 37 n 0) 0) := by
      have q := kpX11_acknowledge_L72 (y0 := y) (vn hn) (mu32 0 900 + 1) (sR (sR (sR y 28 n V) 27 n 0) 37 n 0) 0 (Int.le_refl 0)
      rw [tn hn] at q
      exact q (kp_s rfl (kp_s rfl (kp_s rfl kp0)))
    obtain ⟨R, e1, e2, _⟩ := L72_eq hn (mu32 0 900 + 1) (sR (sR (sR y 28 n V) 27 n 0) 37 n 0) 0 (by decide) (by decide) (by rw [show mu32 0 900 = 900 from by decide]; decide)
    rw [e1] at hx9 hk9 hy'
    have g2 := take_0 (V := V) (R := R) h u4 (fun j hj => e2 j hj (by rw [show (0 : Int32).toInt = 0 from rfl]; omega))
    have hZ : G (fX6_forgetAir (sC x 0 7 V)) (va_up (sR (sR (sR y 28 n V) 27 n 0) 37 n 0).1 34 R, (sR (sR (sR y 28 n V) 27 n 0) 37 n 0).2) := G_34 (G_r (by decide) (by decide) (G_r (by decide) (by decide) (G_r (by decide) (by decide) hG)))
    have he2 : 0 ≤ ((va_up (sR (sR (sR y 28 n V) 27 n 0) 37 n 0).1 34 R, (sR (sR (sR y 28 n V) 27 n 0) 37 n 0).2).1 0 50 : Int32).toInt := he
    have e := note_c (n := n) (a := 8) (v := v3) hZ he2
    subst hy'
    refine ⟨s_note hZ he2, ?_, ?_, ?_, okX11_note hx9, kpX11_note hk9, ?_, ?_⟩
    · rw [e]; exact ch_note g2
    · rw [e]; exact lf
    · rw [e]; exact Or.inl (by show (0 : Int32).toInt < 60; decide)
    · rw [e]; rfl
    · rw [e]; rfl
  · rw [if_neg v0] at hy' ⊢
    have hZ : G (sC x 0 7 V) (sR y 28 n V) := G_r (by decide) (by decide) hG
    have he2 : 0 ≤ ((sR y 28 n V).1 0 50).toInt := he
    have e := note_c (n := n) (a := 8) (v := v3) hZ he2
    have hj0 : j ≠ 0 := fun q => v0 (by rw [ej, q]; rfl)
    subst hy'
    refine ⟨s_note hZ he2, ?_, ?_, ?_, okX11_note ho, kpX11_note (kp_s rfl kp0), ?_, ?_⟩
    · rw [e]; exact ch_note (take_n h u4)
    · rw [e]; exact lf
    · rw [e]
      rcases p10 with q | q
      · exact Or.inl q
      · exact Or.inr (u3 hj0 q)
    · rw [e]; rfl
    · rw [e]; rfl
theorem ack_loop (hn : n < 3) : ∀ (k : Nat) (x : FS) (y : RS) (v2 v3 : Int32), 0 ≤ v3.toInt → v3.toInt ≤ 7 → 8 ≤ v3.toInt + k → DR gd y → G x y → CH 0 n x.2.1 y tm → LF x.2.1 → P10 x.2.1 → okR T (B + 2 * k) y → G (fX10_pressAck_L4 gd n k x v2 v3).1 (fX11_acknowledge_L4 (nI n) k y v2 v3).1 ∧ CH 0 n (fX10_pressAck_L4 gd n k x v2 v3).1.2.1 (fX11_acknowledge_L4 (nI n) k y v2 v3).1 tm ∧ LF (fX10_pressAck_L4 gd n k x v2 v3).1.2.1 ∧ P10 (fX10_pressAck_L4 gd n k x v2 v3).1.2.1 ∧ (fX10_pressAck_L4 gd n k x v2 v3).1.2.1 0 6 = x.2.1 0 6 ∧ (fX10_pressAck_L4 gd n k x v2 v3).1.2.1 1 6 = x.2.1 1 6 ∧ (((fX11_acknowledge_L4 (nI n) k y v2 v3).2 = 0 ∧ (fX10_pressAck_L4 gd n k x v2 v3).2 = -1) ∨ (¬ (fX11_acknowledge_L4 (nI n) k y v2 v3).2 = 0 ∧ (fX10_pressAck_L4 gd n k x v2 v3).2 = (fX10_pressAck_L4 gd n k x v2 v3).1.2.1 0 6)) := by
  intro k
  induction k with
  | zero => intro x y v2 v3 _ h2 h3; omega
  | succ k ih =>
    intro x y v2 v3 h1 h2 h3 hD hG h lf p10 hok
    have ht : 0 ≤ (y.1 0 45).toInt := hok.1.1
    unfold fX10_pressAck_L4 fX11_acknowledge_L4
    rw [tn hn]
    by_cases e7 : (7 : Int32) ≤ v3
    · have e6 : (6 : Int32) < v3 := by
        rw [Int32.le_iff_toInt_le, show (7 : Int32).toInt = 7 from rfl] at e7
        rw [Int32.lt_iff_toInt_lt, show (6 : Int32).toInt = 6 from rfl]; omega
      rw [if_pos e7, if_pos e6]
      by_cases q : v2 = 0
      · rw [if_pos q]; exact ⟨hG, h, lf, p10, rfl, rfl, Or.inl ⟨q, rfl⟩⟩
      · rw [if_neg q]; exact ⟨hG, h, lf, p10, rfl, rfl, Or.inr ⟨q, rfl⟩⟩
    · have e6 : ¬ (6 : Int32) < v3 := by
        rw [Int32.le_iff_toInt_le, show (7 : Int32).toInt = 7 from rfl] at e7
        rw [Int32.lt_iff_toInt_lt, show (6 : Int32).toInt = 6 from rfl]; omega
      rw [if_neg e7, if_neg e6]
      have hv : vp_in v3 7 := by
        rw [Int32.le_iff_toInt_le, show (7 : Int32).toInt = 7 from rfl] at e7
        rw [vp_in_iff]; omega
      rw [Int32.le_iff_toInt_le, show (7 : Int32).toInt = 7 from rfl] at e7
      have ev := i32_succ (a := v3) (b := 1000) (by rw [show (1000 : Int32).toInt = 1000 from rfl]; omega)
      have next := fun w2 => ih x y w2 (v3 + 1) (by omega) (by omega) (by omega) hD hG h lf p10 (okR_le (k := 2) (show okR T (B + 2 * k + 2) y from hok))
      unfold fX1_hasAlarm
      by_cases hb : ((y.1 28 n >>> (v3 &&& 31)) &&& 1) = 0
      · rw [h.al, if_pos hb, if_pos rfl, if_pos hb]; exact next v2
      · rw [h.al, if_neg hb, if_neg one_ne, if_neg hb, cbt_eq hn hD hG h hok hb]
        by_cases hm : fX11_mayTake (nI n) v3 y = 0
        · rw [if_pos hm, if_pos hm]; exact next v2
        · rw [if_neg hm, if_neg hm]
          obtain ⟨g1, g2, g3, g4, g5, g6, g7, g8⟩ := ack_take (B := B + 2 * k) hn hv hG h lf p10 (show okR T (B + 2 * k + 1 + 1) y from hok) ht rfl
          by_cases v0 : v3 = 0
          · rw [if_pos v0] at g1 g2 g5 g6
            rw [if_pos v0]
            obtain ⟨i1, i2, i3, i4, i5, i6, i7⟩ := ih _ _ 1 (v3 + 1) (by omega) (by omega) (by omega) (dr_kp hD g6) g1 g2 g3 g4 g5
            exact ⟨i1, i2, i3, i4, i5.trans g7, i6.trans g8, i7⟩
          · rw [if_neg v0] at g1 g2 g5 g6
            rw [if_neg v0]
            obtain ⟨i1, i2, i3, i4, i5, i6, i7⟩ := ih _ _ 1 (v3 + 1) (by omega) (by omega) (by omega) (dr_kp hD g6) g1 g2 g3 g4 g5
            exact ⟨i1, i2, i3, i4, i5.trans g7, i6.trans g8, i7⟩
theorem sr_ack (hn : n < 3) (hD : DR gd y) (hG : G x y) (h : CH 0 n x.2.1 y tm) (lf : LF x.2.1) (p10 : P10 x.2.1) (hok : okR T (B + 16) y) : SR n x tm (fX10_pressAck gd n x) (fX11_acknowledge (nI n) y) ∧ (fX10_pressAck gd n x).1.2.1 0 6 = x.2.1 0 6 := by
  obtain ⟨i1, i2, i3, i4, i5, i6, i7⟩ := ack_loop (T := T) (B := B) (gd := gd) (tm := tm) hn (mu32 0 7 + 1) x y 0 0 (by decide) (by decide) (by rw [show mu32 0 7 = 7 from by decide]; decide) hD hG h lf p10 (by rw [show mu32 0 7 = 7 from by decide]; exact hok)
  refine ⟨⟨i1, i2, i3, i4, ?_, i6⟩, i5⟩
  rcases i7 with ⟨q1, q2⟩ | q
  · exact Or.inl ⟨q1, q2, i5⟩
  · exact Or.inr q
end S10
