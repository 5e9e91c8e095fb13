/-! ENTER, the volume; boluses; ACK -/
def DV (y : RS) : Prop := ∀ d, d < 16 → (0 ≤ (y.1 9 d).toInt ∧ (y.1 9 d).toInt ≤ 5000) ∧ (0 ≤ (y.1 10 d).toInt ∧ (y.1 10 d).toInt ≤ 30) ∧ (y.1 11 d).toInt ≤ 3600 ∧ (y.1 12 d).toInt ≤ 20
theorem dv_kp {n : Nat} {y0 y : RS} (hD : DV y0) (hk : Kp n y0 y) : DV y := fun d hd => by
  rw [hk 9 d (fun q => by unfold Wr at q; omega), hk 10 d (fun q => by unfold Wr at q; omega), hk 11 d (fun q => by unfold Wr at q; omega), hk 12 d (fun q => by unfold Wr at q; omega)]
  exact hD d hd
section S7
variable {n T B : Nat} {x : FS} {y : RS} {tm : Int32} {gd : Nat → Nat → Int32}
theorem renew_ch {w rt : Int32} (hn : n < 3) (h : CH 0 n x.2.1 y tm) (hph : x.2.1 0 6 = 4) (hrt : 0 ≤ rt.toInt ∧ rt.toInt ≤ 9999) : CH 0 n (fX1_goTo 6 (fX3_forgetDrug n (sC (sC (sC (sC (sC (sC x 4 0 (x.2.1 1 2)) 4 1 rt) 4 2 w) 4 3 0) 4 4 0) 6 2 0))).2.1 (sR (sR (sR (sR (sR (sR (fX11_go (nI n) 6 y) 15 n (y.1 38 n)) 16 n rt) 17 n w) 18 n 0) 19 n 0) 20 n 0) tm := by
  have h9 := phi (k := 4) rfl hph
  obtain ⟨z1, z2⟩ := h.ed.1 (by rw [h9]; decide)
  unfold fX11_go fX11_clear
  rw [tn hn]
  exact ⟨(by show (6 : Int32) = va_up (y.1 13) n _ n; rw [va_up_self]), h.al, h.st, h.wa, h.dn, h.cf, h.we, h.am, (by show rt = va_up (y.1 16) n rt n; rw [va_up_self]), (by show w = va_up (y.1 17) n w n; rw [va_up_self]), (by show (0 : Int32) = va_up (y.1 18) n (0 : Int32) n; rw [va_up_self]), (by show (0 : Int32) = va_up (y.1 19) n (0 : Int32) n; rw [va_up_self]), (by show bor 0 0 (va_up (y.1 20) n 0 n); rw [va_up_self]; exact ⟨rfl, by decide, by decide⟩), h.fl, h.pr, h.ti, h.bu, h.ai, h.op, h.su, h.co, h.at_, (Or.inr ⟨z1, by show va_up (y.1 15) n (y.1 38 n) n = _; rw [va_up_self]; exact z2⟩), h.la, (by show tyr 0 0 0 0 (va_up (y.1 41) n 0 n) (va_up (y.1 42) n 0 n) (va_up (y.1 43) n (-1) n); rw [va_up_self, va_up_self, va_up_self]; exact tyr_0), (fun _ => rfl), ⟨fun q => absurd q (by show ¬ (2 ≤ (6 : Int32).toInt ∧ (6 : Int32).toInt ≤ 5); decide), fun _ => rfl⟩, ⟨fun q => absurd q (by show ¬ (6 : Int32) = 7; decide), by show 0 ≤ (6 : Int32).toInt; decide, by show (6 : Int32).toInt ≤ 8; decide, h.ru.2.2.2⟩, ⟨hrt, by show 0 ≤ (0 : Int32).toInt ∧ (0 : Int32).toInt < 360; decide, h.nu.2.2⟩, (fun _ q => absurd q (by show ¬ (6 : Int32).toInt ≤ 5; decide)), h.r1, h.r2⟩
theorem se_volume {N : Int32} (hn : n < 3) (hD : DR gd y) (hs : okS y) (hG : G x y) (h : CH 0 n x.2.1 y tm) (lf : LF x.2.1) (p10 : P10 x.2.1) (hok : okR T B y) (hph : x.2.1 0 6 = 4) (hN : 0 ≤ N.toInt ∧ N.toInt < 1000000) : SE n x tm (fX10_enterVolume gd n N x) (if N = 0 then (fX11_enter_J300 (nI n) (sR (sR (fX11_go (nI n) 6 y) 15 n (y.1 38 n)) 16 n ((fX11_rateOf (y.1 38 n) ((fX11_go (nI n) 6 y).1 40 n) ((fX11_go (nI n) 6 y).1 39 n) (sR (fX11_go (nI n) 6 y) 15 n (y.1 38 n))).toInt32)) (-1)) else (fX11_enter_J300 (nI n) (sR (sR (fX11_go (nI n) 6 y) 15 n (y.1 38 n)) 16 n ((fX11_rateOf (y.1 38 n) ((fX11_go (nI n) 6 y).1 40 n) ((fX11_go (nI n) 6 y).1 39 n) (sR (fX11_go (nI n) 6 y) 15 n (y.1 38 n))).toInt32)) ((10 : Int32) * N))) := by
  have h9 := phi (k := 4) rfl hph
  obtain ⟨z1, z2⟩ := h.ed.1 (by rw [h9]; decide)
  have eK := dr_row hD z1 (k := 2) (by decide) (by decide)
  have eS := dr_row3 hD z1
  have hre := h.re (by rw [h9]; decide) (by rw [h9]; decide)
  obtain ⟨_, _, c3⟩ := rate_cmp (a := x.2.1 1 5) (u := x.2.1 1 4) (x := x) eK eS (hs _ (vi_lt z1)) (by omega)
  obtain ⟨c4, c5⟩ := c3 hre.2
  have eR : fX11_rateOf (y.1 38 n) ((fX11_go (nI n) 6 y).1 40 n) ((fX11_go (nI n) 6 y).1 39 n) (sR (fX11_go (nI n) 6 y) 15 n (y.1 38 n)) = rof (y.1 2 (x.2.1 1 2).toNatClampNeg) (y.1 3 (x.2.1 1 2).toNatClampNeg) (x.2.1 1 5) (x.2.1 1 4) := by
    have g1 : (fX11_go (nI n) 6 y).1 40 n = x.2.1 1 5 := h.am.symm
    have g2 : (fX11_go (nI n) 6 y).1 39 n = x.2.1 1 4 := h.we.symm
    rw [g1, g2, z2]
    rfl
  have key : ∀ w : Int32, (w = -1 ∨ (1 ≤ w.toInt ∧ w.toInt ≤ 9999990)) → SE n x tm ((fX10_note n 0 (fX2_rateFor gd (x.2.1 1 2) (x.2.1 1 5) (x.2.1 1 4) x) (fX1_goTo 6 (fX3_forgetDrug n (sC (sC (sC (sC (sC (sC x 4 0 (x.2.1 1 2)) 4 1 (fX2_rateFor gd (x.2.1 1 2) (x.2.1 1 5) (x.2.1 1 4) x)) 4 2 w) 4 3 0) 4 4 0) 6 2 0))), (fX10_note n 0 (fX2_rateFor gd (x.2.1 1 2) (x.2.1 1 5) (x.2.1 1 4) x) (fX1_goTo 6 (fX3_forgetDrug n (sC (sC (sC (sC (sC (sC x 4 0 (x.2.1 1 2)) 4 1 (fX2_rateFor gd (x.2.1 1 2) (x.2.1 1 5) (x.2.1 1 4) x)) 4 2 w) 4 3 0) 4 4 0) 6 2 0)))).2.1 0 6)) (fX11_enter_J300 (nI n) (sR (sR (fX11_go (nI n) 6 y) 15 n (y.1 38 n)) 16 n (rof (y.1 2 (x.2.1 1 2).toNatClampNeg) (y.1 3 (x.2.1 1 2).toNatClampNeg) (x.2.1 1 5) (x.2.1 1 4)).toInt32) w) := by
    intro w hw
    rw [← c4]
    have hrt : 0 ≤ (fX2_rateFor gd (x.2.1 1 2) (x.2.1 1 5) (x.2.1 1 4) x).toInt ∧ (fX2_rateFor gd (x.2.1 1 2) (x.2.1 1 5) (x.2.1 1 4) x).toInt ≤ 9999 := by omega
    generalize fX2_rateFor gd (x.2.1 1 2) (x.2.1 1 5) (x.2.1 1 4) x = rt at hrt ⊢
    have hC1 := renew_ch (w := w) (rt := rt) hn h hph hrt
    unfold fX11_enter_J300
    rw [tn hn]
    have er : (sR (sR (fX11_go (nI n) 6 y) 15 n (y.1 38 n)) 16 n rt).1 16 n = rt := va_up_self _ _ _
    rw [er]
    have hZ : G (fX1_goTo 6 (fX3_forgetDrug n (sC (sC (sC (sC (sC (sC x 4 0 (x.2.1 1 2)) 4 1 rt) 4 2 w) 4 3 0) 4 4 0) 6 2 0))) (sR (sR (sR (sR (sR (sR (fX11_go (nI n) 6 y) 15 n (y.1 38 n)) 16 n rt) 17 n w) 18 n 0) 19 n 0) 20 n 0) := G_r (by decide) (by decide) (G_r (by decide) (by decide) (G_r (by decide) (by decide) (G_r (by decide) (by decide) (G_r (by decide) (by decide) (G_r (by decide) (by decide) (G_go hG))))))
    have he : 0 ≤ ((sR (sR (sR (sR (sR (sR (fX11_go (nI n) 6 y) 15 n (y.1 38 n)) 16 n rt) 17 n w) 18 n 0) 19 n 0) 20 n 0).1 0 50).toInt := hok.2.1.1
    have hN1 := s_note (n := n) (a := 0) (v := rt) hZ he
    have hC := note_c (n := n) (a := 0) (v := rt) hZ he
    refine ⟨hN1, ?_, ?_, ?_, Or.inr (Or.inr ⟨rfl, rfl⟩), ?_⟩
    · show CH 0 n (fX10_note n 0 rt _).2.1 _ tm
      rw [hC]; exact ch_note hC1
    · show LF (fX10_note n 0 rt _).2.1
      rw [hC]; exact hw
    · show P10 (fX10_note n 0 rt _).2.1
      rw [hC]; exact p10
    · show (fX10_note n 0 rt _).2.1 1 6 = _
      rw [hC]; rfl
  rw [eR]
  by_cases q : N = 0
  · have e : fX10_enterVolume gd n N x = (fX10_note n 0 (fX2_rateFor gd (x.2.1 1 2) (x.2.1 1 5) (x.2.1 1 4) x) (fX1_goTo 6 (fX3_forgetDrug n (sC (sC (sC (sC (sC (sC x 4 0 (x.2.1 1 2)) 4 1 (fX2_rateFor gd (x.2.1 1 2) (x.2.1 1 5) (x.2.1 1 4) x)) 4 2 (-1)) 4 3 0) 4 4 0) 6 2 0))), (fX10_note n 0 (fX2_rateFor gd (x.2.1 1 2) (x.2.1 1 5) (x.2.1 1 4) x) (fX1_goTo 6 (fX3_forgetDrug n (sC (sC (sC (sC (sC (sC x 4 0 (x.2.1 1 2)) 4 1 (fX2_rateFor gd (x.2.1 1 2) (x.2.1 1 5) (x.2.1 1 4) x)) 4 2 (-1)) 4 3 0) 4 4 0) 6 2 0)))).2.1 0 6) := by
      unfold fX10_enterVolume fX7_renew fX7_renew_J23
      rw [if_pos q]
      generalize fX2_rateFor gd (x.2.1 1 2) (x.2.1 1 5) (x.2.1 1 4) x = rt
      have e5 : (fX1_goTo 6 (fX3_forgetDrug n (sC (sC (sC (sC (sC (sC x 4 0 (x.2.1 1 2)) 4 1 rt) 4 2 (-1)) 4 3 0) 4 4 0) 6 2 0))).2.1 4 1 = rt := rfl
      rw [e5]
    rw [e, if_pos q]
    exact key (-1) (Or.inl rfl)
  · have e : fX10_enterVolume gd n N x = (fX10_note n 0 (fX2_rateFor gd (x.2.1 1 2) (x.2.1 1 5) (x.2.1 1 4) x) (fX1_goTo 6 (fX3_forgetDrug n (sC (sC (sC (sC (sC (sC x 4 0 (x.2.1 1 2)) 4 1 (fX2_rateFor gd (x.2.1 1 2) (x.2.1 1 5) (x.2.1 1 4) x)) 4 2 (N * 10)) 4 3 0) 4 4 0) 6 2 0))), (fX10_note n 0 (fX2_rateFor gd (x.2.1 1 2) (x.2.1 1 5) (x.2.1 1 4) x) (fX1_goTo 6 (fX3_forgetDrug n (sC (sC (sC (sC (sC (sC x 4 0 (x.2.1 1 2)) 4 1 (fX2_rateFor gd (x.2.1 1 2) (x.2.1 1 5) (x.2.1 1 4) x)) 4 2 (N * 10)) 4 3 0) 4 4 0) 6 2 0)))).2.1 0 6) := by
      unfold fX10_enterVolume fX7_renew fX7_renew_J23
      rw [if_neg q]
      generalize fX2_rateFor gd (x.2.1 1 2) (x.2.1 1 5) (x.2.1 1 4) x = rt
      have e5 : (fX1_goTo 6 (fX3_forgetDrug n (sC (sC (sC (sC (sC (sC x 4 0 (x.2.1 1 2)) 4 1 rt) 4 2 (N * 10)) 4 3 0) 4 4 0) 6 2 0))).2.1 4 1 = rt := rfl
      rw [e5]
    rw [e, if_neg q, Int32.mul_comm 10 N]
    refine key (N * 10) (Or.inr ?_)
    obtain ⟨a, ha, ea⟩ := nI_of (x := N) (by rw [Int32.lt_iff_toInt_lt, show (0 : Int32).toInt = 0 from rfl]; omega)
    have hne : ¬ N.toInt = 0 := fun q2 => q (i32_of q2)
    rw [ea, nI_toInt ha] at hN hne
    rw [ea, show (10 : Int32) = nI 10 from rfl, pk_mul, nI_toInt (by omega)]
    omega
theorem se_enter (hn : n < 3) (hD : DR gd y) (hs : okS y) (hG : G x y) (h : CH 0 n x.2.1 y tm) (lf : LF x.2.1) (p10 : P10 x.2.1) (hok : okR T B y) (a : ¬ fX1_takesNumber x = 0) : SE n x tm (fX10_pressEnter gd n x) (fX11_enter (nI n) y) := by
  unfold fX10_pressEnter fX11_enter
  rw [if_neg a, tn hn]
  by_cases hc : fX9_isComplete x = 0
  · rw [if_pos hc]
    by_cases q0 : y.1 42 n = 0
    · rw [if_pos q0]; exact se_no hG h lf p10
    · rcases (comp_iff h).mp hc with q | q
      · exact absurd q q0
      · rw [if_neg q0, if_pos q]; exact se_no hG h lf p10
  · have n1 : ¬ y.1 42 n = 0 := fun q => hc ((comp_iff h).mpr (Or.inl q))
    have n2 : ¬ y.1 43 n = y.1 42 n := fun q => hc ((comp_iff h).mpr (Or.inr q))
    have hN := un_bd (places_3 (gd := gd) (x := x)) h.ty
    rw [if_neg hc, if_neg n1, if_neg n2, ← number_eq hn hD h, ← h.ph]
    generalize fX9_inUnits (fX1_places gd x) x = N at hN ⊢
    have hph := tak_ne a
    by_cases p1 : x.2.1 0 6 = 1
    · rw [if_pos p1, if_pos p1]; exact se_drug hn hD hG h lf p10
    · rw [if_neg p1, if_neg p1]
      by_cases p2 : x.2.1 0 6 = 2
      · rw [if_pos p2, if_pos p2]; exact se_weight hn hG h lf p10 p2
      · rw [if_neg p2, if_neg p2]
        by_cases p3 : x.2.1 0 6 = 3
        · rw [if_pos p3, if_pos p3]; exact se_amount hn hD hs hG h lf p10 hok p3 hN
        · rw [if_neg p3, if_neg p3]
          have p4 : x.2.1 0 6 = 4 := by
            have i1 : ¬ (x.2.1 0 6).toInt = 1 := fun q => p1 (i32_of q)
            have i2 : ¬ (x.2.1 0 6).toInt = 2 := fun q => p2 (i32_of q)
            have i3 : ¬ (x.2.1 0 6).toInt = 3 := fun q => p3 (i32_of q)
            refine i32_of ?_
            rw [show (4 : Int32).toInt = 4 from rfl]; omega
          exact se_volume hn hD hs hG h lf p10 hok p4 hN
end S7
