theorem cp_10 {gd : Nat → Nat → Int32} {n : Nat} {x : FS} : fX10_press gd n 10 x = (fX10_typePoint gd x) := by
  unfold fX10_press
  rw [if_pos rfl]
theorem cp_11 {gd : Nat → Nat → Int32} {n : Nat} {x : FS} : fX10_press gd n 11 x = (fX10_pressClear n x) := by
  unfold fX10_press
  rw [if_neg (show ¬ (11 : Int32) = 10 by decide), if_pos rfl]
theorem cp_12 {gd : Nat → Nat → Int32} {n : Nat} {x : FS} : fX10_press gd n 12 x = (fX10_pressEnter gd n x) := by
  unfold fX10_press
  rw [if_neg (show ¬ (12 : Int32) = 10 by decide), if_neg (show ¬ (12 : Int32) = 11 by decide), if_pos rfl]
theorem cp_13 {gd : Nat → Nat → Int32} {n : Nat} {x : FS} : fX10_press gd n 13 x = (fX10_pressBegin x) := by
  unfold fX10_press
  rw [if_neg (show ¬ (13 : Int32) = 10 by decide), if_neg (show ¬ (13 : Int32) = 11 by decide), if_neg (show ¬ (13 : Int32) = 12 by decide), if_pos rfl]
theorem cp_14 {gd : Nat → Nat → Int32} {n : Nat} {x : FS} : fX10_press gd n 14 x = (fX10_pressRun n x) := by
  unfold fX10_press
  rw [if_neg (show ¬ (14 : Int32) = 10 by decide), if_neg (show ¬ (14 : Int32) = 11 by decide), if_neg (show ¬ (14 : Int32) = 12 by decide), if_neg (show ¬ (14 : Int32) = 13 by decide), if_pos rfl]
theorem cp_15 {gd : Nat → Nat → Int32} {n : Nat} {x : FS} : fX10_press gd n 15 x = (fX10_pressStop n x) := by
  unfold fX10_press
  rw [if_neg (show ¬ (15 : Int32) = 10 by decide), if_neg (show ¬ (15 : Int32) = 11 by decide), if_neg (show ¬ (15 : Int32) = 12 by decide), if_neg (show ¬ (15 : Int32) = 13 by decide), if_neg (show ¬ (15 : Int32) = 14 by decide), if_pos rfl]
theorem cp_16 {gd : Nat → Nat → Int32} {n : Nat} {x : FS} : fX10_press gd n 16 x = (fX10_pressAck gd n x) := by
  unfold fX10_press
  rw [if_neg (show ¬ (16 : Int32) = 10 by decide), if_neg (show ¬ (16 : Int32) = 11 by decide), if_neg (show ¬ (16 : Int32) = 12 by decide), if_neg (show ¬ (16 : Int32) = 13 by decide), if_neg (show ¬ (16 : Int32) = 14 by decide), if_neg (show ¬ (16 : Int32) = 15 by decide), if_pos rfl]
theorem cp_17 {gd : Nat → Nat → Int32} {n : Nat} {x : FS} : fX10_press gd n 17 x = (fX10_pressOver n x) := by
  unfold fX10_press
  rw [if_neg (show ¬ (17 : Int32) = 10 by decide), if_neg (show ¬ (17 : Int32) = 11 by decide), if_neg (show ¬ (17 : Int32) = 12 by decide), if_neg (show ¬ (17 : Int32) = 13 by decide), if_neg (show ¬ (17 : Int32) = 14 by decide), if_neg (show ¬ (17 : Int32) = 15 by decide), if_neg (show ¬ (17 : Int32) = 16 by decide), if_pos rfl]
theorem cp_18 {gd : Nat → Nat → Int32} {n : Nat} {x : FS} : fX10_press gd n 18 x = (fX10_pressBolus gd n x) := by
  unfold fX10_press
  rw [if_neg (show ¬ (18 : Int32) = 10 by decide), if_neg (show ¬ (18 : Int32) = 11 by decide), if_neg (show ¬ (18 : Int32) = 12 by decide), if_neg (show ¬ (18 : Int32) = 13 by decide), if_neg (show ¬ (18 : Int32) = 14 by decide), if_neg (show ¬ (18 : Int32) = 15 by decide), if_neg (show ¬ (18 : Int32) = 16 by decide), if_neg (show ¬ (18 : Int32) = 17 by decide), if_pos rfl]
theorem cp_19 {gd : Nat → Nat → Int32} {n : Nat} {x : FS} : fX10_press gd n 19 x = ((sP x 0 7 ((x.1 0 3) + 120)), x.2.1 0 6) := by
  unfold fX10_press
  rw [if_neg (show ¬ (19 : Int32) = 10 by decide), if_neg (show ¬ (19 : Int32) = 11 by decide), if_neg (show ¬ (19 : Int32) = 12 by decide), if_neg (show ¬ (19 : Int32) = 13 by decide), if_neg (show ¬ (19 : Int32) = 14 by decide), if_neg (show ¬ (19 : Int32) = 15 by decide), if_neg (show ¬ (19 : Int32) = 16 by decide), if_neg (show ¬ (19 : Int32) = 17 by decide), if_neg (show ¬ (19 : Int32) = 18 by decide), if_pos rfl]
theorem cp_20 {gd : Nat → Nat → Int32} {n : Nat} {x : FS} : fX10_press gd n 20 x = (if (3 : Int32) ≤ ((x.1 0 6) + 1) then (fX10_press_J155 gd n 20 x 0) else (fX10_press_J155 gd n 20 x ((x.1 0 6) + 1))) := by
  unfold fX10_press
  rw [if_neg (show ¬ (20 : Int32) = 10 by decide), if_neg (show ¬ (20 : Int32) = 11 by decide), if_neg (show ¬ (20 : Int32) = 12 by decide), if_neg (show ¬ (20 : Int32) = 13 by decide), if_neg (show ¬ (20 : Int32) = 14 by decide), if_neg (show ¬ (20 : Int32) = 15 by decide), if_neg (show ¬ (20 : Int32) = 16 by decide), if_neg (show ¬ (20 : Int32) = 17 by decide), if_neg (show ¬ (20 : Int32) = 18 by decide), if_neg (show ¬ (20 : Int32) = 19 by decide), if_pos rfl]
theorem cp_21 {gd : Nat → Nat → Int32} {n : Nat} {x : FS} : fX10_press gd n 21 x = (fX10_pressRelay x) := by
  unfold fX10_press
  rw [if_neg (show ¬ (21 : Int32) = 10 by decide), if_neg (show ¬ (21 : Int32) = 11 by decide), if_neg (show ¬ (21 : Int32) = 12 by decide), if_neg (show ¬ (21 : Int32) = 13 by decide), if_neg (show ¬ (21 : Int32) = 14 by decide), if_neg (show ¬ (21 : Int32) = 15 by decide), if_neg (show ¬ (21 : Int32) = 16 by decide), if_neg (show ¬ (21 : Int32) = 17 by decide), if_neg (show ¬ (21 : Int32) = 18 by decide), if_neg (show ¬ (21 : Int32) = 19 by decide), if_neg (show ¬ (21 : Int32) = 20 by decide), if_pos rfl]
theorem cp_d {gd : Nat → Nat → Int32} {n : Nat} {x : FS} {p : Int32} (h : vp_in p 10) : fX10_press gd n p x = (fX10_typeFigure gd p x) := by
  have ne : ∀ K : Int32, 10 ≤ K.toInt → ¬ p = K := fun K hK q => by rw [q, vp_in_iff] at h; omega
  unfold fX10_press
  rw [if_neg (ne 10 (by decide)), if_neg (ne 11 (by decide)), if_neg (ne 12 (by decide)), if_neg (ne 13 (by decide)), if_neg (ne 14 (by decide)), if_neg (ne 15 (by decide)), if_neg (ne 16 (by decide)), if_neg (ne 17 (by decide)), if_neg (ne 18 (by decide)), if_neg (ne 19 (by decide)), if_neg (ne 20 (by decide)), if_neg (ne 21 (by decide))]
def alv (p : Int32) : Prop := ¬ (p = 16 ∨ p = 18 ∨ p = 19 ∨ p = 20)
section S11
variable {n T B : Nat} {x : FS} {y : RS} {tm : Int32} {gd : Nat → Nat → Int32}
theorem sr_silent (hG : G x y) (h : CH 0 n x.2.1 y tm) (lf : LF x.2.1) (p10 : P10 x.2.1) : SR n x tm (sP x 0 7 (x.1 0 3 + 120), x.2.1 0 6) (sR y 0 49 (y.1 0 45 + 120), 1) := ⟨⟨hG.tm, hG.cg, hG.mn, hG.cn, Or.inl (by show x.1 0 3 + 120 = y.1 0 45 + 120; rw [hG.tm]), hG.en, hG.lg, hG.ch, hG.tb⟩, h, lf, p10, Or.inr ⟨one_ne, rfl⟩, rfl⟩
theorem sr_next (hG : G x y) (h : CH 0 n x.2.1 y tm) (lf : LF x.2.1) (p10 : P10 x.2.1) (hc : vp_in (y.1 0 48) 3) : SR n x tm (if (3 : Int32) ≤ ((x.1 0 6) + 1) then (fX10_press_J155 gd n 20 x 0) else (fX10_press_J155 gd n 20 x ((x.1 0 6) + 1))) (sR y 0 48 (((y.1 0 48) + 1) - ((y.1 0 48) + 1) / 3 * 3), 1) ∧ (if (3 : Int32) ≤ ((x.1 0 6) + 1) then (fX10_press_J155 gd n 20 x 0) else (fX10_press_J155 gd n 20 x ((x.1 0 6) + 1))).1.2.1 0 6 = x.2.1 0 6 := by
  have key : ∀ v : Int32, SR n x tm (fX10_press_J155 gd n 20 x v) (sR y 0 48 v, 1) ∧ (fX10_press_J155 gd n 20 x v).1.2.1 0 6 = x.2.1 0 6 := by
    intro v
    unfold fX10_press_J155
    exact ⟨⟨⟨hG.tm, hG.cg, hG.mn, rfl, hG.si, hG.en, hG.lg, hG.ch, hG.tb⟩, h, lf, p10, Or.inr ⟨one_ne, rfl⟩, rfl⟩, rfl⟩
  obtain ⟨i, hi, ei⟩ := vp_in_of hc (by decide)
  rw [hG.cn, ei]
  rcases (show i = 0 ∨ i = 1 ∨ i = 2 by omega) with q | q | q
  · subst q
    rw [if_neg (by decide), show nI 0 + 1 - (nI 0 + 1) / 3 * 3 = nI 0 + 1 from by decide]; exact key _
  · subst q
    rw [if_neg (by decide), show nI 1 + 1 - (nI 1 + 1) / 3 * 3 = nI 1 + 1 from by decide]; exact key _
  · subst q
    rw [if_pos (by decide), show nI 2 + 1 - (nI 2 + 1) / 3 * 3 = 0 from by decide]; exact key _
theorem sr_press {p : Int32} (hn : n < 3) (hD : DR gd y) (hV : DV y) (hG : G x y) (htm : x.1 0 3 = tm) (h : CH 0 n x.2.1 y tm) (lf : LF x.2.1) (p10 : P10 x.2.1) (hok : okR T (B + 16) y) (hp : vp_in p 22) (h12 : ¬ p = 12) : SR n x tm (fX10_press gd n p x) (fX11_press (nI n) p y) ∧ (¬ alv p → (fX10_press gd n p x).1.2.1 0 6 = x.2.1 0 6) := by
  have hp2 := vp_in_iff.mp hp
  by_cases q10 : p.toInt < 10
  · have hd : vp_in p 10 := vp_in_iff.mpr ⟨hp2.1, q10⟩
    rw [cp_d hd]
    refine ⟨sr_fig hn hD hG h lf p10 hd, fun q => absurd (fun a => ?_) q⟩
    rcases a with a | a | a | a <;> rw [a] at q10 <;> exact absurd q10 (by decide)
  · rcases (show p.toInt = 10 ∨ p.toInt = 11 ∨ p.toInt = 12 ∨ p.toInt = 13 ∨ p.toInt = 14 ∨ p.toInt = 15 ∨ p.toInt = 16 ∨ p.toInt = 17 ∨ p.toInt = 18 ∨ p.toInt = 19 ∨ p.toInt = 20 ∨ p.toInt = 21 by omega) with q | q | q | q | q | q | q | q | q | q | q | q
    · have e : p = 10 := i32_of q
      subst e
      rw [cp_10]
      exact ⟨sr_point hn hD hG h lf p10, fun q => absurd (by unfold alv; decide) q⟩
    · have e : p = 11 := i32_of q
      subst e
      rw [cp_11]
      exact ⟨sr_clear hn hG h lf p10 hok, fun q => absurd (by unfold alv; decide) q⟩
    · exact absurd (i32_of q) h12
    · have e : p = 13 := i32_of q
      subst e
      rw [cp_13, pr_13]
      exact ⟨sr_begin hn hG h lf p10, fun q => absurd (by unfold alv; decide) q⟩
    · have e : p = 14 := i32_of q
      subst e
      rw [cp_14, pr_14]
      exact ⟨sr_run hn hG h lf p10 hok, fun q => absurd (by unfold alv; decide) q⟩
    · have e : p = 15 := i32_of q
      subst e
      rw [cp_15, pr_15]
      exact ⟨sr_stop hn hG h lf p10 hok, fun q => absurd (by unfold alv; decide) q⟩
    · have e : p = 16 := i32_of q
      subst e
      rw [cp_16, pr_16]
      have r := sr_ack hn hD hG h lf p10 hok
      exact ⟨r.1, fun _ => r.2⟩
    · have e : p = 17 := i32_of q
      subst e
      rw [cp_17]
      exact ⟨sr_over hn hG h lf p10 hok, fun q => absurd (by unfold alv; decide) q⟩
    · have e : p = 18 := i32_of q
      subst e
      rw [cp_18, pr_18]
      have r := sr_bolus hn hD hV hG htm h lf p10 hok
      exact ⟨r.1, fun _ => r.2⟩
    · have e : p = 19 := i32_of q
      subst e
      rw [cp_19, pr_19]
      exact ⟨sr_silent hG h lf p10, fun _ => rfl⟩
    · have e : p = 20 := i32_of q
      subst e
      rw [cp_20, pr_20]
      have r := sr_next (gd := gd) hG h lf p10 hok.2.2.2.2.1
      exact ⟨r.1, fun _ => r.2⟩
    · have e : p = 21 := i32_of q
      subst e
      rw [cp_21]
      exact ⟨sr_relay hn hG h lf p10, fun q => absurd (by unfold alv; decide) q⟩
end S11
/-! the whole pump -/
def ID (n : Nat) (c : Nat → Nat → Int32) (y : RS) (tm : Int32) : Prop := 1 ≤ (c 0 6).toInt → (c 0 6).toInt ≤ 5 → (c 1 6).toInt + (y.1 44 n).toInt = tm.toInt ∧ 0 ≤ (c 1 6).toInt ∧ (c 1 6).toInt < 60
def CC (n : Nat) (c : Nat → Nat → Int32) (y : RS) (tm : Int32) : Prop := CH 0 n c y tm ∧ LF c ∧ P10 c ∧ ID n c y tm
def SP (x : PS) (y : RS) : Prop := G (foc x 0) y ∧ DR x.2.1 y ∧ DV y ∧ ∀ n, n < 3 → CC n (x.2.2.1 n) y (x.1 0 3)
theorem cc_kp {n m : Nat} {c : Nat → Nat → Int32} {y0 y : RS} {tm : Int32} (hn : n < 3) (hm : m < 3) (hne : m ≠ n) (hk : Kp n y0 y) (h : CC m c y0 tm) : CC m c y tm := by
  refine ⟨ch_kp hn hm hne hk h.1, h.2.1, h.2.2.1, ?_⟩
  unfold ID
  rw [hk 44 m (fun q => by unfold Wr at q; omega)]
  exact h.2.2.2
theorem sp_put {x : PS} {y Y : RS} {n : Nat} {u : FS} (hn : n < 3) (h : SP x y) (hk : Kp n y Y) (hG : G u Y) (hC : CC n u.2.1 Y (x.1 0 3)) : SP (put x n u) Y := by
  have et : u.1 0 3 = x.1 0 3 := by rw [hG.tm, kp_time hk]; exact h.1.tm.symm
  refine ⟨hG, dr_kp h.2.1 hk, dv_kp h.2.2.1 hk, fun m hm => ?_⟩
  show CC m (va_up x.2.2.1 n u.2.1 m) Y (u.1 0 3)
  rw [et]
  by_cases e : m = n
  · subst e
    rw [va_up_self]; exact hC
  · rw [va_up_ne _ _ e]
    exact cc_kp hn hm e hk (h.2.2.2 m hm)
theorem dr_s {gd : Nat → Nat → Int32} {y : RS} {o k : Nat} {v : Int32} (ho : o = 0 ∨ 13 ≤ o) (h : DR gd y) : DR gd (sR y o k v) := ⟨fun d hd q h1 h2 h3 => by
  rw [sR_rd (fun e => by omega)]
  exact h.1 d hd q h1 h2 h3, fun d hd => by
  rw [sR_rd (fun e => by omega), sR_rd (fun e => by omega)]
  exact h.2 d hd⟩
theorem sp_idle {x : PS} {y : RS} {n : Nat} (hn : n < 3) (h : SP x y) : SP (tC x n 1 6 0) (sR y 44 n (y.1 0 45)) := by
  refine ⟨h.1, dr_s (Or.inr (by decide)) h.2.1, h.2.2.1, fun m hm => ?_⟩
  have q := h.2.2.2 m hm
  show CC m (va_up x.2.2.1 n (va_up (x.2.2.1 n) 1 (va_up (x.2.2.1 n 1) 6 0)) m) (sR y 44 n (y.1 0 45)) (x.1 0 3)
  by_cases e : m = n
  · subst e
    rw [va_up_self]
    refine ⟨q.1, q.2.1, q.2.2.1, fun _ _ => ?_⟩
    show (0 : Int32).toInt + (va_up (y.1 44) m (y.1 0 45) m).toInt = (x.1 0 3).toInt ∧ 0 ≤ (0 : Int32).toInt ∧ (0 : Int32).toInt < 60
    rw [va_up_self, show x.1 0 3 = y.1 0 45 from h.1.tm]
    exact ⟨Int.zero_add _, by decide, by decide⟩
  · rw [va_up_ne _ _ e]
    refine ⟨q.1, q.2.1, q.2.2.1, ?_⟩
    unfold ID
    rw [sR_rd (fun q => e q.2)]
    exact q.2.2.2
theorem sp_thr {x : PS} {y : RS} {v : Int32} (h : SP x y) : SP x (sR y 0 0 v) := ⟨h.1, dr_s (Or.inl rfl) h.2.1, h.2.2.1, fun n hn => ⟨(h.2.2.2 n hn).1, (h.2.2.2 n hn).2.1, (h.2.2.2 n hn).2.2.1, fun a b => (h.2.2.2 n hn).2.2.2 a b⟩⟩
theorem j87 {p a c : Int32} {Y : RS} : (alv p → ¬ a = -1 → fX11_key_J87 p Y c a = fX11_key_J138 p (sR Y 44 c.toNatClampNeg (Y.1 0 45)) c a) ∧ (¬ alv p → fX11_key_J87 p Y c a = fX11_key_J138 p Y c a) ∧ (a = -1 → fX11_key_J87 p Y c a = fX11_key_J138 p Y c a) := by
  have e0 : fX11_key_J116 p Y c a 0 = fX11_key_J138 p Y c a := by
    unfold fX11_key_J116
    rw [if_pos rfl, ite_self]
  unfold fX11_key_J87 fX11_key_J115
  rw [e0]
  by_cases h1 : p = 16
  · rw [if_pos h1]; exact ⟨fun q => absurd (Or.inl h1) q, fun _ => rfl, fun _ => rfl⟩
  · by_cases h2 : p = 18
    · rw [if_neg h1, if_pos h2]; exact ⟨fun q => absurd (Or.inr (Or.inl h2)) q, fun _ => rfl, fun _ => rfl⟩
    · by_cases h3 : p = 19
      · rw [if_neg h1, if_neg h2, if_pos h3]; exact ⟨fun q => absurd (Or.inr (Or.inr (Or.inl h3))) q, fun _ => rfl, fun _ => rfl⟩
      · by_cases h4 : p = 20
        · rw [if_neg h1, if_neg h2, if_neg h3, if_pos h4]; exact ⟨fun q => absurd (Or.inr (Or.inr (Or.inr h4))) q, fun _ => rfl, fun _ => rfl⟩
        · rw [if_neg h1, if_neg h2, if_neg h3, if_neg h4]
          unfold fX11_key_J116
          refine ⟨fun _ q => ?_, fun q => absurd (show alv p from fun a => ?_) q, fun q => ?_⟩
          · rw [if_neg q, if_neg one_ne]
          · rcases a with a | a | a | a
            · exact h1 a
            · exact h2 a
            · exact h3 a
            · exact h4 a
          · rw [if_pos q]
