/-! the channels of a tick -/
theorem fo1_7 {p : Int32} : ∀ (k : Nat) (y : FS) (v : Int32), (fX8_forgetOld_7_L2 p k y v).1 = y.1 ∧ (fX8_forgetOld_7_L2 p k y v).2.2 = y.2.2 := by
  intro k
  induction k with
  | zero => intro y v; exact ⟨rfl, rfl⟩
  | succ k ih =>
    intro y v
    unfold fX8_forgetOld_7_L2
    by_cases c1 : (20 : Int32) ≤ v
    · rw [if_pos c1]; exact ⟨rfl, rfl⟩
    · rw [if_neg c1]
      by_cases c2 : y.2.1 7 3 ≤ 0
      · rw [if_pos c2]; exact ⟨rfl, rfl⟩
      · rw [if_neg c2]
        by_cases c3 : (p - y.2.1 8 (y.2.1 7 2).toNatClampNeg) < 3600
        · rw [if_pos c3]; exact ⟨rfl, rfl⟩
        · rw [if_neg c3]
          by_cases c4 : (20 : Int32) ≤ y.2.1 7 2 + 1
          · rw [if_pos c4]; exact ih _ _
          · rw [if_neg c4]; exact ih _ _
theorem foi_7 {p : Int32} : ∀ (k : Nat) (g g' : Nat → Nat → Int32) (c : Nat → Nat → Int32) (l l' : Int64) (v : Int32), (fX8_forgetOld_7_L2 p k (g, c, l) v).2.1 = (fX8_forgetOld_7_L2 p k (g', c, l') v).2.1 := by
  intro k
  induction k with
  | zero => intro g g' c l l' v; rfl
  | succ k ih =>
    intro g g' c l l' v
    unfold fX8_forgetOld_7_L2
    dsimp only
    by_cases c1 : (20 : Int32) ≤ v
    · rw [if_pos c1, if_pos c1]
    · rw [if_neg c1, if_neg c1]
      by_cases c2 : c 7 3 ≤ 0
      · rw [if_pos c2, if_pos c2]
      · rw [if_neg c2, if_neg c2]
        by_cases c3 : (p - c 8 (c 7 2).toNatClampNeg) < 3600
        · rw [if_pos c3, if_pos c3]
        · rw [if_neg c3, if_neg c3]
          by_cases c4 : (20 : Int32) ≤ c 7 2 + 1
          · rw [if_pos c4, if_pos c4]; exact ih _ _ _ _ _ _
          · rw [if_neg c4, if_neg c4]; exact ih _ _ _ _ _ _
theorem fo1_10 {p : Int32} : ∀ (k : Nat) (y : FS) (v : Int32), (fX8_forgetOld_10_L2 p k y v).1 = y.1 ∧ (fX8_forgetOld_10_L2 p k y v).2.2 = y.2.2 := by
  intro k
  induction k with
  | zero => intro y v; exact ⟨rfl, rfl⟩
  | succ k ih =>
    intro y v
    unfold fX8_forgetOld_10_L2
    by_cases c1 : (60 : Int32) ≤ v
    · rw [if_pos c1]; exact ⟨rfl, rfl⟩
    · rw [if_neg c1]
      by_cases c2 : y.2.1 10 3 ≤ 0
      · rw [if_pos c2]; exact ⟨rfl, rfl⟩
      · rw [if_neg c2]
        by_cases c3 : (p - y.2.1 11 (y.2.1 10 2).toNatClampNeg) < 900
        · rw [if_pos c3]; exact ⟨rfl, rfl⟩
        · rw [if_neg c3]
          by_cases c4 : (60 : Int32) ≤ y.2.1 10 2 + 1
          · rw [if_pos c4]; exact ih _ _
          · rw [if_neg c4]; exact ih _ _
theorem foi_10 {p : Int32} : ∀ (k : Nat) (g g' : Nat → Nat → Int32) (c : Nat → Nat → Int32) (l l' : Int64) (v : Int32), (fX8_forgetOld_10_L2 p k (g, c, l) v).2.1 = (fX8_forgetOld_10_L2 p k (g', c, l') v).2.1 := by
  intro k
  induction k with
  | zero => intro g g' c l l' v; rfl
  | succ k ih =>
    intro g g' c l l' v
    unfold fX8_forgetOld_10_L2
    dsimp only
    by_cases c1 : (60 : Int32) ≤ v
    · rw [if_pos c1, if_pos c1]
    · rw [if_neg c1, if_neg c1]
      by_cases c2 : c 10 3 ≤ 0
      · rw [if_pos c2, if_pos c2]
      · rw [if_neg c2, if_neg c2]
        by_cases c3 : (p - c 11 (c 10 2).toNatClampNeg) < 900
        · rw [if_pos c3, if_pos c3]
        · rw [if_neg c3, if_neg c3]
          by_cases c4 : (60 : Int32) ≤ c 10 2 + 1
          · rw [if_pos c4, if_pos c4]; exact ih _ _ _ _ _ _
          · rw [if_neg c4, if_neg c4]; exact ih _ _ _ _ _ _
def btc (t : Int32) (c : Nat → Nat → Int32) : Nat → Nat → Int32 := (fX1_beginTick t (fun _ _ => 0, c, 0)).2.1
theorem adv_1 {x : FS} : (fX4_advance x).1 = x.1 ∧ (fX4_advance x).2.2 = x.2.2 := by
  unfold fX4_advance
  by_cases c1 : (3600 : Int32) ≤ x.2.1 12 1 + 1
  · rw [if_pos c1]; exact ⟨rfl, rfl⟩
  · rw [if_neg c1]; exact ⟨rfl, rfl⟩
theorem adv_i {g g' c : Nat → Nat → Int32} {l l' : Int64} : (fX4_advance (g, c, l)).2.1 = (fX4_advance (g', c, l')).2.1 := by
  unfold fX4_advance
  dsimp only
  by_cases c1 : (3600 : Int32) ≤ c 12 1 + 1
  · rw [if_pos c1, if_pos c1]
  · rw [if_neg c1, if_neg c1]
theorem sc_form {Z : FS} {g c : Nat → Nat → Int32} {l : Int64} (h1 : Z.1 = g) (h2 : Z.2.1 = c) (h3 : Z.2.2 = l) : sC Z 0 10 0 = (g, va_up c 0 (va_up (c 0) 10 0), l) := by
  subst h1 h2 h3
  rfl
theorem fst_10 {t : Int32} {x : FS} : (fX8_forgetOld_10 t x).1 = x.1 ∧ (fX8_forgetOld_10 t x).2.2 = x.2.2 := by
  unfold fX8_forgetOld_10
  exact fo1_10 _ _ _
theorem fst_7 {t : Int32} {x : FS} : (fX8_forgetOld_7 t x).1 = x.1 ∧ (fX8_forgetOld_7 t x).2.2 = x.2.2 := by
  unfold fX8_forgetOld_7
  exact fo1_7 _ _ _
theorem fi_10 {t : Int32} {x x' : FS} (h : x.2.1 = x'.2.1) : (fX8_forgetOld_10 t x).2.1 = (fX8_forgetOld_10 t x').2.1 := by
  obtain ⟨g, c, l⟩ := x
  obtain ⟨g', c', l'⟩ := x'
  have e : c = c' := h
  subst e
  unfold fX8_forgetOld_10
  exact foi_10 _ _ _ _ _ _ _
theorem fi_7 {t : Int32} {x x' : FS} (h : x.2.1 = x'.2.1) : (fX8_forgetOld_7 t x).2.1 = (fX8_forgetOld_7 t x').2.1 := by
  obtain ⟨g, c, l⟩ := x
  obtain ⟨g', c', l'⟩ := x'
  have e : c = c' := h
  subst e
  unfold fX8_forgetOld_7
  exact foi_7 _ _ _ _ _ _ _
theorem bt_x {t : Int32} {x : FS} : fX1_beginTick t x = (x.1, btc t x.2.1, x.2.2) := by
  have i1 : (fX4_advance x).2.1 = (fX4_advance (fun _ _ => 0, x.2.1, 0)).2.1 := adv_i
  have i3 := fi_7 (t := t) (fi_10 (t := t) i1)
  have e1 : (fX8_forgetOld_7 t (fX8_forgetOld_10 t (fX4_advance x))).1 = x.1 := by rw [fst_7.1, fst_10.1, adv_1.1]
  have e2 : (fX8_forgetOld_7 t (fX8_forgetOld_10 t (fX4_advance x))).2.2 = x.2.2 := by rw [fst_7.2, fst_10.2, adv_1.2]
  unfold btc fX1_beginTick
  rw [sc_form e1 i3 e2, sc_form rfl rfl rfl]
/-- a channel whose tick has begun in the reference alone -/
def UB (m : Nat) (c : Nat → Nat → Int32) (y : RS) (tm' tm : Int32) : Prop := CH 0 m (btc tm' c) y tm' ∧ btc tm' c 0 10 = 0 ∧ LF (btc tm' c) ∧ P10 (btc tm' c) ∧ ID m (btc tm' c) y tm
theorem ub_kp {n m : Nat} {c : Nat → Nat → Int32} {y0 y : RS} {tm' tm : Int32} (hn : n < 3) (hm : m < 3) (hne : m ≠ n) (hk : Kp n y0 y) (h : UB m c y0 tm' tm) : UB m c y tm' tm := by
  refine ⟨ch_kp hn hm hne hk h.1, h.2.1, h.2.2.1, h.2.2.2.1, ?_⟩
  unfold ID
  rw [hk 44 m (fun q => by unfold Wr at q; omega)]
  exact h.2.2.2.2
theorem ub_of {m : Nat} {c : Nat → Nat → Int32} {y : RS} {tm' tm : Int32} (hm : m < 3) (h : CC m c y tm) (h0 : 0 ≤ tm.toInt) (h4 : tm.toInt ≤ 400000) (ht : tm'.toInt = tm.toInt + 1) (hy : y.1 0 45 = tm') : UB m c (bst (nI m) y) tm' tm := by
  have q := bt_ch (x := (fun _ _ => 0, c, 0)) hm h.1 h0 h4 ht hy h.2.1 h.2.2.1 h.2.2.2
  exact ⟨q.1, q.2.1, q.2.2.1, q.2.2.2.1, q.2.2.2.2.1⟩
def ST (k : Nat) (x : PS) (y : RS) (tm' tm : Int32) : Prop := G (foc x 0) y ∧ x.1 0 3 = tm' ∧ DR x.2.1 y ∧ DV y ∧ (∀ m, m < 3 → m < k → CC m (x.2.2.1 m) y tm') ∧ (∀ m, m < 3 → k ≤ m → UB m (x.2.2.1 m) y tm' tm)
theorem kb {m : Nat} {y : RS} (hm : m < 3) (ht : 0 ≤ (y.1 0 45).toInt) : Kp m y (bst (nI m) y) := by
  have q := kp_bst (y0 := y) (y := y) ht (vn hm) (fun _ _ _ => rfl)
  rw [tn hm] at q
  exact q
theorem G_kp {n : Nat} {x : FS} {y0 y : RS} (hk : ∀ k, y.1 0 k = y0.1 0 k) (h45 : y.1 45 = y0.1 45) (h2 : y.2 = y0.2) (h : G x y0) : G x y := by
  unfold G
  rw [hk, hk, hk, hk, hk, hk, h45, h2]
  exact h
theorem G_bst {x : FS} {y : RS} {p1 : Int32} (h : G x y) : G x (bst p1 y) := by
  unfold bst
  exact G_r (by decide) (by decide) (G_r (by decide) (by decide) (G_r (by decide) (by decide) (G_r (by decide) (by decide) (G_r (by decide) (by decide) (G_r (by decide) (by decide) (G_r (by decide) (by decide) h))))))
theorem st_begin {x : PS} {y : RS} (h : SP x y) (hb : (x.1 0 3).toInt < 400000) : ST 0 (pT0 x) (fX11_beginTick y) (x.1 0 3 + 1) (x.1 0 3) := by
  have h0 : 0 ≤ (x.1 0 3).toInt := h.1.tb.1
  have et := i32_succ (a := x.1 0 3) (b := 400000) (by rw [show (400000 : Int32).toInt = 400000 from rfl]; exact hb)
  have ey : y.1 0 45 = x.1 0 3 := h.1.tm.symm
  have y1t : (sR y 0 45 (y.1 0 45 + 1)).1 0 45 = x.1 0 3 + 1 := by
    show va_up (y.1 0) 45 (y.1 0 45 + 1) 45 = _
    rw [va_up_self, ey]
  have c1 : ∀ m, m < 3 → CC m (x.2.2.1 m) (sR y 0 45 (y.1 0 45 + 1)) (x.1 0 3) := fun m hm => ⟨(h.2.2.2 m hm).1, (h.2.2.2 m hm).2.1, (h.2.2.2 m hm).2.2.1, fun a b => (h.2.2.2 m hm).2.2.2 a b⟩
  have hG1 : G (foc (pT0 x) 0) (sR y 0 45 (y.1 0 45 + 1)) := by
    refine ⟨?_, h.1.cg, h.1.mn, h.1.cn, ?_, h.1.en, h.1.lg, h.1.ch, ?_⟩
    · show x.1 0 3 + 1 = va_up (y.1 0) 45 (y.1 0 45 + 1) 45
      rw [va_up_self, ey]
    · rcases h.1.si with q | ⟨q1, q2⟩
      · exact Or.inl q
      · refine Or.inr ⟨?_, ?_⟩
        · show (x.1 0 7).toInt ≤ (x.1 0 3 + 1).toInt
          have q3 : (x.1 0 7).toInt ≤ (x.1 0 3).toInt := q1
          omega
        · show (y.1 0 49).toInt ≤ (x.1 0 3 + 1).toInt
          have q3 : (y.1 0 49).toInt ≤ (x.1 0 3).toInt := q2
          omega
    · show 0 ≤ (x.1 0 3 + 1).toInt ∧ (x.1 0 3 + 1).toInt ≤ 400000
      omega
  have hD1 : DR (pT0 x).2.1 (sR y 0 45 (y.1 0 45 + 1)) := dr_s (Or.inl rfl) h.2.1
  have hV1 : DV (sR y 0 45 (y.1 0 45 + 1)) := fun d hd => h.2.2.1 d hd
  rw [bt_eq]
  generalize sR y 0 45 (y.1 0 45 + 1) = y1 at y1t c1 hG1 hD1 hV1 ⊢
  have k1 := kb (m := 0) (y := y1) (by decide) (by rw [y1t]; omega)
  have y2t : (bst (nI 0) y1).1 0 45 = x.1 0 3 + 1 := (kp_time k1).trans y1t
  have k2 := kb (m := 1) (y := bst (nI 0) y1) (by decide) (by rw [y2t]; omega)
  have y3t : (bst (nI 1) (bst (nI 0) y1)).1 0 45 = x.1 0 3 + 1 := (kp_time k2).trans y2t
  have k3 := kb (m := 2) (y := bst (nI 1) (bst (nI 0) y1)) (by decide) (by rw [y3t]; omega)
  refine ⟨G_bst (G_bst (G_bst hG1)), rfl, dr_kp (dr_kp (dr_kp hD1 k1) k2) k3, dv_kp (dv_kp (dv_kp hV1 k1) k2) k3, fun m _ hm => absurd hm (Nat.not_lt_zero _), fun m hm _ => ?_⟩
  show UB m (x.2.2.1 m) _ _ _
  rcases (show m = 0 ∨ m = 1 ∨ m = 2 by omega) with q | q | q
  · subst q
    exact ub_kp (by decide) hm (by decide) k3 (ub_kp (by decide) hm (by decide) k2 (ub_of hm (c1 0 hm) h0 (by omega) et y1t))
  · subst q
    exact ub_kp (by decide) hm (by decide) k3 (ub_of hm (cc_kp (by decide) hm (by decide) k1 (c1 1 hm)) h0 (by omega) et y2t)
  · subst q
    exact ub_of hm (cc_kp (by decide) hm (by decide) k2 (cc_kp (by decide) hm (by decide) k1 (c1 2 hm))) h0 (by omega) et y3t
theorem kp_rst {n : Nat} {y : RS} (hn : n < 3) (ht : 0 ≤ (y.1 0 45).toInt) : Kp n y (rst (nI n) y).1 := by
  have fin : ∀ Y, Kp n y Y → Kp n y (rfin (nI n) Y) := by
    intro Y hY
    have hY' : Kp (nI n).toNatClampNeg y Y := by rw [tn hn]; exact hY
    have kl := kpX11_lines ht (vn hn) hY'
    have q : Kp (nI n).toNatClampNeg y (rfin (nI n) Y) := by
      unfold rfin
      exact kp_ite (fun _ => kl) (fun _ => kp_ite (fun _ => kl) (fun _ => kpX11_drop ht (vn hn) kl))
    rw [tn hn] at q
    exact q
  have kd := kpX11_deliver (y0 := y) (x := y) ht (vn hn) (fun _ _ _ => rfl)
  rw [tn hn] at kd
  by_cases e : y.1 13 n = 7
  · rw [rst_7 e hn]; exact fin _ kd
  · rw [rst_0 e hn]; exact fin _ (fun _ _ _ => rfl)
theorem ok_rst {n T B : Nat} {y : RS} (hn : n < 3) (hok : okR T (B + 1) y) : okR T B (rst (nI n) y).1 := by
  have fin : ∀ Y, okR T (B + 1) Y → okR T B (rfin (nI n) Y) := by
    intro Y hY
    have kl : okR T (B + 1) (fX11_lines (nI n) Y) := okX11_lines (vn hn) hY
    unfold rfin
    exact okR_ite (fun _ => okR_le (k := 1) kl) (fun _ => okR_ite (fun _ => okR_le (k := 1) kl) (fun _ => okX11_drop (vn hn) kl))
  by_cases e : y.1 13 n = 7
  · rw [rst_7 e hn]; exact fin _ (okX11_deliver (vn hn) hok)
  · rw [rst_0 e hn]; exact fin _ hok
theorem pch_7 {n : Nat} {gd : Nat → Nat → Int32} {x : FS} {X : FS} (e : fX1_beginTick (x.1 0 3) x = X) (h : X.2.1 0 6 = 7) : fX10_passChannel gd n x = fX10_passChannel_J26 gd n (fX10_deliver gd n X).1 (fX10_deliver gd n X).2 := by
  unfold fX10_passChannel
  rw [e]
  exact if_pos h
theorem pch_0 {n : Nat} {gd : Nat → Nat → Int32} {x : FS} {X : FS} (e : fX1_beginTick (x.1 0 3) x = X) (h : ¬ X.2.1 0 6 = 7) : fX10_passChannel gd n x = fX10_passChannel_J26 gd n X 0 := by
  unfold fX10_passChannel
  rw [e]
  exact if_neg h
theorem st_step {n T B : Nat} {x : PS} {y : RS} {tm' tm : Int32} (hn : n < 3) (h : ST n x y tm' tm) (ht0 : tm'.toInt = tm.toInt + 1) (hok : okR T (B + 1) y) : ST (n + 1) (pC n x) (rst (nI n) y).1 tm' tm ∧ pN n x = (rst (nI n) y).2 ∧ okR T B (rst (nI n) y).1 := by
  obtain ⟨hG, htm, hD, hV, hc, hu⟩ := h
  obtain ⟨u1, u2, u3, u4, u5⟩ := hu n hn (Nat.le_refl n)
  have ht : 0 ≤ (y.1 0 45).toInt := hok.1.1
  have kR := kp_rst (y := y) hn ht
  have oR := ok_rst hn hok
  obtain ⟨X, eX⟩ : ∃ X, X = (x.1, btc tm' (x.2.2.1 n), x.2.2.2) := ⟨_, rfl⟩
  have eB : fX1_beginTick ((foc x n).1 0 3) (foc x n) = X := by
    show fX1_beginTick (x.1 0 3) (foc x n) = X
    rw [bt_x, htm, eX]
  have hGX : G X y := by rw [eX]; exact hG
  have hXt : X.1 0 3 = tm' := by rw [eX]; exact htm
  have hXc : X.2.1 = btc tm' (x.2.2.1 n) := by rw [eX]
  rw [← hXc] at u1 u2 u3 u4 u5
  have main : G (fX10_passChannel x.2.1 n (foc x n)).1 (rst (nI n) y).1 ∧ CC n (fX10_passChannel x.2.1 n (foc x n)).1.2.1 (rst (nI n) y).1 tm' ∧ (fX10_passChannel x.2.1 n (foc x n)).2 = (rst (nI n) y).2 := by
    by_cases h7 : X.2.1 0 6 = 7
    · rw [pch_7 eB h7, rst_7 (u1.ph.symm.trans h7) hn]
      have f := s_chan7 hn hD hV hGX hXt ht0 u1 u2 u3 u4 hok h7 rfl rfl
      dsimp only
      exact f
    · rw [pch_0 eB h7, rst_0 (fun q => h7 (u1.ph.trans q)) hn]
      have f := s_fin (gd := x.2.1) (v := 0) hn hGX hXt ht0 u1 u3 u4 u5 hok
      dsimp only
      exact f
  refine ⟨?_, main.2.2, oR⟩
  obtain ⟨m1, m2, m3⟩ := main
  unfold pC
  generalize (fX10_passChannel x.2.1 n (foc x n)).1 = u at m1 m2 ⊢
  generalize (rst (nI n) y).1 = Y at m1 m2 kR ⊢
  have et : u.1 0 3 = tm' := by rw [m1.tm, kp_time kR, ← hG.tm]; exact htm
  refine ⟨m1, et, dr_kp hD kR, dv_kp hV kR, fun m hm hmn => ?_, fun m hm hmn => ?_⟩
  · show CC m (va_up x.2.2.1 n u.2.1 m) Y tm'
    by_cases e : m = n
    · subst e
      rw [va_up_self]; exact m2
    · rw [va_up_ne _ _ e]
      exact cc_kp hn hm e kR (hc m hm (by omega))
  · show UB m (va_up x.2.2.1 n u.2.1 m) Y tm' tm
    rw [va_up_ne _ _ (by omega)]
    exact ub_kp hn hm (by omega) kR (hu m hm (by omega))
theorem st_sp {x : PS} {y : RS} {tm' tm : Int32} (h : ST 3 x y tm' tm) : SP x y := ⟨h.1, h.2.2.1, h.2.2.2.1, fun m hm => by rw [h.2.1]; exact h.2.2.2.2.1 m hm hm⟩
