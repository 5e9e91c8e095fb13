theorem xc_1' : xcode "java/lang/IndexOutOfBoundsException" = 1 := by decide
theorem xc_2' : xcode "java/lang/IllegalArgumentException" = 2 := by decide
theorem xc_3' : xcode "java/lang/IllegalStateException" = 3 := by decide
/-! a key -/
theorem tC_put {x : PS} {n : Nat} {u : FS} : tC (put x n u) n 1 6 0 = put x n (sC u 1 6 0) := by
  show (u.1, x.2.1, va_up (va_up x.2.2.1 n u.2.1) n (va_up (va_up x.2.2.1 n u.2.1 n) 1 (va_up (va_up x.2.2.1 n u.2.1 n 1) 6 0)), u.2.2) = (u.1, x.2.1, va_up x.2.2.1 n (va_up u.2.1 1 (va_up (u.2.1 1) 6 0)), u.2.2)
  rw [va_up_up, va_up_self]
theorem sp_put2 {x : PS} {y Y : RS} {n : Nat} {u : FS} {v : Int32} (hn : n < 3) (h : SP x y) (hk : Kp n y Y) (hG : G u Y) (hC : CC n u.2.1 (sR Y 44 n v) (x.1 0 3)) : SP (put x n u) (sR Y 44 n v) := by
  have et : u.1 0 3 = x.1 0 3 := by rw [hG.tm, kp_time hk]; exact h.1.tm.symm
  have hdv : DV Y := dv_kp h.2.2.1 hk
  refine ⟨G_r (by decide) (by decide) hG, dr_s (Or.inr (by decide)) (dr_kp h.2.1 hk), fun d hd => hdv d hd, fun m hm => ?_⟩
  show CC m (va_up x.2.2.1 n u.2.1 m) (sR Y 44 n v) (u.1 0 3)
  rw [et]
  by_cases e : m = n
  · subst e
    rw [va_up_self]; exact hC
  · rw [va_up_ne _ _ e]
    have q := cc_kp hn hm e hk (h.2.2.2 m hm)
    refine ⟨q.1, q.2.1, q.2.2.1, ?_⟩
    unfold ID
    rw [sR_rd (fun q => e q.2)]
    exact q.2.2.2
theorem kea {p : Int32} {z : FS} : (alv p → ¬ fX10_keepsEntryAlive p z = 0) ∧ (¬ alv p → fX10_keepsEntryAlive p z = 0) := by
  unfold fX10_keepsEntryAlive alv
  by_cases h1 : p = 16
  · rw [if_pos h1]; exact ⟨fun q => absurd (Or.inl h1) q, fun _ => rfl⟩
  · by_cases h2 : p = 18
    · rw [if_neg h1, if_pos h2]; exact ⟨fun q => absurd (Or.inr (Or.inl h2)) q, fun _ => rfl⟩
    · by_cases h3 : p = 19
      · rw [if_neg h1, if_neg h2, if_pos h3]; exact ⟨fun q => absurd (Or.inr (Or.inr (Or.inl h3))) q, fun _ => rfl⟩
      · by_cases h4 : p = 20
        · rw [if_neg h1, if_neg h2, if_neg h3, if_pos h4]; exact ⟨fun q => absurd (Or.inr (Or.inr (Or.inr h4))) q, fun _ => rfl⟩
        · rw [if_neg h1, if_neg h2, if_neg h3, if_neg h4]
          refine ⟨fun _ => one_ne, fun q => absurd (fun a => ?_) q⟩
          rcases a with a | a | a | a
          · exact h1 a
          · exact h2 a
          · exact h3 a
          · exact h4 a
theorem id_kp {n : Nat} {c c' : Nat → Nat → Int32} {y Y : RS} {tm : Int32} (hk : Kp n y Y) (h : ID n c y tm) (e1 : c' 0 6 = c 0 6) (e2 : c' 1 6 = c 1 6) : ID n c' Y tm := by
  unfold ID
  rw [e1, e2, hk 44 n (fun q => by unfold Wr at q; omega)]
  exact h
theorem key_fin {x : PS} {y0 Y : RS} {n : Nat} {p a : Int32} {q : FS × Int32} {z : FS} (hn : n < 3) (h0 : SP x y0) (hk : Kp n y0 Y) (hG : G q.1 Y) (hC : CH 0 n q.1.2.1 Y (x.1 0 3)) (lf : LF q.1.2.1) (p10 : P10 q.1.2.1) (hi : q.1.2.1 1 6 = x.2.2.1 n 1 6) (hst : (a = -1 ∨ ¬ alv p) → q.1.2.1 0 6 = x.2.2.1 n 0 6) (hans : (a = -1 ∧ q.2 = -1) ∨ (a = -2 ∧ q.2 = -2) ∨ (a = 0 ∧ q.2 = q.1.2.1 0 6)) : SP (if q.2 = -1 then put x n q.1 else (if fX10_keepsEntryAlive p z = 0 then put x n q.1 else tC (put x n q.1) n 1 6 0)) (fX11_key_J87 p Y (nI n) a).1 ∧ q.2 = (fX11_key_J87 p Y (nI n) a).2 ∧ (fX11_key_J87 p Y (nI n) a).1.1 0 0 = y0.1 0 0 := by
  obtain ⟨j1, j2, j3⟩ := j87 (p := p) (a := a) (c := nI n) (Y := Y)
  have k00 : Y.1 0 0 = y0.1 0 0 := hk 0 0 (fun q => by unfold Wr at q; omega)
  have hid := (h0.2.2.2 n hn).2.2.2
  have hph : 0 ≤ (q.1.2.1 0 6).toInt := hC.ru.2.1
  by_cases ha : a = -1
  · have hq : q.2 = -1 := by
      rcases hans with r | r | r
      · exact r.2
      · rw [r.1] at ha; exact absurd ha (by decide)
      · rw [r.1] at ha; exact absurd ha (by decide)
    rw [j3 ha, if_pos hq]
    unfold fX11_key_J138
    rw [if_neg (show ¬ (0 : Int32) ≤ a by rw [ha]; decide)]
    exact ⟨sp_put hn h0 hk hG ⟨hC, lf, p10, id_kp hk hid (hst (Or.inl ha)) hi⟩, hq.trans ha.symm, k00⟩
  · have hq : ¬ q.2 = -1 := by
      rcases hans with r | r | r
      · exact absurd r.1 ha
      · rw [r.2]; decide
      · rw [r.2]; intro e; rw [e] at hph; exact absurd hph (by decide)
    rw [if_neg hq]
    have val : ∀ Z : RS, Z.1 13 n = Y.1 13 n → q.2 = (fX11_key_J138 p Z (nI n) a).2 ∧ (fX11_key_J138 p Z (nI n) a).1 = Z := by
      intro Z eZ
      unfold fX11_key_J138
      rcases hans with r | r | r
      · exact absurd r.1 ha
      · rw [if_neg (show ¬ (0 : Int32) ≤ a by rw [r.1]; decide)]
        exact ⟨r.2.trans r.1.symm, rfl⟩
      · rw [if_pos (show (0 : Int32) ≤ a by rw [r.1]; decide)]
        refine ⟨?_, rfl⟩
        show q.2 = Z.1 13 (nI n).toNatClampNeg
        rw [tn hn, eZ, r.2]; exact hC.ph
    by_cases hal : alv p
    · rw [j1 hal ha, if_neg (kea.1 hal), tC_put, tn hn]
      obtain ⟨v1, v2⟩ := val (sR Y 44 n (Y.1 0 45)) rfl
      rw [v2]
      refine ⟨sp_put2 hn h0 hk hG ⟨hC, lf, p10, fun _ _ => ?_⟩, v1, k00⟩
      show (0 : Int32).toInt + (va_up (Y.1 44) n (Y.1 0 45) n).toInt = (x.1 0 3).toInt ∧ 0 ≤ (0 : Int32).toInt ∧ (0 : Int32).toInt < 60
      rw [va_up_self, kp_time hk, show x.1 0 3 = y0.1 0 45 from h0.1.tm]
      exact ⟨Int.zero_add _, by decide, by decide⟩
    · rw [j2 hal, if_pos (kea.2 hal)]
      obtain ⟨v1, v2⟩ := val Y rfl
      rw [v2]
      exact ⟨sp_put hn h0 hk hG ⟨hC, lf, p10, id_kp hk hid (hst (Or.inr hal)) hi⟩, v1, k00⟩
theorem ok_j87 {p a c : Int32} {Y : RS} {T B : Nat} (h : okR T B Y) : okR T B (fX11_key_J87 p Y c a).1 := by
  have e : ∀ Z : RS, (fX11_key_J138 p Z c a).1 = Z := fun Z => by
    unfold fX11_key_J138
    by_cases q : (0 : Int32) ≤ a
    · rw [if_pos q]
    · rw [if_neg q]
  obtain ⟨j1, j2, j3⟩ := j87 (p := p) (a := a) (c := c) (Y := Y)
  by_cases ha : a = -1
  · rw [j3 ha, e]; exact h
  · by_cases hal : alv p
    · rw [j1 hal ha, e]; exact okR_sR rfl h
    · rw [j2 hal, e]; exact h
theorem key_c {x : PS} {n : Nat} {p : Int32} (hr : 0 ≤ p.toInt ∧ p.toInt ≤ 21) (hn : (x.1 0 6).toNatClampNeg = n) : fX10_key p x = (0, (if (fX10_press x.2.1 n p (foc x n)).2 = -1 then put x n (fX10_press x.2.1 n p (foc x n)).1 else (if fX10_keepsEntryAlive p (foc (put x n (fX10_press x.2.1 n p (foc x n)).1) 0) = 0 then put x n (fX10_press x.2.1 n p (foc x n)).1 else tC (put x n (fX10_press x.2.1 n p (foc x n)).1) n 1 6 0)), (fX10_press x.2.1 n p (foc x n)).2) := by
  have q1 : ¬ p < 0 := by rw [Int32.lt_iff_toInt_lt, show (0 : Int32).toInt = 0 from rfl]; omega
  have q2 : p ≤ 21 := by rw [Int32.le_iff_toInt_le, show (21 : Int32).toInt = 21 from rfl]; omega
  unfold fX10_key
  rw [hn, if_neg q1, if_pos q2]
  generalize fX10_press x.2.1 n p (foc x n) = q
  by_cases c1 : q.2 = -1
  · rw [if_pos c1, if_pos c1]
  · rw [if_neg c1, if_neg c1]
    by_cases c2 : fX10_keepsEntryAlive p (foc (put x n q.1) 0) = 0
    · rw [if_pos c2, if_pos c2]
    · rw [if_neg c2, if_neg c2]
theorem s_key {x : PS} {y : RS} {p : Int32} {T B : Nat} (h : SP x y) (hok : okR T (B + 16) y) (hs : okS y) : SP (fX10_key p x).2.1 (fX11_key p y).1 ∧ okR T B (fX11_key p y).1 ∧ (((fX10_key p x).1 = 0 ∧ (fX11_key p y).1.1 0 0 = 0 ∧ (fX10_key p x).2.2 = (fX11_key p y).2) ∨ ((fX10_key p x).1 = 2 ∧ (fX11_key p y).1.1 0 0 = 1)) := by
  by_cases hr : 0 ≤ p.toInt ∧ p.toInt ≤ 21
  · obtain ⟨n, hn, en⟩ := vp_in_of hok.2.2.2.2.1 (by decide)
    have ec : x.1 0 6 = nI n := h.1.cn.trans en
    have hcn : (x.1 0 6).toNatClampNeg = n := by rw [ec, tn hn]
    have h0 := sp_thr (v := 0) h
    have hok0 : okR T (B + 16) (sR y 0 0 0) := okR_sR rfl hok
    have hs0 : okS (sR y 0 0 0) := hs
    have ht0 : 0 ≤ ((sR y 0 0 0).1 0 45).toInt := hok.1.1
    obtain ⟨c1, c2, c3, c4⟩ := h0.2.2.2 n hn
    have hG0 : G (foc x n) (sR y 0 0 0) := h0.1
    rw [key_c hr hcn]
    have eK : ∀ Y a, fX11_key p y = fX11_key_J87 p Y (nI n) a → okR T B Y → Kp n (sR y 0 0 0) Y → G (fX10_press x.2.1 n p (foc x n)).1 Y → CH 0 n (fX10_press x.2.1 n p (foc x n)).1.2.1 Y (x.1 0 3) → LF (fX10_press x.2.1 n p (foc x n)).1.2.1 → P10 (fX10_press x.2.1 n p (foc x n)).1.2.1 → (fX10_press x.2.1 n p (foc x n)).1.2.1 1 6 = x.2.2.1 n 1 6 → ((a = -1 ∨ ¬ alv p) → (fX10_press x.2.1 n p (foc x n)).1.2.1 0 6 = x.2.2.1 n 0 6) → ((a = -1 ∧ (fX10_press x.2.1 n p (foc x n)).2 = -1) ∨ (a = -2 ∧ (fX10_press x.2.1 n p (foc x n)).2 = -2) ∨ (a = 0 ∧ (fX10_press x.2.1 n p (foc x n)).2 = (fX10_press x.2.1 n p (foc x n)).1.2.1 0 6)) → SP (if (fX10_press x.2.1 n p (foc x n)).2 = -1 then put x n (fX10_press x.2.1 n p (foc x n)).1 else (if fX10_keepsEntryAlive p (foc (put x n (fX10_press x.2.1 n p (foc x n)).1) 0) = 0 then put x n (fX10_press x.2.1 n p (foc x n)).1 else tC (put x n (fX10_press x.2.1 n p (foc x n)).1) n 1 6 0)) (fX11_key p y).1 ∧ okR T B (fX11_key p y).1 ∧ (((0 : Nat) = 0 ∧ (fX11_key p y).1.1 0 0 = 0 ∧ (fX10_press x.2.1 n p (foc x n)).2 = (fX11_key p y).2) ∨ ((0 : Nat) = 2 ∧ (fX11_key p y).1.1 0 0 = 1)) := by
      intro Y a e1 e2 e3 e4 e5 e6 e7 e8 e9 e10
      obtain ⟨r1, r2, r3⟩ := key_fin (z := foc (put x n (fX10_press x.2.1 n p (foc x n)).1) 0) hn h0 e3 e4 e5 e6 e7 e8 e9 e10
      rw [e1]
      exact ⟨r1, ok_j87 e2, Or.inl ⟨rfl, r3, r2⟩⟩
    have hin : ¬ fX11_isIn p.toInt64 0 21 y = 0 := by
      rw [isin_i (l := 0) (h := 21) rfl rfl, if_pos hr]; exact one_ne
    by_cases h12 : p = 12
    · subst h12
      by_cases a : fX1_takesNumber (foc x n) = 0
      · have eP : fX10_press x.2.1 n 12 (foc x n) = (foc x n, -1) := by
          rw [cp_12]
          unfold fX10_pressEnter
          rw [if_pos a]
        have eR : fX11_key 12 y = fX11_key_J87 12 (sR y 0 0 0) (nI n) (-1) := by
          unfold fX11_key fX11_key_J71 fX11_key_J72
          rw [if_neg hin, if_pos rfl, en, tn hn]
          have e13 : y.1 13 n = (foc x n).2.1 0 6 := c1.ph.symm
          rw [e13]
          unfold fX1_takesNumber at a
          by_cases b1 : (foc x n).2.1 0 6 < 1
          · rw [if_pos b1]
          · rw [if_neg b1] at a ⊢
            by_cases b2 : (4 : Int32) < (foc x n).2.1 0 6
            · rw [if_pos b2]
            · rw [if_neg b2] at a; exact absurd a one_ne
        refine eK (sR y 0 0 0) (-1) eR (okR_le (k := 16) hok0) (fun _ _ _ => rfl) ?_ ?_ ?_ ?_ ?_ ?_ ?_
        · rw [eP]; exact hG0
        · rw [eP]; exact c1
        · rw [eP]; exact c2
        · rw [eP]; exact c3
        · rw [eP]
        · rw [eP]; exact fun _ => rfl
        · rw [eP]; exact Or.inl ⟨rfl, rfl⟩
      · have hE := se_enter (gd := x.2.1) (tm := x.1 0 3) hn h0.2.1 hs0 hG0 c1 c2 c3 hok0 a
        have kE := kpX11_enter (y0 := sR y 0 0 0) (x := sR y 0 0 0) ht0 (vn hn) (fun _ _ _ => rfl)
        rw [tn hn] at kE
        have oE : okR T B (fX11_enter (nI n) (sR y 0 0 0)).1 := okX11_enter (vn hn) (okR_le (k := 15) (show okR T (B + 1 + 15) (sR y 0 0 0) from hok0))
        have eR : fX11_key 12 y = fX11_key_J87 12 (fX11_enter (nI n) (sR y 0 0 0)).1 (nI n) (fX11_enter (nI n) (sR y 0 0 0)).2 := by
          unfold fX11_key fX11_key_J72
          rw [if_neg hin, if_pos rfl, en, tn hn]
          have e13 : y.1 13 n = (foc x n).2.1 0 6 := c1.ph.symm
          rw [e13]
          have tk := tak_ne a
          rw [if_neg (by rw [Int32.lt_iff_toInt_lt, show (1 : Int32).toInt = 1 from rfl]; omega), if_neg (by rw [Int32.lt_iff_toInt_lt, show (4 : Int32).toInt = 4 from rfl]; omega)]
        rw [← cp_12 (gd := x.2.1) (n := n) (x := foc x n)] at hE
        obtain ⟨f1, f2, f3, f4, f5, f6⟩ := hE
        refine eK _ _ eR oE kE f1 f2 f3 f4 f6 (fun q => ?_) ?_
        · rcases f5 with r | r | r
          · exact r.2.2
          · rcases q with q | q
            · rw [r.1] at q; exact absurd q (by decide)
            · exact absurd (by unfold alv; decide) q
          · rcases q with q | q
            · rw [r.1] at q; exact absurd q (by decide)
            · exact absurd (by unfold alv; decide) q
        · rcases f5 with r | r | r
          · exact Or.inl ⟨r.1, r.2.1⟩
          · exact Or.inr (Or.inl r)
          · exact Or.inr (Or.inr r)
    · have hp22 : vp_in p 22 := by rw [vp_in_iff]; omega
      obtain ⟨⟨f1, f2, f3, f4, f5, f6⟩, f7⟩ := sr_press (gd := x.2.1) (tm := x.1 0 3) (p := p) hn h0.2.1 h0.2.2.1 hG0 rfl c1 c2 c3 hok0 hp22 h12
      have kE := kpX11_press (y0 := sR y 0 0 0) (x := sR y 0 0 0) (p2 := p) ht0 (vn hn) (fun _ _ _ => rfl)
      rw [tn hn] at kE
      have oE : okR T B (fX11_press (nI n) p (sR y 0 0 0)).1 := okX11_press (vn hn) hok0
      rcases f5 with r | r
      · have eR : fX11_key p y = fX11_key_J87 p (fX11_press (nI n) p (sR y 0 0 0)).1 (nI n) (-1) := by
          unfold fX11_key
          rw [if_neg hin, if_neg h12, en, if_pos r.1]
        exact eK _ _ eR oE kE f1 f2 f3 f4 f6 (fun _ => r.2.2) (Or.inl ⟨rfl, r.2.1⟩)
      · have eR : fX11_key p y = fX11_key_J87 p (fX11_press (nI n) p (sR y 0 0 0)).1 (nI n) 0 := by
          unfold fX11_key
          rw [if_neg hin, if_neg h12, en, if_neg r.1]
        exact eK _ _ eR oE kE f1 f2 f3 f4 f6 (fun q => f7 (q.resolve_left (by decide))) (Or.inr (Or.inr ⟨rfl, r.2⟩))
  · have eC : fX10_key p x = (2, x, 0) := by
      unfold fX10_key
      by_cases q1 : p < 0
      · rw [if_pos q1, xc_2']
      · rw [Int32.lt_iff_toInt_lt, show (0 : Int32).toInt = 0 from rfl] at q1
        have q2 : ¬ p ≤ 21 := by rw [Int32.le_iff_toInt_le, show (21 : Int32).toInt = 21 from rfl]; omega
        rw [if_neg (by rw [Int32.lt_iff_toInt_lt, show (0 : Int32).toInt = 0 from rfl]; omega), if_neg q2, xc_2']
    have eR : fX11_key p y = (sR y 0 0 1, 0) := by
      unfold fX11_key
      rw [isin_i (l := 0) (h := 21) rfl rfl, if_neg hr, if_pos rfl]
    rw [eC, eR]
    exact ⟨sp_thr h, okR_le (k := 16) (okR_sR rfl hok), Or.inr ⟨rfl, rfl⟩⟩
