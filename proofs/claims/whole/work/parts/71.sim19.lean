/-! the face: line, mains, reading -/
def FR (q : Nat × PS × Int32) (r : RS × Int32) : Prop := SP q.2.1 r.1 ∧ ((q.1 = 0 ∧ r.1.1 0 0 = 0 ∧ q.2.2 = r.2) ∨ (q.1 = 1 ∧ r.1.1 0 0 = 1) ∨ (q.1 = 2 ∧ r.1.1 0 0 = 2) ∨ (q.1 = 3 ∧ r.1.1 0 0 = 3))
theorem chAt_0 {p1 : Int32} {x : PS} (h : 0 ≤ p1.toInt ∧ p1.toInt ≤ 2) : (fX10_channelAt p1 x).1 = 0 := by
  unfold fX10_channelAt
  rw [if_neg (by rw [Int32.lt_iff_toInt_lt, show (0 : Int32).toInt = 0 from rfl]; omega), if_pos (by rw [Int32.lt_iff_toInt_lt, show (3 : Int32).toInt = 3 from rfl]; omega)]
theorem chAt_1 {p1 : Int32} {x : PS} (h : ¬ (0 ≤ p1.toInt ∧ p1.toInt ≤ 2)) : fX10_channelAt p1 x = (1, x, 0) := by
  unfold fX10_channelAt
  rw [xc_1']
  by_cases q : p1 < 0
  · rw [if_pos q]
  · rw [if_neg q, if_neg (by rw [Int32.lt_iff_toInt_lt, show (0 : Int32).toInt = 0 from rfl] at q; rw [Int32.lt_iff_toInt_lt, show (3 : Int32).toInt = 3 from rfl]; omega)]
theorem isin2 {p : Int32} {y : RS} : fX11_isIn p.toInt64 0 2 y = (if 0 ≤ p.toInt ∧ p.toInt ≤ 2 then 1 else 0) := isin_i rfl rfl
theorem ch3 {p1 : Int32} (h : 0 ≤ p1.toInt ∧ p1.toInt ≤ 2) : ∃ n, n < 3 ∧ p1 = nI n := vp_in_of (vp_in_iff.mpr ⟨h.1, by omega⟩) (by decide)
theorem ch_x22 {b n m : Nat} {c : Nat → Nat → Int32} {y : RS} {tm v : Int32} (hne : m ≠ n) (h : CH b m c y tm) : CH b m c (sR y 22 n v) tm := ⟨h.ph, h.al, h.st, h.wa, h.dn, h.cf, h.we, h.am, h.ra, h.le, h.ma, h.de, h.bo, (by rw [sR_rd (fun q => hne q.2)]; exact h.fl), h.pr, h.ti, h.bu, h.ai, h.op, h.su, h.co, h.at_, h.pd, h.la, h.ty, h.tc, h.ed, h.ru, h.nu, h.re, h.r1, h.r2⟩
theorem ch_o22 {b n : Nat} {x : FS} {y : RS} {tm v : Int32} (h : CH b n x.2.1 y tm) : CH b n (sC x 9 1 v).2.1 (sR y 22 n v) tm := ⟨h.ph, h.al, h.st, h.wa, h.dn, h.cf, h.we, h.am, h.ra, h.le, h.ma, h.de, h.bo, (by show v = va_up (y.1 22) n v n; rw [va_up_self]), h.pr, h.ti, h.bu, h.ai, h.op, h.su, h.co, h.at_, h.pd, h.la, h.ty, h.tc, h.ed, h.ru, h.nu, h.re, h.r1, h.r2⟩
theorem sp_c22 {n : Nat} {x : PS} {y : RS} {v : Int32} (h : SP x y) : SP (tC x n 9 1 v) (sR y 22 n v) := by
  refine ⟨G_r (by decide) (by decide) (G_tc h.1), dr_s (Or.inr (by decide)) h.2.1, fun d hd => h.2.2.1 d hd, fun m hm => ?_⟩
  show CC m (va_up x.2.2.1 n (va_up (x.2.2.1 n) 9 (va_up (x.2.2.1 n 9) 1 v)) m) (sR y 22 n v) (x.1 0 3)
  obtain ⟨c1, c2, c3, c4⟩ := h.2.2.2 m hm
  by_cases e : m = n
  · subst e
    rw [va_up_self]
    exact ⟨ch_o22 (x := (x.1, x.2.2.1 m, x.2.2.2)) c1, c2, c3, fun a b => c4 a b⟩
  · rw [va_up_ne _ _ e]
    exact ⟨ch_x22 e c1, c2, c3, fun a b => c4 a b⟩
theorem ch_x23 {b n m : Nat} {c : Nat → Nat → Int32} {y : RS} {tm v : Int32} (hne : m ≠ n) (h : CH b m c y tm) : CH b m c (sR y 23 n v) tm := ⟨h.ph, h.al, h.st, h.wa, h.dn, h.cf, h.we, h.am, h.ra, h.le, h.ma, h.de, h.bo, h.fl, h.pr, h.ti, h.bu, (by rw [sR_rd (fun q => hne q.2)]; exact h.ai), h.op, h.su, h.co, h.at_, h.pd, h.la, h.ty, h.tc, h.ed, h.ru, h.nu, h.re, h.r1, h.r2⟩
theorem ch_o23 {b n : Nat} {x : FS} {y : RS} {tm v : Int32} (h : CH b n x.2.1 y tm) : CH b n (sC x 9 5 v).2.1 (sR y 23 n v) tm := ⟨h.ph, h.al, h.st, h.wa, h.dn, h.cf, h.we, h.am, h.ra, h.le, h.ma, h.de, h.bo, h.fl, h.pr, h.ti, h.bu, (by show v = va_up (y.1 23) n v n; rw [va_up_self]), h.op, h.su, h.co, h.at_, h.pd, h.la, h.ty, h.tc, h.ed, h.ru, h.nu, h.re, h.r1, h.r2⟩
theorem sp_c23 {n : Nat} {x : PS} {y : RS} {v : Int32} (h : SP x y) : SP (tC x n 9 5 v) (sR y 23 n v) := by
  refine ⟨G_r (by decide) (by decide) (G_tc h.1), dr_s (Or.inr (by decide)) h.2.1, fun d hd => h.2.2.1 d hd, fun m hm => ?_⟩
  show CC m (va_up x.2.2.1 n (va_up (x.2.2.1 n) 9 (va_up (x.2.2.1 n 9) 5 v)) m) (sR y 23 n v) (x.1 0 3)
  obtain ⟨c1, c2, c3, c4⟩ := h.2.2.2 m hm
  by_cases e : m = n
  · subst e
    rw [va_up_self]
    exact ⟨ch_o23 (x := (x.1, x.2.2.1 m, x.2.2.2)) c1, c2, c3, fun a b => c4 a b⟩
  · rw [va_up_ne _ _ e]
    exact ⟨ch_x23 e c1, c2, c3, fun a b => c4 a b⟩
theorem ch_x24 {b n m : Nat} {c : Nat → Nat → Int32} {y : RS} {tm v : Int32} (hne : m ≠ n) (h : CH b m c y tm) : CH b m c (sR y 24 n v) tm := ⟨h.ph, h.al, h.st, h.wa, h.dn, h.cf, h.we, h.am, h.ra, h.le, h.ma, h.de, h.bo, h.fl, h.pr, h.ti, h.bu, h.ai, (by rw [sR_rd (fun q => hne q.2)]; exact h.op), h.su, h.co, h.at_, h.pd, h.la, h.ty, h.tc, h.ed, h.ru, h.nu, h.re, h.r1, h.r2⟩
theorem ch_o24 {b n : Nat} {x : FS} {y : RS} {tm v : Int32} (h : CH b n x.2.1 y tm) : CH b n (sC x 9 6 v).2.1 (sR y 24 n v) tm := ⟨h.ph, h.al, h.st, h.wa, h.dn, h.cf, h.we, h.am, h.ra, h.le, h.ma, h.de, h.bo, h.fl, h.pr, h.ti, h.bu, h.ai, (by show v = va_up (y.1 24) n v n; rw [va_up_self]), h.su, h.co, h.at_, h.pd, h.la, h.ty, h.tc, h.ed, h.ru, h.nu, h.re, h.r1, h.r2⟩
theorem sp_c24 {n : Nat} {x : PS} {y : RS} {v : Int32} (h : SP x y) : SP (tC x n 9 6 v) (sR y 24 n v) := by
  refine ⟨G_r (by decide) (by decide) (G_tc h.1), dr_s (Or.inr (by decide)) h.2.1, fun d hd => h.2.2.1 d hd, fun m hm => ?_⟩
  show CC m (va_up x.2.2.1 n (va_up (x.2.2.1 n) 9 (va_up (x.2.2.1 n 9) 6 v)) m) (sR y 24 n v) (x.1 0 3)
  obtain ⟨c1, c2, c3, c4⟩ := h.2.2.2 m hm
  by_cases e : m = n
  · subst e
    rw [va_up_self]
    exact ⟨ch_o24 (x := (x.1, x.2.2.1 m, x.2.2.2)) c1, c2, c3, fun a b => c4 a b⟩
  · rw [va_up_ne _ _ e]
    exact ⟨ch_x24 e c1, c2, c3, fun a b => c4 a b⟩
theorem s_flow {x : PS} {y : RS} {p1 p2 : Int32} (h : SP x y) : FR (fX10_flow p1 p2 x) (fX11_flow p1 p2 y) := by
  unfold fX10_flow fX11_flow
  rw [isin2]
  by_cases hr : 0 ≤ p1.toInt ∧ p1.toInt ≤ 2
  · rw [if_pos (chAt_0 hr), if_pos hr, if_neg one_ne, isin_i (l := 0) (h := 1000) rfl rfl]
    obtain ⟨n, hn, e⟩ := ch3 hr
    subst e
    rw [tn hn]
    by_cases q1 : p2 < 0
    · have q2 := q1
      rw [Int32.lt_iff_toInt_lt, show (0 : Int32).toInt = 0 from rfl] at q2
      rw [if_pos q1, if_neg (show ¬ (0 ≤ p2.toInt ∧ p2.toInt ≤ 1000) from fun q => by omega), if_pos rfl, xc_2']
      exact ⟨sp_thr h, Or.inr (Or.inr (Or.inl ⟨rfl, rfl⟩))⟩
    · have q2 := q1
      rw [Int32.lt_iff_toInt_lt, show (0 : Int32).toInt = 0 from rfl] at q2
      rw [if_neg q1]
      by_cases q3 : p2 ≤ 1000
      · have q4 := q3
        rw [Int32.le_iff_toInt_le, show (1000 : Int32).toInt = 1000 from rfl] at q4
        rw [if_pos q3, if_pos (show 0 ≤ p2.toInt ∧ p2.toInt ≤ 1000 by omega), if_neg one_ne]
        exact ⟨sp_c22 (sp_thr h), Or.inl ⟨rfl, rfl, (h.2.2.2 n hn).1.fl⟩⟩
      · have q4 := q3
        rw [Int32.le_iff_toInt_le, show (1000 : Int32).toInt = 1000 from rfl] at q4
        rw [if_neg q3, if_neg (show ¬ (0 ≤ p2.toInt ∧ p2.toInt ≤ 1000) from fun q => by omega), if_pos rfl, xc_2']
        exact ⟨sp_thr h, Or.inr (Or.inr (Or.inl ⟨rfl, rfl⟩))⟩
  · rw [chAt_1 hr, if_neg hr, if_pos rfl]
    exact ⟨sp_thr h, Or.inr (Or.inl ⟨rfl, rfl⟩)⟩
theorem isch_1 {p1 : Int32} {y : RS} (hr : 0 ≤ p1.toInt ∧ p1.toInt ≤ 2) : fX11_isChannel p1 y = (sR y 0 0 0, 1) := by
  unfold fX11_isChannel
  rw [isin2, if_pos hr, if_neg one_ne]
theorem isch_0 {p1 : Int32} {y : RS} (hr : ¬ (0 ≤ p1.toInt ∧ p1.toInt ≤ 2)) : fX11_isChannel p1 y = (sR y 0 0 1, 0) := by
  unfold fX11_isChannel
  rw [isin2, if_neg hr, if_pos rfl]
theorem s_air {x : PS} {y : RS} {p1 p2 : Int32} (h : SP x y) : FR (fX10_air p1 p2 x) (fX11_air p1 p2 y) := by
  unfold fX10_air fX11_air
  by_cases hr : 0 ≤ p1.toInt ∧ p1.toInt ≤ 2
  · rw [if_pos (chAt_0 hr), isch_1 hr, if_neg one_ne]
    obtain ⟨n, hn, e⟩ := ch3 hr
    subst e
    rw [tn hn]
    exact ⟨sp_c23 (sp_thr h), Or.inl ⟨rfl, rfl, (h.2.2.2 n hn).1.ai⟩⟩
  · rw [chAt_1 hr, isch_0 hr, if_pos rfl]
    exact ⟨sp_thr h, Or.inr (Or.inl ⟨rfl, rfl⟩)⟩
theorem s_door {T B : Nat} {x : PS} {y : RS} {p1 p2 : Int32} (h : SP x y) (hok : okR T B y) : FR (fX10_door p1 p2 x) (fX11_door p1 p2 y) := by
  unfold fX10_door fX11_door
  by_cases hr : 0 ≤ p1.toInt ∧ p1.toInt ≤ 2
  · rw [if_pos (chAt_0 hr), isch_1 hr, if_neg one_ne]
    obtain ⟨n, hn, e⟩ := ch3 hr
    subst e
    rw [tn hn]
    have h24 := sp_c24 (n := n) (v := p2) (sp_thr (v := 0) h)
    have eop := (h.2.2.2 n hn).1.op
    by_cases q0 : p2 = 0
    · rw [if_pos q0, if_pos q0]
      exact ⟨h24, Or.inl ⟨rfl, rfl, eop⟩⟩
    · rw [if_neg q0, if_neg q0]
      have e6 : (tC x n 9 6 p2).2.2.1 n 0 6 = x.2.2.1 n 0 6 := by
        show va_up x.2.2.1 n _ n 0 6 = _
        rw [va_up_self]
        rfl
      have e13 : (sR y 0 0 0, (1 : Int32)).1.1 13 n = x.2.2.1 n 0 6 := (h.2.2.2 n hn).1.ph.symm
      rw [e6, e13]
      by_cases q7 : x.2.2.1 n 0 6 = 7
      · rw [if_pos q7, if_pos q7]
        have hok2 : okR T B (sR (sR y 0 0 0) 24 n p2) := okR_sR rfl (okR_sR rfl hok)
        have hl := sp_latch (p := 2) hn (by rw [vp_in_iff]; decide) h24 hok2
        have tk := t_latch (n := n) (p := 2) (y := sR (sR y 0 0 0) 24 n p2) hn hok2.1.1
        refine ⟨hl, Or.inl ⟨rfl, ?_, eop⟩⟩
        exact tk.2.1
      · rw [if_neg q7, if_neg q7]
        exact ⟨h24, Or.inl ⟨rfl, rfl, eop⟩⟩
  · rw [chAt_1 hr, isch_0 hr, if_pos rfl]
    exact ⟨sp_thr h, Or.inr (Or.inl ⟨rfl, rfl⟩)⟩
theorem s_mains {x : PS} {y : RS} {p : Int32} (h : SP x y) : SP (fX10_mains p x).1 (fX11_mains p y).1 ∧ (fX10_mains p x).2 = (fX11_mains p y).2 := by
  have h0 := sp_thr (v := 0) h
  refine ⟨⟨⟨h.1.tm, h.1.cg, rfl, h.1.cn, h.1.si, h.1.en, h.1.lg, h.1.ch, h.1.tb⟩, dr_s (Or.inl rfl) h0.2.1, fun d hd => h.2.2.1 d hd, fun m hm => ⟨(h.2.2.2 m hm).1, (h.2.2.2 m hm).2.1, (h.2.2.2 m hm).2.2.1, fun a b => (h.2.2.2 m hm).2.2.2 a b⟩⟩, h.1.mn⟩
theorem s_chain {x : PS} {y : RS} (h : SP x y) : fX10_chain x = (fX11_chain y).2 ∧ SP x (fX11_chain y).1 := ⟨h.1.ch, sp_thr h⟩
theorem lit {p : Int32} {n : Nat} (hn : n < 100) (q : p.toInt = (n : Int)) : p = nI n := i32_of (by rw [q, nI_toInt (by omega)])
theorem sound_eq {x : PS} {y : RS} (h : SP x y) : fX10_isSounding x = (if (((y.1 28 0) ||| (y.1 28 1)) ||| (y.1 28 2)) = 0 then 0 else (if (y.1 0 45) < (y.1 0 49) then 0 else 1)) := by
  have a0 := (h.2.2.2 0 (by decide)).1.al
  have a1 := (h.2.2.2 1 (by decide)).1.al
  have a2 := (h.2.2.2 2 (by decide)).1.al
  have et : x.1 0 3 = y.1 0 45 := h.1.tm
  unfold fX10_isSounding
  rw [a0, a1, a2, Int32.zero_or, et]
  have hs : (y.1 0 45 < x.1 0 7) ↔ (y.1 0 45 < y.1 0 49) := by
    rcases h.1.si with q | ⟨q1, q2⟩
    · have q' : x.1 0 7 = y.1 0 49 := q
      rw [q']
    · have q1' : (x.1 0 7).toInt ≤ (x.1 0 3).toInt := q1
      have q2' : (y.1 0 49).toInt ≤ (x.1 0 3).toInt := q2
      rw [et] at q1' q2'
      rw [Int32.lt_iff_toInt_lt, Int32.lt_iff_toInt_lt]
      omega
  by_cases c1 : y.1 28 0 ||| y.1 28 1 ||| y.1 28 2 = 0
  · rw [if_pos c1, if_pos c1]
  · rw [if_neg c1, if_neg c1]
    by_cases c2 : y.1 0 45 < x.1 0 7
    · rw [if_pos c2, if_pos (hs.mp c2)]
    · rw [if_neg c2, if_neg (fun q => c2 (hs.mpr q))]
theorem s_about {x : PS} {y : RS} {p : Int32} (h : SP x y) : FR (fX10_about p x) (fX11_about p y) := by
  by_cases hr : 0 ≤ p.toInt ∧ p.toInt ≤ 4
  · have hin : ¬ fX11_isIn p.toInt64 0 4 y = 0 := by rw [isin_i (l := 0) (h := 4) rfl rfl, if_pos hr]; exact one_ne
    have ok : ∀ v w : Int32, v = w → FR (0, x, v) (sR y 0 0 0, w) := fun v w e => ⟨sp_thr h, Or.inl ⟨rfl, rfl, e⟩⟩
    unfold fX10_about fX11_about
    rw [if_neg hin]
    rcases (show p.toInt = 0 ∨ p.toInt = 1 ∨ p.toInt = 2 ∨ p.toInt = 3 ∨ p.toInt = 4 by omega) with q | q | q | q | q
    · have e : p = 0 := i32_of q
      subst e
      exact ok _ _ h.1.tm
    · have e : p = 1 := i32_of q
      subst e
      exact ok _ _ h.1.cg
    · have e : p = 2 := i32_of q
      subst e
      exact ok _ _ h.1.cn
    · have e : p = 3 := i32_of q
      subst e
      have es := sound_eq h
      rw [if_neg (show ¬ (3 : Int32) = 0 by decide), if_neg (show ¬ (3 : Int32) = 1 by decide), if_neg (show ¬ (3 : Int32) = 2 by decide), if_pos (show (3 : Int32) = 3 from rfl), if_neg (show ¬ (3 : Int32) = 0 by decide), if_neg (show ¬ (3 : Int32) = 1 by decide), if_neg (show ¬ (3 : Int32) = 2 by decide), if_pos (show (3 : Int32) = 3 from rfl), es]
      by_cases c1 : y.1 28 0 ||| y.1 28 1 ||| y.1 28 2 = 0
      · rw [if_pos c1, if_pos c1, if_pos rfl]; exact ok _ _ rfl
      · rw [if_neg c1, if_neg c1]
        by_cases c2 : y.1 0 45 < y.1 0 49
        · rw [if_pos c2, if_pos c2, if_pos rfl]; exact ok _ _ rfl
        · rw [if_neg c2, if_neg c2, if_neg one_ne]; exact ok _ _ rfl
    · have e : p = 4 := i32_of q
      subst e
      exact ok _ _ h.1.en
  · have n0 : ∀ K : Int32, 0 ≤ K.toInt → K.toInt ≤ 4 → ¬ p = K := fun K h1 h2 q => hr (by rw [q]; exact ⟨h1, h2⟩)
    unfold fX10_about fX11_about
    rw [isin_i (l := 0) (h := 4) rfl rfl, if_neg hr, if_pos rfl]
    rw [if_neg (n0 0 (by decide) (by decide)), if_neg (n0 1 (by decide) (by decide)), if_neg (n0 2 (by decide) (by decide)), if_neg (n0 3 (by decide) (by decide)), if_neg (n0 4 (by decide) (by decide)), if_neg (n0 0 (by decide) (by decide)), if_neg (n0 1 (by decide) (by decide)), if_neg (n0 2 (by decide) (by decide)), if_neg (n0 3 (by decide) (by decide)), if_neg (n0 4 (by decide) (by decide)), xc_1']
    exact ⟨sp_thr h, Or.inr (Or.inl ⟨rfl, rfl⟩)⟩
theorem s_channel {x : PS} {y : RS} {p1 p2 : Int32} (h : SP x y) : FR (fX10_channel p1 p2 x) (fX11_channel p1 p2 y) := by
  have ok : ∀ v w : Int32, v = w → FR (0, x, v) (sR y 0 0 0, w) := fun v w e => ⟨sp_thr h, Or.inl ⟨rfl, rfl, e⟩⟩
  have no : FR (1, x, 0) (sR y 0 0 1, 0) := ⟨sp_thr h, Or.inr (Or.inl ⟨rfl, rfl⟩)⟩
  unfold fX10_channel fX11_channel
  rw [isin2]
  by_cases hr : 0 ≤ p1.toInt ∧ p1.toInt ≤ 2
  · rw [if_pos (chAt_0 hr), if_pos hr, if_neg one_ne, isin_i (l := 0) (h := 14) rfl rfl]
    obtain ⟨n, hn, e⟩ := ch3 hr
    subst e
    rw [tn hn]
    have c := (h.2.2.2 n hn).1
    by_cases h2 : 0 ≤ p2.toInt ∧ p2.toInt ≤ 14
    · rw [if_pos h2, if_neg one_ne]
      rcases (show p2.toInt = 0 ∨ p2.toInt = 1 ∨ p2.toInt = 2 ∨ p2.toInt = 3 ∨ p2.toInt = 4 ∨ p2.toInt = 5 ∨ p2.toInt = 6 ∨ p2.toInt = 7 ∨ p2.toInt = 8 ∨ p2.toInt = 9 ∨ p2.toInt = 10 ∨ p2.toInt = 11 ∨ p2.toInt = 12 ∨ p2.toInt = 13 ∨ p2.toInt = 14 by omega) with q | q | q | q | q | q | q | q | q | q | q | q | q | q | q
      · have e : p2 = 0 := i32_of q
        subst e
        rw [if_pos rfl, if_pos rfl]
        exact ok _ _ c.ph
      · have e : p2 = 1 := i32_of q
        subst e
        rw [if_neg (show ¬ (1 : Int32) = 0 by decide), if_pos rfl, if_neg (show ¬ (1 : Int32) = 0 by decide), if_pos rfl]
        exact ok _ _ c.al
      · have e : p2 = 2 := i32_of q
        subst e
        rw [if_neg (show ¬ (2 : Int32) = 0 by decide), if_neg (show ¬ (2 : Int32) = 1 by decide), if_pos rfl, if_neg (show ¬ (2 : Int32) = 0 by decide), if_neg (show ¬ (2 : Int32) = 1 by decide), if_pos rfl]
        rcases c.pd with ⟨_, q2, q3⟩ | ⟨q1, q2⟩
        · rw [if_neg (show ¬ (0 : Int32) ≤ y.1 15 n by rw [q2]; decide)]
          exact ok _ _ q3
        · rw [if_pos (show (0 : Int32) ≤ y.1 15 n by rw [q2]; rw [vp_in_iff] at q1; rw [Int32.le_iff_toInt_le, show (0 : Int32).toInt = 0 from rfl]; omega)]
          exact ok _ _ c.ra
      · have e : p2 = 3 := i32_of q
        subst e
        rw [if_neg (show ¬ (3 : Int32) = 0 by decide), if_neg (show ¬ (3 : Int32) = 1 by decide), if_neg (show ¬ (3 : Int32) = 2 by decide), if_pos rfl, if_neg (show ¬ (3 : Int32) = 0 by decide), if_neg (show ¬ (3 : Int32) = 1 by decide), if_neg (show ¬ (3 : Int32) = 2 by decide), if_pos rfl]
        exact ok _ _ c.le
      · have e : p2 = 4 := i32_of q
        subst e
        rw [if_neg (show ¬ (4 : Int32) = 0 by decide), if_neg (show ¬ (4 : Int32) = 1 by decide), if_neg (show ¬ (4 : Int32) = 2 by decide), if_neg (show ¬ (4 : Int32) = 3 by decide), if_pos rfl, if_neg (show ¬ (4 : Int32) = 0 by decide), if_neg (show ¬ (4 : Int32) = 1 by decide), if_neg (show ¬ (4 : Int32) = 2 by decide), if_neg (show ¬ (4 : Int32) = 3 by decide), if_pos rfl]
        exact ok _ _ c.ma
      · have e : p2 = 5 := i32_of q
        subst e
        rw [if_neg (show ¬ (5 : Int32) = 0 by decide), if_neg (show ¬ (5 : Int32) = 1 by decide), if_neg (show ¬ (5 : Int32) = 2 by decide), if_neg (show ¬ (5 : Int32) = 3 by decide), if_neg (show ¬ (5 : Int32) = 4 by decide), if_pos rfl, if_neg (show ¬ (5 : Int32) = 0 by decide), if_neg (show ¬ (5 : Int32) = 1 by decide), if_neg (show ¬ (5 : Int32) = 2 by decide), if_neg (show ¬ (5 : Int32) = 3 by decide), if_neg (show ¬ (5 : Int32) = 4 by decide), if_pos rfl]
        exact ok _ _ c.de
      · have e : p2 = 6 := i32_of q
        subst e
        rw [if_neg (show ¬ (6 : Int32) = 0 by decide), if_neg (show ¬ (6 : Int32) = 1 by decide), if_neg (show ¬ (6 : Int32) = 2 by decide), if_neg (show ¬ (6 : Int32) = 3 by decide), if_neg (show ¬ (6 : Int32) = 4 by decide), if_neg (show ¬ (6 : Int32) = 5 by decide), if_pos rfl, if_neg (show ¬ (6 : Int32) = 0 by decide), if_neg (show ¬ (6 : Int32) = 1 by decide), if_neg (show ¬ (6 : Int32) = 2 by decide), if_neg (show ¬ (6 : Int32) = 3 by decide), if_neg (show ¬ (6 : Int32) = 4 by decide), if_neg (show ¬ (6 : Int32) = 5 by decide), if_pos rfl]
        exact ok _ _ (i32_of (by have := c.bo.1; omega))
      · have e : p2 = 7 := i32_of q
        subst e
        rw [if_neg (show ¬ (7 : Int32) = 0 by decide), if_neg (show ¬ (7 : Int32) = 1 by decide), if_neg (show ¬ (7 : Int32) = 2 by decide), if_neg (show ¬ (7 : Int32) = 3 by decide), if_neg (show ¬ (7 : Int32) = 4 by decide), if_neg (show ¬ (7 : Int32) = 5 by decide), if_neg (show ¬ (7 : Int32) = 6 by decide), if_pos rfl, if_neg (show ¬ (7 : Int32) = 0 by decide), if_neg (show ¬ (7 : Int32) = 1 by decide), if_neg (show ¬ (7 : Int32) = 2 by decide), if_neg (show ¬ (7 : Int32) = 3 by decide), if_neg (show ¬ (7 : Int32) = 4 by decide), if_neg (show ¬ (7 : Int32) = 5 by decide), if_neg (show ¬ (7 : Int32) = 6 by decide), if_pos rfl]
        exact ok _ _ c.su
      · have e : p2 = 8 := i32_of q
        subst e
        rw [if_neg (show ¬ (8 : Int32) = 0 by decide), if_neg (show ¬ (8 : Int32) = 1 by decide), if_neg (show ¬ (8 : Int32) = 2 by decide), if_neg (show ¬ (8 : Int32) = 3 by decide), if_neg (show ¬ (8 : Int32) = 4 by decide), if_neg (show ¬ (8 : Int32) = 5 by decide), if_neg (show ¬ (8 : Int32) = 6 by decide), if_neg (show ¬ (8 : Int32) = 7 by decide), if_pos rfl, if_neg (show ¬ (8 : Int32) = 0 by decide), if_neg (show ¬ (8 : Int32) = 1 by decide), if_neg (show ¬ (8 : Int32) = 2 by decide), if_neg (show ¬ (8 : Int32) = 3 by decide), if_neg (show ¬ (8 : Int32) = 4 by decide), if_neg (show ¬ (8 : Int32) = 5 by decide), if_neg (show ¬ (8 : Int32) = 6 by decide), if_neg (show ¬ (8 : Int32) = 7 by decide), if_pos rfl]
        exact ok _ _ c.pr
      · have e : p2 = 9 := i32_of q
        subst e
        rw [if_neg (show ¬ (9 : Int32) = 0 by decide), if_neg (show ¬ (9 : Int32) = 1 by decide), if_neg (show ¬ (9 : Int32) = 2 by decide), if_neg (show ¬ (9 : Int32) = 3 by decide), if_neg (show ¬ (9 : Int32) = 4 by decide), if_neg (show ¬ (9 : Int32) = 5 by decide), if_neg (show ¬ (9 : Int32) = 6 by decide), if_neg (show ¬ (9 : Int32) = 7 by decide), if_neg (show ¬ (9 : Int32) = 8 by decide), if_pos rfl, if_neg (show ¬ (9 : Int32) = 0 by decide), if_neg (show ¬ (9 : Int32) = 1 by decide), if_neg (show ¬ (9 : Int32) = 2 by decide), if_neg (show ¬ (9 : Int32) = 3 by decide), if_neg (show ¬ (9 : Int32) = 4 by decide), if_neg (show ¬ (9 : Int32) = 5 by decide), if_neg (show ¬ (9 : Int32) = 6 by decide), if_neg (show ¬ (9 : Int32) = 7 by decide), if_neg (show ¬ (9 : Int32) = 8 by decide), if_pos rfl]
        exact ok _ _ c.bu
      · have e : p2 = 10 := i32_of q
        subst e
        rw [if_neg (show ¬ (10 : Int32) = 0 by decide), if_neg (show ¬ (10 : Int32) = 1 by decide), if_neg (show ¬ (10 : Int32) = 2 by decide), if_neg (show ¬ (10 : Int32) = 3 by decide), if_neg (show ¬ (10 : Int32) = 4 by decide), if_neg (show ¬ (10 : Int32) = 5 by decide), if_neg (show ¬ (10 : Int32) = 6 by decide), if_neg (show ¬ (10 : Int32) = 7 by decide), if_neg (show ¬ (10 : Int32) = 8 by decide), if_neg (show ¬ (10 : Int32) = 9 by decide), if_pos rfl, if_neg (show ¬ (10 : Int32) = 0 by decide), if_neg (show ¬ (10 : Int32) = 1 by decide), if_neg (show ¬ (10 : Int32) = 2 by decide), if_neg (show ¬ (10 : Int32) = 3 by decide), if_neg (show ¬ (10 : Int32) = 4 by decide), if_neg (show ¬ (10 : Int32) = 5 by decide), if_neg (show ¬ (10 : Int32) = 6 by decide), if_neg (show ¬ (10 : Int32) = 7 by decide), if_neg (show ¬ (10 : Int32) = 8 by decide), if_neg (show ¬ (10 : Int32) = 9 by decide), if_pos rfl]
        exact ok _ _ (ring_eq c.r2)
      · have e : p2 = 11 := i32_of q
        subst e
        rw [if_neg (show ¬ (11 : Int32) = 0 by decide), if_neg (show ¬ (11 : Int32) = 1 by decide), if_neg (show ¬ (11 : Int32) = 2 by decide), if_neg (show ¬ (11 : Int32) = 3 by decide), if_neg (show ¬ (11 : Int32) = 4 by decide), if_neg (show ¬ (11 : Int32) = 5 by decide), if_neg (show ¬ (11 : Int32) = 6 by decide), if_neg (show ¬ (11 : Int32) = 7 by decide), if_neg (show ¬ (11 : Int32) = 8 by decide), if_neg (show ¬ (11 : Int32) = 9 by decide), if_neg (show ¬ (11 : Int32) = 10 by decide), if_pos rfl, if_neg (show ¬ (11 : Int32) = 0 by decide), if_neg (show ¬ (11 : Int32) = 1 by decide), if_neg (show ¬ (11 : Int32) = 2 by decide), if_neg (show ¬ (11 : Int32) = 3 by decide), if_neg (show ¬ (11 : Int32) = 4 by decide), if_neg (show ¬ (11 : Int32) = 5 by decide), if_neg (show ¬ (11 : Int32) = 6 by decide), if_neg (show ¬ (11 : Int32) = 7 by decide), if_neg (show ¬ (11 : Int32) = 8 by decide), if_neg (show ¬ (11 : Int32) = 9 by decide), if_neg (show ¬ (11 : Int32) = 10 by decide), if_pos rfl]
        rw [← c.wa]
        by_cases q3 : x.2.2.1 n 0 9 = 0
        · rw [if_pos q3, if_pos q3]; exact ok _ _ rfl
        · rw [if_neg q3, if_neg q3]; exact ok _ _ rfl
      · have e : p2 = 12 := i32_of q
        subst e
        rw [if_neg (show ¬ (12 : Int32) = 0 by decide), if_neg (show ¬ (12 : Int32) = 1 by decide), if_neg (show ¬ (12 : Int32) = 2 by decide), if_neg (show ¬ (12 : Int32) = 3 by decide), if_neg (show ¬ (12 : Int32) = 4 by decide), if_neg (show ¬ (12 : Int32) = 5 by decide), if_neg (show ¬ (12 : Int32) = 6 by decide), if_neg (show ¬ (12 : Int32) = 7 by decide), if_neg (show ¬ (12 : Int32) = 8 by decide), if_neg (show ¬ (12 : Int32) = 9 by decide), if_neg (show ¬ (12 : Int32) = 10 by decide), if_neg (show ¬ (12 : Int32) = 11 by decide), if_pos rfl, if_neg (show ¬ (12 : Int32) = 0 by decide), if_neg (show ¬ (12 : Int32) = 1 by decide), if_neg (show ¬ (12 : Int32) = 2 by decide), if_neg (show ¬ (12 : Int32) = 3 by decide), if_neg (show ¬ (12 : Int32) = 4 by decide), if_neg (show ¬ (12 : Int32) = 5 by decide), if_neg (show ¬ (12 : Int32) = 6 by decide), if_neg (show ¬ (12 : Int32) = 7 by decide), if_neg (show ¬ (12 : Int32) = 8 by decide), if_neg (show ¬ (12 : Int32) = 9 by decide), if_neg (show ¬ (12 : Int32) = 10 by decide), if_neg (show ¬ (12 : Int32) = 11 by decide), if_pos rfl]
        exact ok _ _ (ring_eq c.r1)
      · have e : p2 = 13 := i32_of q
        subst e
        rw [if_neg (show ¬ (13 : Int32) = 0 by decide), if_neg (show ¬ (13 : Int32) = 1 by decide), if_neg (show ¬ (13 : Int32) = 2 by decide), if_neg (show ¬ (13 : Int32) = 3 by decide), if_neg (show ¬ (13 : Int32) = 4 by decide), if_neg (show ¬ (13 : Int32) = 5 by decide), if_neg (show ¬ (13 : Int32) = 6 by decide), if_neg (show ¬ (13 : Int32) = 7 by decide), if_neg (show ¬ (13 : Int32) = 8 by decide), if_neg (show ¬ (13 : Int32) = 9 by decide), if_neg (show ¬ (13 : Int32) = 10 by decide), if_neg (show ¬ (13 : Int32) = 11 by decide), if_neg (show ¬ (13 : Int32) = 12 by decide), if_pos rfl, if_neg (show ¬ (13 : Int32) = 0 by decide), if_neg (show ¬ (13 : Int32) = 1 by decide), if_neg (show ¬ (13 : Int32) = 2 by decide), if_neg (show ¬ (13 : Int32) = 3 by decide), if_neg (show ¬ (13 : Int32) = 4 by decide), if_neg (show ¬ (13 : Int32) = 5 by decide), if_neg (show ¬ (13 : Int32) = 6 by decide), if_neg (show ¬ (13 : Int32) = 7 by decide), if_neg (show ¬ (13 : Int32) = 8 by decide), if_neg (show ¬ (13 : Int32) = 9 by decide), if_neg (show ¬ (13 : Int32) = 10 by decide), if_neg (show ¬ (13 : Int32) = 11 by decide), if_neg (show ¬ (13 : Int32) = 12 by decide), if_pos rfl]
        refine ok _ _ ?_
        rcases c.pd with ⟨q1, q2, _⟩ | ⟨q1, q2⟩
        · rw [q1, q2, nI_clamp (by omega)]
          unfold dNum
          rw [if_neg (by omega)]
        · rw [q2]
          unfold dNum
          rw [if_pos (vi_lt q1)]
          obtain ⟨d, hd, ed⟩ := vp_in_of q1 (by decide)
          rw [ed, nI_clamp (by omega)]
      · have e : p2 = 14 := i32_of q
        subst e
        rw [if_neg (show ¬ (14 : Int32) = 0 by decide), if_neg (show ¬ (14 : Int32) = 1 by decide), if_neg (show ¬ (14 : Int32) = 2 by decide), if_neg (show ¬ (14 : Int32) = 3 by decide), if_neg (show ¬ (14 : Int32) = 4 by decide), if_neg (show ¬ (14 : Int32) = 5 by decide), if_neg (show ¬ (14 : Int32) = 6 by decide), if_neg (show ¬ (14 : Int32) = 7 by decide), if_neg (show ¬ (14 : Int32) = 8 by decide), if_neg (show ¬ (14 : Int32) = 9 by decide), if_neg (show ¬ (14 : Int32) = 10 by decide), if_neg (show ¬ (14 : Int32) = 11 by decide), if_neg (show ¬ (14 : Int32) = 12 by decide), if_neg (show ¬ (14 : Int32) = 13 by decide), if_pos rfl, if_neg (show ¬ (14 : Int32) = 0 by decide), if_neg (show ¬ (14 : Int32) = 1 by decide), if_neg (show ¬ (14 : Int32) = 2 by decide), if_neg (show ¬ (14 : Int32) = 3 by decide), if_neg (show ¬ (14 : Int32) = 4 by decide), if_neg (show ¬ (14 : Int32) = 5 by decide), if_neg (show ¬ (14 : Int32) = 6 by decide), if_neg (show ¬ (14 : Int32) = 7 by decide), if_neg (show ¬ (14 : Int32) = 8 by decide), if_neg (show ¬ (14 : Int32) = 9 by decide), if_neg (show ¬ (14 : Int32) = 10 by decide), if_neg (show ¬ (14 : Int32) = 11 by decide), if_neg (show ¬ (14 : Int32) = 12 by decide), if_neg (show ¬ (14 : Int32) = 13 by decide)]
        exact ok _ _ c.st
    · have n0 : ∀ K : Int32, 0 ≤ K.toInt → K.toInt ≤ 14 → ¬ p2 = K := fun K a b q => h2 (by rw [q]; exact ⟨a, b⟩)
      rw [if_neg h2, if_pos rfl, if_neg (n0 0 (by decide) (by decide)), if_neg (n0 1 (by decide) (by decide)), if_neg (n0 2 (by decide) (by decide)), if_neg (n0 3 (by decide) (by decide)), if_neg (n0 4 (by decide) (by decide)), if_neg (n0 5 (by decide) (by decide)), if_neg (n0 6 (by decide) (by decide)), if_neg (n0 7 (by decide) (by decide)), if_neg (n0 8 (by decide) (by decide)), if_neg (n0 9 (by decide) (by decide)), if_neg (n0 10 (by decide) (by decide)), if_neg (n0 11 (by decide) (by decide)), if_neg (n0 12 (by decide) (by decide)), if_neg (n0 13 (by decide) (by decide)), if_neg (n0 14 (by decide) (by decide)), xc_1']
      exact no
  · rw [chAt_1 hr, if_neg hr, if_pos rfl]; exact no
