/-! the face: entry, rate, log -/
theorem un_0 {P : Int32} {x : FS} : ∀ (k : Nat) (u : Int32), fX9_inUnits_L10 P k x 0 u = 0 := by
  intro k
  induction k with
  | zero => intro u; rfl
  | succ k ih =>
    intro u
    unfold fX9_inUnits_L10
    by_cases q : P ≤ u
    · rw [if_pos q]
    · rw [if_neg q, show (0 : Int32) * 10 = 0 from by decide]; exact ih _
theorem clear_of {b n : Nat} {c : Nat → Nat → Int32} {y : RS} {tm : Int32} (h : CH b n c y tm) (h0 : c 2 1 = 0) : c 2 0 = 0 ∧ c 2 3 = 0 := by
  obtain ⟨t1, t2, t3, t4, t5⟩ := h.ty
  rw [h0] at t4
  have t6 : (c 2 0).toInt < 1 := t4
  refine ⟨i32_of (by rw [show (0 : Int32).toInt = 0 from rfl]; omega), ?_⟩
  rcases t5 with q | q
  · exact q.1
  · have q6 := q.2.2.2.2.2
    rw [h0, show (0 : Int32).toInt = 0 from rfl] at q6
    have := q.2.1
    have := q.2.2.2.1
    omega
theorem s_entry_f {x : PS} {y : RS} {p : Int32} (h : SP x y) (hc : vp_in (y.1 0 48) 3) : FR (fX10_entry p x) (fX11_entry p y) := by
  have ok : ∀ v w : Int32, v = w → FR (0, x, v) (sR y 0 0 0, w) := fun v w e => ⟨sp_thr h, Or.inl ⟨rfl, rfl, e⟩⟩
  obtain ⟨n, hn, en⟩ := vp_in_of hc (by decide)
  have ec : x.1 0 6 = nI n := h.1.cn.trans en
  have c := (h.2.2.2 n hn).1
  have hid := (h.2.2.2 n hn).2.2.2
  have e13 : fX11_isEntry (nI n) (sR y 0 0 0) = fX1_hasEntry (foc x n) := (ent_eq (x := foc x n) (y := sR y 0 0 0) hn c).symm
  have hcl : fX1_hasEntry (foc x n) = 0 → x.2.2.1 n 2 1 = 0 := by
    intro e0
    refine c.tc (fun q => ?_)
    unfold fX1_hasEntry at e0
    have q' : 1 ≤ ((foc x n).2.1 0 6).toInt ∧ ((foc x n).2.1 0 6).toInt ≤ 4 := q
    rw [if_neg (by rw [Int32.lt_iff_toInt_lt, show (1 : Int32).toInt = 1 from rfl]; omega), if_neg (by rw [Int32.lt_iff_toInt_lt, show (5 : Int32).toInt = 5 from rfl]; omega)] at e0
    exact absurd e0 one_ne
  unfold fX10_entry fX11_entry
  rw [isin2, ec, en, tn hn, e13]
  by_cases hr : 0 ≤ p.toInt ∧ p.toInt ≤ 2
  · rw [if_pos hr, if_neg one_ne]
    rcases (show p.toInt = 0 ∨ p.toInt = 1 ∨ p.toInt = 2 by omega) with q | q | q
    · have e : p = 0 := i32_of q
      subst e
      rw [if_pos (show (0 : Int32) = 0 from rfl), if_pos (show (0 : Int32) = 0 from rfl)]
      have z : x.2.2.1 n 2 1 = 0 → fX9_inUnits (fX1_places x.2.1 (foc x n)) (foc x n) = 0 := by
        intro z1
        have z2 : (foc x n).2.1 2 0 = 0 := (clear_of c z1).1
        unfold fX9_inUnits
        rw [z2]; exact un_0 _ _
      by_cases e0 : fX1_hasEntry (foc x n) = 0
      · rw [if_pos e0, z (hcl e0)]; exact ok _ _ rfl
      · rw [if_neg e0]
        have t2 : x.2.2.1 n 2 1 = y.1 42 n := c.ty.2.1
        by_cases d0 : y.1 42 n = 0
        · rw [if_pos d0, z (t2.trans d0)]; exact ok _ _ rfl
        · rw [if_neg d0]
          exact ok _ _ (number_eq (x := foc x n) (y := sR y 0 0 0) hn (dr_s (Or.inl rfl) h.2.1) c)
    · have e : p = 1 := i32_of q
      subst e
      rw [if_neg (show ¬ (1 : Int32) = 0 by decide), if_pos (show (1 : Int32) = 1 from rfl), if_neg (show ¬ (1 : Int32) = 0 by decide), if_pos (show (1 : Int32) = 1 from rfl)]
      obtain ⟨t1, t2, t3, t4, t5⟩ := c.ty
      by_cases e0 : fX1_hasEntry (foc x n) = 0
      · rw [if_pos e0]
        have z := hcl e0
        have z3 : (foc x n).2.1 2 3 = 0 := (clear_of c z).2
        unfold fX9_length
        rw [if_pos z3]; exact ok _ _ z
      · rw [if_neg e0]
        unfold fX9_length fX11_entry_J93
        rcases t5 with ⟨q1, q2, _⟩ | ⟨q1, q2, _⟩
        · rw [if_pos (show (foc x n).2.1 2 3 = 0 from q1), if_neg (show ¬ (0 : Int32) ≤ y.1 43 n by rw [q2]; decide)]
          refine ok _ _ ?_
          rw [Int32.add_zero]; exact t2
        · rw [if_neg (show ¬ (foc x n).2.1 2 3 = 0 by show ¬ x.2.2.1 n 2 3 = 0; rw [q1]; decide), if_pos (show (0 : Int32) ≤ y.1 43 n by rw [Int32.le_iff_toInt_le, show (0 : Int32).toInt = 0 from rfl]; omega)]
          refine ok _ _ ?_
          rw [← t2]
    · have e : p = 2 := i32_of q
      subst e
      rw [if_neg (show ¬ (2 : Int32) = 0 by decide), if_neg (show ¬ (2 : Int32) = 1 by decide), if_pos (show (2 : Int32) = 2 from rfl), if_neg (show ¬ (2 : Int32) = 0 by decide), if_neg (show ¬ (2 : Int32) = 1 by decide)]
      by_cases e0 : fX1_hasEntry (foc x n) = 0
      · rw [if_pos e0, if_pos e0]; exact ok _ _ rfl
      · rw [if_neg e0, if_neg e0]
        refine ok _ _ ?_
        have hph : 1 ≤ (x.2.2.1 n 0 6).toInt ∧ (x.2.2.1 n 0 6).toInt ≤ 5 := by
          have e1 : ¬ fX1_hasEntry (foc x n) = 0 := e0
          unfold fX1_hasEntry at e1
          by_cases a : (foc x n).2.1 0 6 < 1
          · rw [if_pos a] at e1; exact absurd rfl e1
          · rw [if_neg a] at e1
            by_cases a2 : (5 : Int32) < (foc x n).2.1 0 6
            · rw [if_pos a2] at e1; exact absurd rfl e1
            · rw [Int32.lt_iff_toInt_lt, show (1 : Int32).toInt = 1 from rfl] at a
              rw [Int32.lt_iff_toInt_lt, show (5 : Int32).toInt = 5 from rfl] at a2
              have a' : ¬ (x.2.2.1 n 0 6).toInt < 1 := a
              have a2' : ¬ 5 < (x.2.2.1 n 0 6).toInt := a2
              omega
        obtain ⟨d1, d2, d3⟩ := hid hph.1 hph.2
        have et : x.1 0 3 = y.1 0 45 := h.1.tm
        have tb : 0 ≤ (x.1 0 3).toInt ∧ (x.1 0 3).toInt ≤ 400000 := h.1.tb
        refine i32_of ?_
        rw [← et, i32_sub (by omega) (by omega)]
        omega
  · have n0 : ∀ K : Int32, 0 ≤ K.toInt → K.toInt ≤ 2 → ¬ p = K := fun K h1 h2 q => hr (by rw [q]; exact ⟨h1, h2⟩)
    rw [if_neg hr, if_pos rfl, if_neg (n0 0 (by decide) (by decide)), if_neg (n0 1 (by decide) (by decide)), if_neg (n0 2 (by decide) (by decide)), xc_1']
    exact ⟨sp_thr h, Or.inr (Or.inl ⟨rfl, rfl⟩)⟩
theorem td_c {x : PS} {y : RS} {d : Int32} (h : SP x y) : (fX10_toldDrug d x).1 = (if fX11_isDrug d y = 0 then 1 else 0) ∧ (fX10_toldDrug d x).2.1 = x := by
  unfold fX10_toldDrug
  rw [told_eq (x := foc x 0) h.2.1, xc_1']
  by_cases q : fX11_isDrug d y = 0
  · rw [if_pos q, if_pos q]; exact ⟨rfl, rfl⟩
  · rw [if_neg q, if_neg q]; exact ⟨rfl, rfl⟩
theorem whole_eq {k s a u : Int32} {Z : RS} : fX11_whole (rof k s a u) Z = (if k = 0 then a else (if rof k s a u < (2147483647 : Int64) then rof k s a u else (2147483647 : Int64)).toInt32) := by
  unfold fX11_whole
  have hle : (lg_cmp (rof k s a u) 2147483647 ≤ 0) ↔ (rof k s a u).toInt ≤ 2147483647 := by rw [lg_cmp_le, Int64.le_iff_toInt_le]; rfl
  by_cases q : k = 0
  · have e1 : rof k s a u = a.toInt64 := by unfold rof; rw [if_pos q]
    have e2 : (rof k s a u).toInt = a.toInt := by rw [e1, Int32.toInt_toInt64]
    have := a.toInt_lt
    have := a.le_toInt
    rw [if_pos q, if_pos (hle.mpr (by omega))]
    refine i32_of ?_
    rw [l32 (by omega) (by omega), e2]
  · rw [if_neg q]
    by_cases c1 : rof k s a u < (2147483647 : Int64)
    · rw [if_pos c1]
      rw [Int64.lt_iff_toInt_lt, show (2147483647 : Int64).toInt = 2147483647 from rfl] at c1
      rw [if_pos (hle.mpr (by omega))]
    · rw [if_neg c1]
      rw [Int64.lt_iff_toInt_lt, show (2147483647 : Int64).toInt = 2147483647 from rfl] at c1
      by_cases c2 : (rof k s a u).toInt ≤ 2147483647
      · rw [if_pos (hle.mpr c2)]
        have e : rof k s a u = 2147483647 := Int64.toInt_inj.mp (by rw [show (2147483647 : Int64).toInt = 2147483647 from rfl]; omega)
        rw [e]
      · rw [if_neg (fun q => c2 (hle.mp q))]
        decide
theorem s_rate {x : PS} {y : RS} {p1 p2 p3 : Int32} (h : SP x y) (hs : okS y) : FR (fX10_rate p1 p2 p3 x) (fX11_rate p1 p2 p3 y) := by
  obtain ⟨t1, t2⟩ := td_c (d := p1) h
  have two : FR (2, x, 0) (sR y 0 0 2, 0) := ⟨sp_thr h, Or.inr (Or.inr (Or.inl ⟨rfl, rfl⟩))⟩
  unfold fX10_rate fX11_rate
  rw [t1, t2]
  by_cases q0 : fX11_isDrug p1 y = 0
  · rw [if_pos q0, if_pos q0, if_neg (by decide)]
    exact ⟨sp_thr h, Or.inr (Or.inl ⟨rfl, rfl⟩)⟩
  · rw [if_neg q0, if_neg q0, if_pos rfl, isin_i (l := 1) (h := 99999) rfl rfl, isin_i (l := 5) (h := 3000) rfl rfl, xc_2']
    have hd := isdr_in q0
    by_cases a1 : p2 < 1
    · have b1 := a1
      rw [Int32.lt_iff_toInt_lt, show (1 : Int32).toInt = 1 from rfl] at b1
      rw [if_pos a1, if_neg (show ¬ (1 ≤ p2.toInt ∧ p2.toInt ≤ 99999) from fun q => by omega), if_pos rfl]; exact two
    · have b1 := a1
      rw [Int32.lt_iff_toInt_lt, show (1 : Int32).toInt = 1 from rfl] at b1
      rw [if_neg a1]
      by_cases a2 : (99999 : Int32) < p2
      · have b2 := a2
        rw [Int32.lt_iff_toInt_lt, show (99999 : Int32).toInt = 99999 from rfl] at b2
        rw [if_pos a2, if_neg (show ¬ (1 ≤ p2.toInt ∧ p2.toInt ≤ 99999) from fun q => by omega), if_pos rfl]; exact two
      · have b2 := a2
        rw [Int32.lt_iff_toInt_lt, show (99999 : Int32).toInt = 99999 from rfl] at b2
        rw [if_neg a2, if_pos (show 1 ≤ p2.toInt ∧ p2.toInt ≤ 99999 by omega), if_neg one_ne]
        by_cases a3 : p3 < 5
        · have b3 := a3
          rw [Int32.lt_iff_toInt_lt, show (5 : Int32).toInt = 5 from rfl] at b3
          rw [if_pos a3, if_neg (show ¬ (5 ≤ p3.toInt ∧ p3.toInt ≤ 3000) from fun q => by omega), if_pos rfl]; exact two
        · have b3 := a3
          rw [Int32.lt_iff_toInt_lt, show (5 : Int32).toInt = 5 from rfl] at b3
          rw [if_neg a3]
          by_cases a4 : p3 ≤ 3000
          · have b4 := a4
            rw [Int32.le_iff_toInt_le, show (3000 : Int32).toInt = 3000 from rfl] at b4
            rw [if_pos a4, if_pos (show 5 ≤ p3.toInt ∧ p3.toInt ≤ 3000 by omega), if_neg one_ne]
            refine ⟨sp_thr h, Or.inl ⟨rfl, rfl, ?_⟩⟩
            have eR : fX11_rateOf p1 p2 p3 (sR y 0 0 0) = rof (y.1 2 p1.toNatClampNeg) (y.1 3 p1.toNatClampNeg) p2 p3 := rfl
            show fX2_rateFor x.2.1 p1 p2 p3 (foc x 0) = fX11_whole (fX11_rateOf p1 p2 p3 (sR y 0 0 0)) (sR y 0 0 0)
            rw [eR, whole_eq, rate_of (dr_row h.2.1 hd (k := 2) (by decide) (by decide)) (dr_row3 h.2.1 hd) (hs _ (vi_lt hd))]
          · have b4 := a4
            rw [Int32.le_iff_toInt_le, show (3000 : Int32).toInt = 3000 from rfl] at b4
            rw [if_neg a4, if_neg (show ¬ (5 ≤ p3.toInt ∧ p3.toInt ≤ 3000) from fun q => by omega), if_pos rfl]; exact two
theorem s_log {T B : Nat} {x : PS} {y : RS} {p1 p2 : Int32} (h : SP x y) (hok : okR T B y) : FR (fX10_log p1 p2 x) (fX11_log p1 p2 y) := by
  have no : FR (1, x, 0) (sR y 0 0 1, 0) := ⟨sp_thr h, Or.inr (Or.inl ⟨rfl, rfl⟩)⟩
  have he := hok.2.1.1
  have he2 := hok.2.1.2
  have ee : x.1 3 1 = y.1 0 50 := h.1.en
  have s64 : (y.1 0 50 - 64).toInt = (y.1 0 50).toInt - 64 := by rw [i32_sub (by rw [show (64 : Int32).toInt = 64 from rfl]; omega) (by rw [show (64 : Int32).toInt = 64 from rfl]; omega)]; rfl
  have s1 : (y.1 0 50 - 1).toInt = (y.1 0 50).toInt - 1 := by rw [i32_sub (by rw [show (1 : Int32).toInt = 1 from rfl]; omega) (by rw [show (1 : Int32).toInt = 1 from rfl]; omega)]; rfl
  have hm : (fX11_most 0 (y.1 0 50 - 64) y).toInt = (if (0 : Int) < (y.1 0 50).toInt - 64 then (y.1 0 50).toInt - 64 else 0) := by
    rw [most0]
    by_cases q : (0 : Int32) < y.1 0 50 - 64
    · have q2 := q
      rw [Int32.lt_iff_toInt_lt, s64, show (0 : Int32).toInt = 0 from rfl] at q2
      rw [if_pos q, if_pos q2, s64]
    · have q2 := q
      rw [Int32.lt_iff_toInt_lt, s64, show (0 : Int32).toInt = 0 from rfl] at q2
      rw [if_neg q, if_neg q2]; rfl
  have hk : (fX5_keeps p1 (foc x 0) = 0) ↔ (fX11_isIn p1.toInt64 (fX11_most 0 ((y.1 0 50) - 64) y).toInt64 (((y.1 0 50) - 1).toInt64) y = 0) := by
    rw [isin_v, Int32.toInt_toInt64, Int32.toInt_toInt64, Int32.toInt_toInt64, hm, s1]
    unfold fX5_keeps
    have e3 : (foc x 0).1 3 1 = y.1 0 50 := ee
    rw [e3]
    by_cases a1 : p1 < 0
    · have b1 := a1
      rw [Int32.lt_iff_toInt_lt, show (0 : Int32).toInt = 0 from rfl] at b1
      rw [if_pos a1, if_neg (fun q => by
        by_cases z : (0 : Int) < (y.1 0 50).toInt - 64
        · rw [if_pos z] at q; omega
        · rw [if_neg z] at q; omega)]
    · have b1 := a1
      rw [Int32.lt_iff_toInt_lt, show (0 : Int32).toInt = 0 from rfl] at b1
      rw [if_neg a1]
      by_cases a2 : y.1 0 50 ≤ p1
      · have b2 := a2
        rw [Int32.le_iff_toInt_le] at b2
        rw [if_pos a2, if_neg (fun q => by omega)]
      · have b2 := a2
        rw [Int32.le_iff_toInt_le] at b2
        rw [if_neg a2]
        by_cases a3 : p1 < y.1 0 50 - 64
        · have b3 := a3
          rw [Int32.lt_iff_toInt_lt, s64] at b3
          rw [if_pos a3, if_neg (fun q => by rw [if_pos (by omega)] at q; omega)]
        · have b3 := a3
          rw [Int32.lt_iff_toInt_lt, s64] at b3
          rw [if_neg a3, if_pos (show (if (0 : Int) < (y.1 0 50).toInt - 64 then (y.1 0 50).toInt - 64 else 0) ≤ p1.toInt ∧ p1.toInt ≤ (y.1 0 50).toInt - 1 by
            by_cases z : (0 : Int) < (y.1 0 50).toInt - 64
            · rw [if_pos z]; omega
            · rw [if_neg z]; omega)]
  unfold fX10_log fX11_log
  rw [xc_1']
  by_cases k0 : fX5_keeps p1 (foc x 0) = 0
  · rw [if_pos k0, if_pos (hk.mp k0)]; exact no
  · rw [if_neg k0, if_neg (fun q => k0 (hk.mpr q)), isin_i (l := 0) (h := 3) rfl rfl]
    by_cases a1 : p2 < 0
    · have b1 := a1
      rw [Int32.lt_iff_toInt_lt, show (0 : Int32).toInt = 0 from rfl] at b1
      rw [if_pos a1, if_neg (show ¬ (0 ≤ p2.toInt ∧ p2.toInt ≤ 3) from fun q => by omega), if_pos rfl]; exact no
    · have b1 := a1
      rw [Int32.lt_iff_toInt_lt, show (0 : Int32).toInt = 0 from rfl] at b1
      rw [if_neg a1]
      by_cases a2 : p2 < 4
      · have b2 := a2
        rw [Int32.lt_iff_toInt_lt, show (4 : Int32).toInt = 4 from rfl] at b2
        rw [if_pos a2, if_pos (show 0 ≤ p2.toInt ∧ p2.toInt ≤ 3 by omega), if_neg one_ne]
        refine ⟨sp_thr h, Or.inl ⟨rfl, rfl, ?_⟩⟩
        have hp1 : ¬ p1 < 0 := by
          intro q
          refine k0 ?_
          unfold fX5_keeps
          rw [if_pos q]
        obtain ⟨m, hm1, em⟩ := nI_of hp1
        obtain ⟨w, hw, ew⟩ := vp_in_of (vp_in_iff.mpr ⟨by omega, by omega⟩ : vp_in p2 4) (by decide)
        unfold fX5_read
        show x.1 4 ((((p1 &&& 63) * 4) + p2).toNatClampNeg) = y.1 45 ((((4 : Int32) * (p1 - p1 / 64 * 64)) + p2).toNatClampNeg)
        rw [em, ew, wr_ix hm1 hw, note_ix hm1 hw]
        have el : x.1 4 = y.1 45 := h.1.lg
        rw [el]
      · have b2 := a2
        rw [Int32.lt_iff_toInt_lt, show (4 : Int32).toInt = 4 from rfl] at b2
        rw [if_neg a2, if_neg (show ¬ (0 ≤ p2.toInt ∧ p2.toInt ≤ 3) from fun q => by omega), if_pos rfl]; exact no
