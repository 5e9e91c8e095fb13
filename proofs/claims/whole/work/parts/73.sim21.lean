/-! the face: drug, more -/
theorem dnum_in {z : Int32} (h : vp_in z 16) : dNum z.toNatClampNeg = z := by
  obtain ⟨d, hd, ed⟩ := vp_in_of h (by decide)
  unfold dNum
  rw [if_pos (vi_lt h), ed, nI_clamp (by omega)]
theorem dnum_out {k : Nat} (h1 : 16 ≤ k) (h2 : k < 100) {p : Int32} (hp : vp_in p 16) : ¬ dNum (nI k).toNatClampNeg = p := by
  unfold dNum
  rw [nI_clamp (by omega), if_neg (by omega)]
  intro q
  rw [← q, vp_in_iff] at hp
  exact absurd hp.1 (by decide)
def usd (p : Int32) (n : Nat) (y : RS) : Prop := y.1 15 n = p ∨ (¬ y.1 13 n < 2 ∧ ¬ (5 : Int32) < y.1 13 n ∧ y.1 38 n = p)
theorem us_step {k n : Nat} {p v2 : Int32} {y : RS} (hn : n < 3) (u : Int32) (hu : (usd p n y ∧ u = 1) ∨ (¬ usd p n y ∧ u = 0)) : fX11_isUsed_L4 p (k + 1) y v2 (nI n) = fX11_isUsed_L4 p k y (v2 ||| u) (nI n + 1) := by
  have h3 : ¬ (3 : Int32) ≤ nI n := by rw [Int32.le_iff_toInt_le, nI_toInt (by omega), show (3 : Int32).toInt = 3 from rfl]; omega
  show (if (3 : Int32) ≤ nI n then v2 else _) = _
  rw [if_neg h3, tn hn]
  by_cases c1 : y.1 15 n = p
  · have e : u = 1 := by
      rcases hu with q | q
      · exact q.2
      · exact absurd (Or.inl c1) q.1
    rw [if_pos c1, e]
  · rw [if_neg c1]
    by_cases c2 : y.1 13 n < 2
    · have e : u = 0 := by
        rcases hu with q | q
        · rcases q.1 with r | r
          · exact absurd r c1
          · exact absurd c2 r.1
        · exact q.2
      rw [if_pos c2, e]
    · rw [if_neg c2]
      by_cases c3 : (5 : Int32) < y.1 13 n
      · have e : u = 0 := by
          rcases hu with q | q
          · rcases q.1 with r | r
            · exact absurd r c1
            · exact absurd c3 r.2.1
          · exact q.2
        rw [if_pos c3, e]
      · rw [if_neg c3]
        by_cases c4 : y.1 38 n = p
        · have e : u = 1 := by
            rcases hu with q | q
            · exact q.2
            · exact absurd (Or.inr ⟨c2, c3, c4⟩) q.1
          rw [if_pos c4, e]
        · have e : u = 0 := by
            rcases hu with q | q
            · rcases q.1 with r | r
              · exact absurd r c1
              · exact absurd r.2.2 c4
            · exact q.2
          rw [if_neg c4, e]
theorem us_ex (p : Int32) (n : Nat) (y : RS) : ∃ u : Int32, (usd p n y ∧ u = 1) ∨ (¬ usd p n y ∧ u = 0) := by
  by_cases q : usd p n y
  · exact ⟨1, Or.inl ⟨q, rfl⟩⟩
  · exact ⟨0, Or.inr ⟨q, rfl⟩⟩
theorem us_eq {p : Int32} {y : RS} : (fX11_isUsed p y = 0) ↔ (¬ usd p 0 y ∧ ¬ usd p 1 y ∧ ¬ usd p 2 y) := by
  obtain ⟨u0, h0⟩ := us_ex p 0 y
  obtain ⟨u1, h1⟩ := us_ex p 1 y
  obtain ⟨u2, h2⟩ := us_ex p 2 y
  have e : fX11_isUsed p y = (0 ||| u0) ||| u1 ||| u2 := by
    unfold fX11_isUsed
    rw [show mu32 0 3 = 3 from by decide]
    have a0 := us_step (k := 3) (v2 := 0) (by decide) u0 h0
    have a1 := us_step (k := 2) (v2 := 0 ||| u0) (by decide) u1 h1
    have a2 := us_step (k := 1) (v2 := 0 ||| u0 ||| u1) (by decide) u2 h2
    have a3 : fX11_isUsed_L4 p 1 y (0 ||| u0 ||| u1 ||| u2) (nI 2 + 1) = 0 ||| u0 ||| u1 ||| u2 := if_pos (by decide)
    rw [nI_0] at a0
    rw [show nI 1 = (0 : Int32) + 1 from by decide] at a1
    rw [show nI 2 = (0 : Int32) + 1 + 1 from by decide] at a2 a3
    rw [a0, a1, a2, a3]
  rw [e]
  rcases h0 with ⟨p0, q0⟩ | ⟨p0, q0⟩ <;> rcases h1 with ⟨p1, q1⟩ | ⟨p1, q1⟩ <;> rcases h2 with ⟨p2, q2⟩ | ⟨p2, q2⟩ <;> rw [q0, q1, q2]
  · exact ⟨fun q => absurd q (by decide), fun q => absurd p0 q.1⟩
  · exact ⟨fun q => absurd q (by decide), fun q => absurd p0 q.1⟩
  · exact ⟨fun q => absurd q (by decide), fun q => absurd p0 q.1⟩
  · exact ⟨fun q => absurd q (by decide), fun q => absurd p0 q.1⟩
  · exact ⟨fun q => absurd q (by decide), fun q => absurd p1 q.2.1⟩
  · exact ⟨fun q => absurd q (by decide), fun q => absurd p1 q.2.1⟩
  · exact ⟨fun q => absurd q (by decide), fun q => absurd p2 q.2.2⟩
  · exact ⟨fun _ => ⟨p0, p1, p2⟩, fun _ => by decide⟩
theorem us_n {n : Nat} {p : Int32} {x : PS} {y : RS} (hn : n < 3) (hp : vp_in p 16) (h : SP x y) : usd p n y ↔ (dNum (x.2.2.1 n 4 0).toNatClampNeg = p ∨ dNum (x.2.2.1 n 1 2).toNatClampNeg = p) := by
  have c := (h.2.2.2 n hn).1
  have hA : (y.1 15 n = p) ↔ (dNum (x.2.2.1 n 4 0).toNatClampNeg = p) := by
    rcases c.pd with ⟨q1, q2, _⟩ | ⟨q1, q2⟩
    · rw [q1, q2]
      refine ⟨fun q => ?_, fun q => absurd q (dnum_out (by omega) (by omega) hp)⟩
      rw [← q, vp_in_iff] at hp
      exact absurd hp.1 (by decide)
    · rw [dnum_in q1, q2]
  have hB : (¬ y.1 13 n < 2 ∧ ¬ (5 : Int32) < y.1 13 n ∧ y.1 38 n = p) ↔ (dNum (x.2.2.1 n 1 2).toNatClampNeg = p) := by
    rw [← c.ph, Int32.lt_iff_toInt_lt, Int32.lt_iff_toInt_lt, show (2 : Int32).toInt = 2 from rfl, show (5 : Int32).toInt = 5 from rfl]
    by_cases q : 2 ≤ (x.2.2.1 n 0 6).toInt ∧ (x.2.2.1 n 0 6).toInt ≤ 5
    · obtain ⟨z1, z2⟩ := c.ed.1 q
      rw [dnum_in z1, z2]
      exact ⟨fun r => r.2.2, fun r => ⟨by omega, by omega, r⟩⟩
    · rw [c.ed.2 q]
      exact ⟨fun r => absurd ⟨by omega, by omega⟩ q, fun r => absurd r (dnum_out (by omega) (by omega) hp)⟩
  unfold usd
  rw [hA, hB]
theorem ref_c {p : Int32} {x : PS} {y : RS} (hp : vp_in p 16) (h : SP x y) : (fX11_isUsed p y = 0 ∧ (fX10_refuseDrugInUse p x).1 = 0 ∧ ∀ n, n < 3 → ¬ dNum (x.2.2.1 n 1 2).toNatClampNeg = p) ∨ (¬ fX11_isUsed p y = 0 ∧ (fX10_refuseDrugInUse p x).1 = 3 ∧ (fX10_refuseDrugInUse p x).2.1 = x) := by
  have u0 := us_n (n := 0) (by decide) hp h
  have u1 := us_n (n := 1) (by decide) hp h
  have u2 := us_n (n := 2) (by decide) hp h
  unfold fX10_refuseDrugInUse
  rw [xc_3']
  by_cases a0 : dNum (x.2.2.1 0 4 0).toNatClampNeg = p
  · rw [if_pos a0]; exact Or.inr ⟨fun q => (us_eq.mp q).1 (u0.mpr (Or.inl a0)), rfl, rfl⟩
  · rw [if_neg a0]
    by_cases b0 : dNum (x.2.2.1 0 1 2).toNatClampNeg = p
    · rw [if_pos b0]; exact Or.inr ⟨fun q => (us_eq.mp q).1 (u0.mpr (Or.inr b0)), rfl, rfl⟩
    · rw [if_neg b0]
      by_cases a1 : dNum (x.2.2.1 1 4 0).toNatClampNeg = p
      · rw [if_pos a1]; exact Or.inr ⟨fun q => (us_eq.mp q).2.1 (u1.mpr (Or.inl a1)), rfl, rfl⟩
      · rw [if_neg a1]
        by_cases b1 : dNum (x.2.2.1 1 1 2).toNatClampNeg = p
        · rw [if_pos b1]; exact Or.inr ⟨fun q => (us_eq.mp q).2.1 (u1.mpr (Or.inr b1)), rfl, rfl⟩
        · rw [if_neg b1]
          by_cases a2 : dNum (x.2.2.1 2 4 0).toNatClampNeg = p
          · rw [if_pos a2]; exact Or.inr ⟨fun q => (us_eq.mp q).2.2 (u2.mpr (Or.inl a2)), rfl, rfl⟩
          · rw [if_neg a2]
            by_cases b2 : dNum (x.2.2.1 2 1 2).toNatClampNeg = p
            · rw [if_pos b2]; exact Or.inr ⟨fun q => (us_eq.mp q).2.2 (u2.mpr (Or.inr b2)), rfl, rfl⟩
            · rw [if_neg b2]
              refine Or.inl ⟨us_eq.mpr ⟨fun q => (u0.mp q).elim a0 b0, fun q => (u1.mp q).elim a1 b1, fun q => (u2.mp q).elim a2 b2⟩, rfl, fun n hn => ?_⟩
              rcases (show n = 0 ∨ n = 1 ∨ n = 2 by omega) with q | q | q <;> subst q
              · exact b0
              · exact b1
              · exact b2
theorem ed_ne {n : Nat} {p : Int32} {x : PS} {y : RS} (hn : n < 3) (hp : vp_in p 16) (h : SP x y) (hne : ¬ dNum (x.2.2.1 n 1 2).toNatClampNeg = p) (q1 : 4 ≤ (x.2.2.1 n 0 6).toInt) (q2 : (x.2.2.1 n 0 6).toInt ≤ 5) : (x.2.2.1 n 1 2).toNatClampNeg ≠ p.toNatClampNeg := by
  obtain ⟨z1, _⟩ := (h.2.2.2 n hn).1.ed.1 ⟨by omega, q2⟩
  rw [dnum_in z1] at hne
  intro e
  refine hne ?_
  obtain ⟨a, ha, ea⟩ := vp_in_of z1 (by decide)
  obtain ⟨b, hb, eb⟩ := vp_in_of hp (by decide)
  rw [ea, eb, nI_clamp (by omega), nI_clamp (by omega)] at e
  rw [ea, eb, e]
theorem dg_ch {m p : Nat} {c0 : Nat → Nat → Int32} {y : RS} {tm : Int32} {v2 v3 v4 v5 v6 v7 : Int32} (c : CH 0 m c0 y tm) (hz : 4 ≤ (c0 0 6).toInt → (c0 0 6).toInt ≤ 5 → (c0 1 2).toNatClampNeg ≠ p) : CH 0 m c0 (sR (sR (sR (sR (sR (sR (sR (sR (sR (sR (sR (sR (sR y 0 0 0) 1 p 1) 2 p v2) 3 p v3) 4 p v4) 5 p v5) 6 p v6) 7 p v7) 8 p 100000) 9 p 0) 10 p 1) 11 p 0) 12 p 1) tm := ⟨c.ph, c.al, c.st, c.wa, c.dn, c.cf, c.we, c.am, c.ra, c.le, c.ma, c.de, c.bo, c.fl, c.pr, c.ti, c.bu, c.ai, c.op, c.su, c.co, c.at_, c.pd, c.la, c.ty, c.tc, c.ed, c.ru, c.nu, (fun a b => (by have q := c.re a b; show 1 ≤ (rof (va_up (y.1 2) p v2 (c0 1 2).toNatClampNeg) (va_up (y.1 3) p v3 (c0 1 2).toNatClampNeg) (c0 1 5) (c0 1 4)).toInt ∧ (rof (va_up (y.1 2) p v2 (c0 1 2).toNatClampNeg) (va_up (y.1 3) p v3 (c0 1 2).toNatClampNeg) (c0 1 5) (c0 1 4)).toInt ≤ 9999; rw [va_up_ne _ _ (hz a b), va_up_ne _ _ (hz a b)]; exact q)), c.r1, c.r2⟩
theorem dg_sp {p : Nat} {x : PS} {y : RS} {v2 v3 v4 v5 v6 v7 : Int32} (h : SP x y) (hp : p < 16) (hz : ∀ n, n < 3 → 4 ≤ (x.2.2.1 n 0 6).toInt → (x.2.2.1 n 0 6).toInt ≤ 5 → (x.2.2.1 n 1 2).toNatClampNeg ≠ p) (hv : (0 ≤ (0 : Int32).toInt ∧ (0 : Int32).toInt ≤ 5000) ∧ (0 ≤ (1 : Int32).toInt ∧ (1 : Int32).toInt ≤ 30) ∧ (0 : Int32).toInt ≤ 3600 ∧ (1 : Int32).toInt ≤ 20) : SP (x.1, va_up x.2.1 p (va_up (va_up (va_up (va_up (va_up (va_up (va_up (va_up (va_up (va_up (va_up (va_up (x.2.1 p) 1 1) 2 v2) 3 v3) 4 v4) 5 v5) 6 v6) 7 v7) 8 100000) 9 0) 10 1) 11 0) 12 1), x.2.2.1, x.2.2.2) (sR (sR (sR (sR (sR (sR (sR (sR (sR (sR (sR (sR (sR y 0 0 0) 1 p 1) 2 p v2) 3 p v3) 4 p v4) 5 p v5) 6 p v6) 7 p v7) 8 p 100000) 9 p 0) 10 p 1) 11 p 0) 12 p 1) := by
  refine ⟨(G_r (by decide) (by decide) (G_r (by decide) (by decide) (G_r (by decide) (by decide) (G_r (by decide) (by decide) (G_r (by decide) (by decide) (G_r (by decide) (by decide) (G_r (by decide) (by decide) (G_r (by decide) (by decide) (G_r (by decide) (by decide) (G_r (by decide) (by decide) (G_r (by decide) (by decide) (G_r (by decide) (by decide) (sp_thr (v := 0) h).1)))))))))))), ⟨fun d hd k h1 h2 h3 => ?_, fun d hd => ?_⟩, fun d hd => ?_, fun m hm => ⟨dg_ch (h.2.2.2 m hm).1 (hz m hm), (h.2.2.2 m hm).2.1, (h.2.2.2 m hm).2.2.1, fun a b => (h.2.2.2 m hm).2.2.2 a b⟩⟩
  · show va_up x.2.1 p (va_up (va_up (va_up (va_up (va_up (va_up (va_up (va_up (va_up (va_up (va_up (va_up (x.2.1 p) 1 1) 2 v2) 3 v3) 4 v4) 5 v5) 6 v6) 7 v7) 8 100000) 9 0) 10 1) 11 0) 12 1) d k = _
    have old := h.2.1.1 d hd k h1 h2 h3
    by_cases e : d = p
    · subst e
      rw [va_up_self]
      rcases (show k = 1 ∨ k = 2 ∨ k = 3 ∨ k = 4 ∨ k = 5 ∨ k = 6 ∨ k = 7 ∨ k = 8 ∨ k = 9 ∨ k = 10 ∨ k = 11 ∨ k = 12 by omega) with q | q | q | q | q | q | q | q | q | q | q | q <;> subst q
      · show 1 = va_up (y.1 1) d 1 d
        rw [va_up_self]
      · show v2 = va_up (y.1 2) d v2 d
        rw [va_up_self]
      · exact absurd rfl h3
      · show v4 = va_up (y.1 4) d v4 d
        rw [va_up_self]
      · show v5 = va_up (y.1 5) d v5 d
        rw [va_up_self]
      · show v6 = va_up (y.1 6) d v6 d
        rw [va_up_self]
      · show v7 = va_up (y.1 7) d v7 d
        rw [va_up_self]
      · show 100000 = va_up (y.1 8) d 100000 d
        rw [va_up_self]
      · show 0 = va_up (y.1 9) d 0 d
        rw [va_up_self]
      · show 1 = va_up (y.1 10) d 1 d
        rw [va_up_self]
      · show 0 = va_up (y.1 11) d 0 d
        rw [va_up_self]
      · show 1 = va_up (y.1 12) d 1 d
        rw [va_up_self]
    · rw [va_up_ne _ _ e]
      rcases (show k = 1 ∨ k = 2 ∨ k = 3 ∨ k = 4 ∨ k = 5 ∨ k = 6 ∨ k = 7 ∨ k = 8 ∨ k = 9 ∨ k = 10 ∨ k = 11 ∨ k = 12 by omega) with q | q | q | q | q | q | q | q | q | q | q | q <;> subst q
      · show _ = va_up (y.1 1) p 1 d
        rw [va_up_ne _ _ e]; exact old
      · show _ = va_up (y.1 2) p v2 d
        rw [va_up_ne _ _ e]; exact old
      · exact absurd rfl h3
      · show _ = va_up (y.1 4) p v4 d
        rw [va_up_ne _ _ e]; exact old
      · show _ = va_up (y.1 5) p v5 d
        rw [va_up_ne _ _ e]; exact old
      · show _ = va_up (y.1 6) p v6 d
        rw [va_up_ne _ _ e]; exact old
      · show _ = va_up (y.1 7) p v7 d
        rw [va_up_ne _ _ e]; exact old
      · show _ = va_up (y.1 8) p 100000 d
        rw [va_up_ne _ _ e]; exact old
      · show _ = va_up (y.1 9) p 0 d
        rw [va_up_ne _ _ e]; exact old
      · show _ = va_up (y.1 10) p 1 d
        rw [va_up_ne _ _ e]; exact old
      · show _ = va_up (y.1 11) p 0 d
        rw [va_up_ne _ _ e]; exact old
      · show _ = va_up (y.1 12) p 1 d
        rw [va_up_ne _ _ e]; exact old
  · show va_up (y.1 2) p v2 d = 0 ∨ va_up x.2.1 p (va_up (va_up (va_up (va_up (va_up (va_up (va_up (va_up (va_up (va_up (va_up (va_up (x.2.1 p) 1 1) 2 v2) 3 v3) 4 v4) 5 v5) 6 v6) 7 v7) 8 100000) 9 0) 10 1) 11 0) 12 1) d 3 = va_up (y.1 3) p v3 d
    have old := h.2.1.2 d hd
    by_cases e : d = p
    · subst e
      rw [va_up_self, va_up_self, va_up_self]; exact Or.inr rfl
    · rw [va_up_ne _ _ e, va_up_ne _ _ e, va_up_ne _ _ e]; exact old
  · have old := h.2.2.1 d hd
    show (0 ≤ (va_up (y.1 9) p 0 d).toInt ∧ (va_up (y.1 9) p 0 d).toInt ≤ 5000) ∧ (0 ≤ (va_up (y.1 10) p 1 d).toInt ∧ (va_up (y.1 10) p 1 d).toInt ≤ 30) ∧ (va_up (y.1 11) p 0 d).toInt ≤ 3600 ∧ (va_up (y.1 12) p 1 d).toInt ≤ 20
    by_cases e : d = p
    · subst e
      rw [va_up_self, va_up_self, va_up_self, va_up_self]; exact hv
    · rw [va_up_ne _ _ e, va_up_ne _ _ e, va_up_ne _ _ e, va_up_ne _ _ e]; exact old
theorem mo_ch {m p : Nat} {c0 : Nat → Nat → Int32} {y : RS} {tm : Int32} {v2 v3 v4 v5 v6 : Int32} (c : CH 0 m c0 y tm) (hz : 4 ≤ (c0 0 6).toInt → (c0 0 6).toInt ≤ 5 → (c0 1 2).toNatClampNeg ≠ p) : CH 0 m c0 (sR (sR (sR (sR (sR (sR y 0 0 0) 8 p v2) 9 p v3) 10 p v4) 11 p v5) 12 p v6) tm := ⟨c.ph, c.al, c.st, c.wa, c.dn, c.cf, c.we, c.am, c.ra, c.le, c.ma, c.de, c.bo, c.fl, c.pr, c.ti, c.bu, c.ai, c.op, c.su, c.co, c.at_, c.pd, c.la, c.ty, c.tc, c.ed, c.ru, c.nu, (fun a b => c.re a b), c.r1, c.r2⟩
theorem mo_sp {p : Nat} {x : PS} {y : RS} {v2 v3 v4 v5 v6 : Int32} (h : SP x y) (hp : p < 16) (hz : ∀ n, n < 3 → 4 ≤ (x.2.2.1 n 0 6).toInt → (x.2.2.1 n 0 6).toInt ≤ 5 → (x.2.2.1 n 1 2).toNatClampNeg ≠ p) (hv : (0 ≤ (v3 : Int32).toInt ∧ (v3 : Int32).toInt ≤ 5000) ∧ (0 ≤ (v4 : Int32).toInt ∧ (v4 : Int32).toInt ≤ 30) ∧ (v5 : Int32).toInt ≤ 3600 ∧ (v6 : Int32).toInt ≤ 20) : SP (x.1, va_up x.2.1 p (va_up (va_up (va_up (va_up (va_up (x.2.1 p) 8 v2) 9 v3) 10 v4) 11 v5) 12 v6), x.2.2.1, x.2.2.2) (sR (sR (sR (sR (sR (sR y 0 0 0) 8 p v2) 9 p v3) 10 p v4) 11 p v5) 12 p v6) := by
  refine ⟨(G_r (by decide) (by decide) (G_r (by decide) (by decide) (G_r (by decide) (by decide) (G_r (by decide) (by decide) (G_r (by decide) (by decide) (sp_thr (v := 0) h).1))))), ⟨fun d hd k h1 h2 h3 => ?_, fun d hd => ?_⟩, fun d hd => ?_, fun m hm => ⟨mo_ch (h.2.2.2 m hm).1 (hz m hm), (h.2.2.2 m hm).2.1, (h.2.2.2 m hm).2.2.1, fun a b => (h.2.2.2 m hm).2.2.2 a b⟩⟩
  · show va_up x.2.1 p (va_up (va_up (va_up (va_up (va_up (x.2.1 p) 8 v2) 9 v3) 10 v4) 11 v5) 12 v6) d k = _
    have old := h.2.1.1 d hd k h1 h2 h3
    by_cases e : d = p
    · subst e
      rw [va_up_self]
      rcases (show k = 1 ∨ k = 2 ∨ k = 3 ∨ k = 4 ∨ k = 5 ∨ k = 6 ∨ k = 7 ∨ k = 8 ∨ k = 9 ∨ k = 10 ∨ k = 11 ∨ k = 12 by omega) with q | q | q | q | q | q | q | q | q | q | q | q <;> subst q
      · exact old
      · exact old
      · exact absurd rfl h3
      · exact old
      · exact old
      · exact old
      · exact old
      · show v2 = va_up (y.1 8) d v2 d
        rw [va_up_self]
      · show v3 = va_up (y.1 9) d v3 d
        rw [va_up_self]
      · show v4 = va_up (y.1 10) d v4 d
        rw [va_up_self]
      · show v5 = va_up (y.1 11) d v5 d
        rw [va_up_self]
      · show v6 = va_up (y.1 12) d v6 d
        rw [va_up_self]
    · rw [va_up_ne _ _ e]
      rcases (show k = 1 ∨ k = 2 ∨ k = 3 ∨ k = 4 ∨ k = 5 ∨ k = 6 ∨ k = 7 ∨ k = 8 ∨ k = 9 ∨ k = 10 ∨ k = 11 ∨ k = 12 by omega) with q | q | q | q | q | q | q | q | q | q | q | q <;> subst q
      · exact old
      · exact old
      · exact absurd rfl h3
      · exact old
      · exact old
      · exact old
      · exact old
      · show _ = va_up (y.1 8) p v2 d
        rw [va_up_ne _ _ e]; exact old
      · show _ = va_up (y.1 9) p v3 d
        rw [va_up_ne _ _ e]; exact old
      · show _ = va_up (y.1 10) p v4 d
        rw [va_up_ne _ _ e]; exact old
      · show _ = va_up (y.1 11) p v5 d
        rw [va_up_ne _ _ e]; exact old
      · show _ = va_up (y.1 12) p v6 d
        rw [va_up_ne _ _ e]; exact old
  · show y.1 2 d = 0 ∨ va_up x.2.1 p (va_up (va_up (va_up (va_up (va_up (x.2.1 p) 8 v2) 9 v3) 10 v4) 11 v5) 12 v6) d 3 = y.1 3 d
    have old := h.2.1.2 d hd
    by_cases e : d = p
    · subst e
      rw [va_up_self]; exact old
    · rw [va_up_ne _ _ e]; exact old
  · have old := h.2.2.1 d hd
    show (0 ≤ (va_up (y.1 9) p v3 d).toInt ∧ (va_up (y.1 9) p v3 d).toInt ≤ 5000) ∧ (0 ≤ (va_up (y.1 10) p v4 d).toInt ∧ (va_up (y.1 10) p v4 d).toInt ≤ 30) ∧ (va_up (y.1 11) p v5 d).toInt ≤ 3600 ∧ (va_up (y.1 12) p v6 d).toInt ≤ 20
    by_cases e : d = p
    · subst e
      rw [va_up_self, va_up_self, va_up_self, va_up_self]; exact hv
    · rw [va_up_ne _ _ e, va_up_ne _ _ e, va_up_ne _ _ e, va_up_ne _ _ e]; exact old
theorem tm_form {p a b c d e : Int32} {x : PS} : fX2_tellMore p a b c d e x = (x.1, va_up x.2.1 p.toNatClampNeg (va_up (va_up (va_up (va_up (va_up (x.2.1 p.toNatClampNeg) 8 a) 9 b) 10 c) 11 d) 12 e), x.2.2.1, x.2.2.2) := by
  unfold fX2_tellMore
  generalize p.toNatClampNeg = q
  show (x.1, va_up (va_up (va_up (va_up (va_up x.2.1 q _) q _) q _) q _) q _, x.2.2.1, x.2.2.2) = _
  simp only [va_up_up, va_up_self]
theorem td7 {q : Nat} {v2 v3 v4 v5 v6 v7 : Int32} {x : PS} : (tD (tD (tD (tD (tD (tD (tD x q 1 1) q 2 v2) q 3 v3) q 4 v4) q 5 v5) q 6 v6) q 7 v7) = (x.1, va_up x.2.1 q (va_up (va_up (va_up (va_up (va_up (va_up (va_up (x.2.1 q) 1 1) 2 v2) 3 v3) 4 v4) 5 v5) 6 v6) 7 v7), x.2.2.1, x.2.2.2) := by
  show (x.1, va_up (va_up (va_up (va_up (va_up (va_up (va_up x.2.1 q _) q _) q _) q _) q _) q _) q _, x.2.2.1, x.2.2.2) = _
  simp only [va_up_up, va_up_self]
theorem isin_b {p : Int32} {lo hi : Int64} {l h : Int} {y : RS} (hl : lo.toInt = l) (hh : hi.toInt = h) : (fX11_isIn p.toInt64 lo hi y = 0 ↔ ¬ (l ≤ p.toInt ∧ p.toInt ≤ h)) := by
  rw [isin_i hl hh]
  by_cases q : l ≤ p.toInt ∧ p.toInt ≤ h
  · rw [if_pos q]; exact ⟨fun e => absurd e one_ne, fun e => absurd q e⟩
  · rw [if_neg q]; exact ⟨fun _ => q, fun _ => rfl⟩
theorem gmore_r {p1 p2 p3 p4 p5 p6 : Int32} {y : RS} : fX11_more p1 p2 p3 p4 p5 p6 y = (if (1 ≤ p2.toInt ∧ p2.toInt ≤ 100000) ∧ (0 ≤ p3.toInt ∧ p3.toInt ≤ 5000) ∧ (1 ≤ p4.toInt ∧ p4.toInt ≤ 30) ∧ (0 ≤ p5.toInt ∧ p5.toInt ≤ 3600) ∧ (1 ≤ p6.toInt ∧ p6.toInt ≤ 20) then fX11_more_J68 p1 p2 p3 p4 p5 p6 y 1 else fX11_more_J68 p1 p2 p3 p4 p5 p6 y 0) := by
  have i1 := isin_b (p := p2) (lo := 1) (hi := 100000) (l := 1) (h := 100000) (y := y) rfl rfl
  have i2 := isin_b (p := p3) (lo := 0) (hi := 5000) (l := 0) (h := 5000) (y := y) rfl rfl
  have i3 := isin_b (p := p4) (lo := 1) (hi := 30) (l := 1) (h := 30) (y := y) rfl rfl
  have i4 := isin_b (p := p5) (lo := 0) (hi := 3600) (l := 0) (h := 3600) (y := y) rfl rfl
  have i5 := isin_b (p := p6) (lo := 1) (hi := 20) (l := 1) (h := 20) (y := y) rfl rfl
  unfold fX11_more fX11_more_J67
  by_cases c1 : fX11_isIn p2.toInt64 1 100000 y = 0
  · rw [if_pos c1, if_neg (fun q => i1.mp c1 q.1)]
  · rw [if_neg c1]
    by_cases c2 : fX11_isIn p3.toInt64 0 5000 y = 0
    · rw [if_pos c2, if_neg (fun q => i2.mp c2 q.2.1)]
    · rw [if_neg c2]
      by_cases c3 : fX11_isIn p4.toInt64 1 30 y = 0
      · rw [if_pos c3, if_neg (fun q => i3.mp c3 q.2.2.1)]
      · rw [if_neg c3]
        by_cases c4 : fX11_isIn p5.toInt64 0 3600 y = 0
        · rw [if_pos c4, if_neg (fun q => i4.mp c4 q.2.2.2.1)]
        · rw [if_neg c4]
          by_cases c5 : fX11_isIn p6.toInt64 1 20 y = 0
          · rw [if_pos c5, if_neg (fun q => i5.mp c5 q.2.2.2.2)]
          · rw [if_neg c5, if_pos ⟨Decidable.not_not.mp (fun q => c1 (i1.mpr q)), Decidable.not_not.mp (fun q => c2 (i2.mpr q)), Decidable.not_not.mp (fun q => c3 (i3.mpr q)), Decidable.not_not.mp (fun q => c4 (i4.mpr q)), Decidable.not_not.mp (fun q => c5 (i5.mpr q))⟩]
theorem gmore_c {p1 p2 p3 p4 p5 p6 : Int32} {x : PS} (ht : (fX10_toldDrug p1 x).1 = 0) : fX10_more p1 p2 p3 p4 p5 p6 x = (if (1 ≤ p2.toInt ∧ p2.toInt ≤ 100000) ∧ (0 ≤ p3.toInt ∧ p3.toInt ≤ 5000) ∧ (1 ≤ p4.toInt ∧ p4.toInt ≤ 30) ∧ (0 ≤ p5.toInt ∧ p5.toInt ≤ 3600) ∧ (1 ≤ p6.toInt ∧ p6.toInt ≤ 20) then (if (fX10_refuseDrugInUse p1 x).1 = 0 then ((0, (fX2_tellMore p1 p2 p3 p4 p5 p6 x), 0)) else ((fX10_refuseDrugInUse p1 x).1, (fX10_refuseDrugInUse p1 x).2.1, 0)) else (2, x, 0)) := by
  have a1 : (p2 < 1) ↔ ¬ (1 ≤ p2.toInt) := by rw [Int32.lt_iff_toInt_lt, show (1 : Int32).toInt = 1 from rfl]; omega
  have a2 : ((100000 : Int32) < p2) ↔ ¬ (p2.toInt ≤ 100000) := by rw [Int32.lt_iff_toInt_lt, show (100000 : Int32).toInt = 100000 from rfl]; omega
  have a3 : (p3 < 0) ↔ ¬ (0 ≤ p3.toInt) := by rw [Int32.lt_iff_toInt_lt, show (0 : Int32).toInt = 0 from rfl]; omega
  have a4 : ((5000 : Int32) < p3) ↔ ¬ (p3.toInt ≤ 5000) := by rw [Int32.lt_iff_toInt_lt, show (5000 : Int32).toInt = 5000 from rfl]; omega
  have a5 : (p4 < 1) ↔ ¬ (1 ≤ p4.toInt) := by rw [Int32.lt_iff_toInt_lt, show (1 : Int32).toInt = 1 from rfl]; omega
  have a6 : (p4 ≤ 30) ↔ (p4.toInt ≤ 30) := by rw [Int32.le_iff_toInt_le]; rfl
  have a7 : (p5 < 0) ↔ ¬ (0 ≤ p5.toInt) := by rw [Int32.lt_iff_toInt_lt, show (0 : Int32).toInt = 0 from rfl]; omega
  have a8 : ((3600 : Int32) < p5) ↔ ¬ (p5.toInt ≤ 3600) := by rw [Int32.lt_iff_toInt_lt, show (3600 : Int32).toInt = 3600 from rfl]; omega
  have a9 : (p6 < 1) ↔ ¬ (1 ≤ p6.toInt) := by rw [Int32.lt_iff_toInt_lt, show (1 : Int32).toInt = 1 from rfl]; omega
  have a10 : (p6 ≤ 20) ↔ (p6.toInt ≤ 20) := by rw [Int32.le_iff_toInt_le]; rfl
  unfold fX10_more
  rw [if_pos ht, xc_2']
  by_cases c1 : p2 < 1
  · rw [if_pos c1, if_neg (fun q => a1.mp c1 q.1.1)]
  · rw [if_neg c1]
    by_cases c2 : (100000 : Int32) < p2
    · rw [if_pos c2, if_neg (fun q => a2.mp c2 q.1.2)]
    · rw [if_neg c2]
      by_cases c3 : p3 < 0
      · rw [if_pos c3, if_neg (fun q => a3.mp c3 q.2.1.1)]
      · rw [if_neg c3]
        by_cases c4 : (5000 : Int32) < p3
        · rw [if_pos c4, if_neg (fun q => a4.mp c4 q.2.1.2)]
        · rw [if_neg c4]
          by_cases c5 : p4 < 1
          · rw [if_pos c5, if_neg (fun q => a5.mp c5 q.2.2.1.1)]
          · rw [if_neg c5]
            by_cases c6 : p4 ≤ 30
            · rw [if_pos c6]
              by_cases c7 : p5 < 0
              · rw [if_pos c7, if_neg (fun q => a7.mp c7 q.2.2.2.1.1)]
              · rw [if_neg c7]
                by_cases c8 : (3600 : Int32) < p5
                · rw [if_pos c8, if_neg (fun q => a8.mp c8 q.2.2.2.1.2)]
                · rw [if_neg c8]
                  by_cases c9 : p6 < 1
                  · rw [if_pos c9, if_neg (fun q => a9.mp c9 q.2.2.2.2.1)]
                  · rw [if_neg c9]
                    by_cases c10 : p6 ≤ 20
                    · have g : (1 ≤ p2.toInt ∧ p2.toInt ≤ 100000) ∧ (0 ≤ p3.toInt ∧ p3.toInt ≤ 5000) ∧ (1 ≤ p4.toInt ∧ p4.toInt ≤ 30) ∧ (0 ≤ p5.toInt ∧ p5.toInt ≤ 3600) ∧ (1 ≤ p6.toInt ∧ p6.toInt ≤ 20) := by
                        rw [a1] at c1; rw [a2] at c2; rw [a3] at c3; rw [a4] at c4; rw [a5] at c5; rw [a6] at c6; rw [a7] at c7; rw [a8] at c8; rw [a9] at c9; rw [a10] at c10
                        omega
                      rw [if_pos c10, if_pos g]
                    · rw [if_neg c10, if_neg (fun q => c10 (a10.mpr q.2.2.2.2.2))]
            · rw [if_neg c6, if_neg (fun q => c6 (a6.mpr q.2.2.1.2))]
def FV (q : Nat × PS × Int32) (r : RS) : Prop := SP q.2.1 r ∧ ((q.1 = 0 ∧ r.1 0 0 = 0) ∨ (q.1 = 1 ∧ r.1 0 0 = 1) ∨ (q.1 = 2 ∧ r.1 0 0 = 2) ∨ (q.1 = 3 ∧ r.1 0 0 = 3))
theorem s_more {x : PS} {y : RS} {p1 p2 p3 p4 p5 p6 : Int32} (h : SP x y) : FV (fX10_more p1 p2 p3 p4 p5 p6 x) (fX11_more p1 p2 p3 p4 p5 p6 y) ∧ (okS y → okS (fX11_more p1 p2 p3 p4 p5 p6 y)) := by
  obtain ⟨t1, t2⟩ := td_c (d := p1) h
  rw [gmore_r]
  unfold fX11_more_J68
  by_cases q0 : fX11_isDrug p1 y = 0
  · rw [if_pos q0, if_pos q0, ite_self]
    rw [if_pos q0] at t1
    have e : fX10_more p1 p2 p3 p4 p5 p6 x = (1, x, 0) := by
      unfold fX10_more
      rw [t1, t2, if_neg (by decide)]
    rw [e]
    exact ⟨⟨sp_thr h, Or.inr (Or.inl ⟨rfl, rfl⟩)⟩, fun hs => hs⟩
  · rw [if_neg q0, if_neg q0]
    rw [if_neg q0] at t1
    have hp := isdr_in q0
    rw [gmore_c t1]
    by_cases g : (1 ≤ p2.toInt ∧ p2.toInt ≤ 100000) ∧ (0 ≤ p3.toInt ∧ p3.toInt ≤ 5000) ∧ (1 ≤ p4.toInt ∧ p4.toInt ≤ 30) ∧ (0 ≤ p5.toInt ∧ p5.toInt ≤ 3600) ∧ (1 ≤ p6.toInt ∧ p6.toInt ≤ 20)
    · rw [if_pos g, if_pos g, if_neg one_ne]
      rcases ref_c hp h with ⟨r1, r2, r3⟩ | ⟨r1, r2, r3⟩
      · rw [if_pos r1, if_pos r2, tm_form]
        exact ⟨⟨mo_sp h (vi_lt hp) (fun n hn a b => ed_ne hn hp h (r3 n hn) a b) ⟨g.2.1, ⟨by omega, g.2.2.1.2⟩, g.2.2.2.1.2, g.2.2.2.2.2⟩, Or.inl ⟨rfl, rfl⟩⟩, fun hs => hs⟩
      · rw [if_neg r1, r2, r3, if_neg (by decide)]
        exact ⟨⟨sp_thr h, Or.inr (Or.inr (Or.inr ⟨rfl, rfl⟩))⟩, fun hs => hs⟩
    · rw [if_neg g, if_neg g, if_pos rfl]
      exact ⟨⟨sp_thr h, Or.inr (Or.inr (Or.inl ⟨rfl, rfl⟩))⟩, fun hs => hs⟩
theorem gdrug_r {p1 p2 p3 p4 p5 p6 p7 : Int32} {y : RS} : fX11_drug p1 p2 p3 p4 p5 p6 p7 y = (if (0 ≤ p2.toInt ∧ p2.toInt ≤ 1) ∧ (1 ≤ p3.toInt ∧ p3.toInt ≤ 10000) ∧ (1 ≤ p4.toInt ∧ p4.toInt ≤ p5.toInt ∧ p5.toInt ≤ p6.toInt ∧ p6.toInt ≤ p7.toInt ∧ p7.toInt ≤ 99999) then fX11_drug_J85 p1 p2 p3 p4 p5 p6 p7 y 1 else fX11_drug_J85 p1 p2 p3 p4 p5 p6 p7 y 0) := by
  have i1 := isin_b (p := p2) (lo := 0) (hi := 1) (l := 0) (h := 1) (y := y) rfl rfl
  have i2 := isin_b (p := p3) (lo := 1) (hi := 10000) (l := 1) (h := 10000) (y := y) rfl rfl
  have i3 := isin_b (p := p4) (lo := 1) (hi := 99999) (l := 1) (h := 99999) (y := y) rfl rfl
  have i4 := isin_b (p := p5) (lo := p4.toInt64) (hi := 99999) (l := p4.toInt) (h := 99999) (y := y) (Int32.toInt_toInt64 p4) rfl
  have i5 := isin_b (p := p6) (lo := p5.toInt64) (hi := 99999) (l := p5.toInt) (h := 99999) (y := y) (Int32.toInt_toInt64 p5) rfl
  have i6 := isin_b (p := p7) (lo := p6.toInt64) (hi := 99999) (l := p6.toInt) (h := 99999) (y := y) (Int32.toInt_toInt64 p6) rfl
  unfold fX11_drug fX11_drug_J84
  by_cases c1 : fX11_isIn p2.toInt64 0 1 y = 0
  · rw [if_pos c1, if_neg (fun q => i1.mp c1 q.1)]
  · rw [if_neg c1]
    by_cases c2 : fX11_isIn p3.toInt64 1 10000 y = 0
    · rw [if_pos c2, if_neg (fun q => i2.mp c2 q.2.1)]
    · rw [if_neg c2]
      by_cases c3 : fX11_isIn p4.toInt64 1 99999 y = 0
      · rw [if_pos c3, if_neg (show ¬ ((0 ≤ p2.toInt ∧ p2.toInt ≤ 1) ∧ (1 ≤ p3.toInt ∧ p3.toInt ≤ 10000) ∧ (1 ≤ p4.toInt ∧ p4.toInt ≤ p5.toInt ∧ p5.toInt ≤ p6.toInt ∧ p6.toInt ≤ p7.toInt ∧ p7.toInt ≤ 99999)) from fun q => i3.mp c3 (by omega))]
      · rw [if_neg c3]
        by_cases c4 : fX11_isIn p5.toInt64 p4.toInt64 99999 y = 0
        · rw [if_pos c4, if_neg (show ¬ ((0 ≤ p2.toInt ∧ p2.toInt ≤ 1) ∧ (1 ≤ p3.toInt ∧ p3.toInt ≤ 10000) ∧ (1 ≤ p4.toInt ∧ p4.toInt ≤ p5.toInt ∧ p5.toInt ≤ p6.toInt ∧ p6.toInt ≤ p7.toInt ∧ p7.toInt ≤ 99999)) from fun q => i4.mp c4 (by omega))]
        · rw [if_neg c4]
          by_cases c5 : fX11_isIn p6.toInt64 p5.toInt64 99999 y = 0
          · rw [if_pos c5, if_neg (show ¬ ((0 ≤ p2.toInt ∧ p2.toInt ≤ 1) ∧ (1 ≤ p3.toInt ∧ p3.toInt ≤ 10000) ∧ (1 ≤ p4.toInt ∧ p4.toInt ≤ p5.toInt ∧ p5.toInt ≤ p6.toInt ∧ p6.toInt ≤ p7.toInt ∧ p7.toInt ≤ 99999)) from fun q => i5.mp c5 (by omega))]
          · rw [if_neg c5]
            by_cases c6 : fX11_isIn p7.toInt64 p6.toInt64 99999 y = 0
            · rw [if_pos c6, if_neg (show ¬ ((0 ≤ p2.toInt ∧ p2.toInt ≤ 1) ∧ (1 ≤ p3.toInt ∧ p3.toInt ≤ 10000) ∧ (1 ≤ p4.toInt ∧ p4.toInt ≤ p5.toInt ∧ p5.toInt ≤ p6.toInt ∧ p6.toInt ≤ p7.toInt ∧ p7.toInt ≤ 99999)) from fun q => i6.mp c6 (by omega))]
            · have g1 := Decidable.not_not.mp (fun q => c1 (i1.mpr q))
              have g2 := Decidable.not_not.mp (fun q => c2 (i2.mpr q))
              have g3 := Decidable.not_not.mp (fun q => c3 (i3.mpr q))
              have g4 := Decidable.not_not.mp (fun q => c4 (i4.mpr q))
              have g5 := Decidable.not_not.mp (fun q => c5 (i5.mpr q))
              have g6 := Decidable.not_not.mp (fun q => c6 (i6.mpr q))
              rw [if_neg c6, if_pos ⟨g1, g2, by omega⟩]
theorem gdrug_c {p1 p2 p3 p4 p5 p6 p7 : Int32} {x : PS} (hp : vp_in p1 16) : fX10_drug p1 p2 p3 p4 p5 p6 p7 x = (if (0 ≤ p2.toInt ∧ p2.toInt ≤ 1) ∧ (1 ≤ p3.toInt ∧ p3.toInt ≤ 10000) ∧ (1 ≤ p4.toInt ∧ p4.toInt ≤ p5.toInt ∧ p5.toInt ≤ p6.toInt ∧ p6.toInt ≤ p7.toInt ∧ p7.toInt ≤ 99999) then (if (fX10_refuseDrugInUse p1 x).1 = 0 then ((0, (fX2_tellMore p1 100000 0 1 0 1 (tD (tD (tD (tD (tD (tD (tD x p1.toNatClampNeg 1 (1)) p1.toNatClampNeg 2 (p2)) p1.toNatClampNeg 3 (p3)) p1.toNatClampNeg 4 (p4)) p1.toNatClampNeg 5 (p5)) p1.toNatClampNeg 6 (p6)) p1.toNatClampNeg 7 (p7))), 0)) else ((fX10_refuseDrugInUse p1 x).1, (fX10_refuseDrugInUse p1 x).2.1, 0)) else (2, x, 0)) := by
  rw [vp_in_iff] at hp
  have b1 : ¬ p1 < 0 := by rw [Int32.lt_iff_toInt_lt, show (0 : Int32).toInt = 0 from rfl]; omega
  have b2 : p1 < 16 := by rw [Int32.lt_iff_toInt_lt, show (16 : Int32).toInt = 16 from rfl]; omega
  have a1 : (p2 < 0) ↔ ¬ (0 ≤ p2.toInt) := by rw [Int32.lt_iff_toInt_lt, show (0 : Int32).toInt = 0 from rfl]; omega
  have a2 : ((1 : Int32) < p2) ↔ ¬ (p2.toInt ≤ 1) := by rw [Int32.lt_iff_toInt_lt, show (1 : Int32).toInt = 1 from rfl]; omega
  have a3 : (p3 < 1) ↔ ¬ (1 ≤ p3.toInt) := by rw [Int32.lt_iff_toInt_lt, show (1 : Int32).toInt = 1 from rfl]; omega
  have a4 : (p3 ≤ 10000) ↔ (p3.toInt ≤ 10000) := by rw [Int32.le_iff_toInt_le]; rfl
  have a5 : (p4 < 1) ↔ ¬ (1 ≤ p4.toInt) := by rw [Int32.lt_iff_toInt_lt, show (1 : Int32).toInt = 1 from rfl]; omega
  have a6 : (p5 < p4) ↔ ¬ (p4.toInt ≤ p5.toInt) := by rw [Int32.lt_iff_toInt_lt]; omega
  have a7 : (p6 < p5) ↔ ¬ (p5.toInt ≤ p6.toInt) := by rw [Int32.lt_iff_toInt_lt]; omega
  have a8 : (p7 < p6) ↔ ¬ (p6.toInt ≤ p7.toInt) := by rw [Int32.lt_iff_toInt_lt]; omega
  have a9 : (p7 ≤ 99999) ↔ (p7.toInt ≤ 99999) := by rw [Int32.le_iff_toInt_le]; rfl
  unfold fX10_drug
  rw [if_neg b1, if_pos b2, xc_2']
  by_cases c1 : p2 < 0
  · rw [if_pos c1, if_neg (fun q => a1.mp c1 q.1.1)]
  · rw [if_neg c1]
    by_cases c2 : (1 : Int32) < p2
    · rw [if_pos c2, if_neg (fun q => a2.mp c2 q.1.2)]
    · rw [if_neg c2]
      by_cases c3 : p3 < 1
      · rw [if_pos c3, if_neg (fun q => a3.mp c3 q.2.1.1)]
      · rw [if_neg c3]
        by_cases c4 : p3 ≤ 10000
        · rw [if_pos c4]
          by_cases c5 : p4 < 1
          · rw [if_pos c5, if_neg (fun q => a5.mp c5 q.2.2.1)]
          · rw [if_neg c5]
            by_cases c6 : p5 < p4
            · rw [if_pos c6, if_neg (fun q => a6.mp c6 q.2.2.2.1)]
            · rw [if_neg c6]
              by_cases c7 : p6 < p5
              · rw [if_pos c7, if_neg (fun q => a7.mp c7 q.2.2.2.2.1)]
              · rw [if_neg c7]
                by_cases c8 : p7 < p6
                · rw [if_pos c8, if_neg (fun q => a8.mp c8 q.2.2.2.2.2.1)]
                · rw [if_neg c8]
                  by_cases c9 : p7 ≤ 99999
                  · have g : (0 ≤ p2.toInt ∧ p2.toInt ≤ 1) ∧ (1 ≤ p3.toInt ∧ p3.toInt ≤ 10000) ∧ (1 ≤ p4.toInt ∧ p4.toInt ≤ p5.toInt ∧ p5.toInt ≤ p6.toInt ∧ p6.toInt ≤ p7.toInt ∧ p7.toInt ≤ 99999) := by
                      rw [a1] at c1; rw [a2] at c2; rw [a3] at c3; rw [a4] at c4; rw [a5] at c5; rw [a6] at c6; rw [a7] at c7; rw [a8] at c8; rw [a9] at c9
                      omega
                    rw [if_pos c9, if_pos g]
                  · rw [if_neg c9, if_neg (fun q => c9 (a9.mpr q.2.2.2.2.2.2))]
        · rw [if_neg c4, if_neg (fun q => c4 (a4.mpr q.2.1.2))]
theorem s_drug {x : PS} {y : RS} {p1 p2 p3 p4 p5 p6 p7 : Int32} (h : SP x y) : FV (fX10_drug p1 p2 p3 p4 p5 p6 p7 x) (fX11_drug p1 p2 p3 p4 p5 p6 p7 y) ∧ (okS y → okS (fX11_drug p1 p2 p3 p4 p5 p6 p7 y)) := by
  rw [gdrug_r]
  unfold fX11_drug_J85
  rw [isin_i (l := 0) (h := 15) rfl rfl]
  by_cases q0 : 0 ≤ p1.toInt ∧ p1.toInt ≤ 15
  · have hp : vp_in p1 16 := by rw [vp_in_iff]; omega
    rw [if_pos q0, if_neg one_ne, if_neg one_ne, gdrug_c hp]
    by_cases g : (0 ≤ p2.toInt ∧ p2.toInt ≤ 1) ∧ (1 ≤ p3.toInt ∧ p3.toInt ≤ 10000) ∧ (1 ≤ p4.toInt ∧ p4.toInt ≤ p5.toInt ∧ p5.toInt ≤ p6.toInt ∧ p6.toInt ≤ p7.toInt ∧ p7.toInt ≤ 99999)
    · rw [if_pos g, if_pos g]
      rcases ref_c hp h with ⟨r1, r2, r3⟩ | ⟨r1, r2, r3⟩
      · rw [if_pos r1, if_pos r2, td7, tm_form]
        refine ⟨⟨?_, Or.inl ⟨rfl, rfl⟩⟩, fun hs d hd hk => ?_⟩
        · show SP (x.1, va_up (va_up x.2.1 p1.toNatClampNeg _) p1.toNatClampNeg (va_up (va_up (va_up (va_up (va_up (va_up x.2.1 p1.toNatClampNeg _ p1.toNatClampNeg) 8 100000) 9 0) 10 1) 11 0) 12 1), x.2.2.1, x.2.2.2) _
          rw [va_up_up, va_up_self]
          exact dg_sp h (vi_lt hp) (fun n hn a b => ed_ne hn hp h (r3 n hn) a b) (by decide)
        · have hk' : ¬ va_up (y.1 2) p1.toNatClampNeg p2 d = 0 := hk
          show 1 ≤ (va_up (y.1 3) p1.toNatClampNeg p3 d).toInt
          by_cases e : d = p1.toNatClampNeg
          · rw [e, va_up_self]; exact g.2.1.1
          · rw [va_up_ne _ _ e] at hk' ⊢; exact hs d hd hk'
      · rw [if_neg r1, r2, r3, if_neg (by decide)]
        exact ⟨⟨sp_thr h, Or.inr (Or.inr (Or.inr ⟨rfl, rfl⟩))⟩, fun hs => hs⟩
    · rw [if_neg g, if_neg g, if_pos rfl]
      exact ⟨⟨sp_thr h, Or.inr (Or.inr (Or.inl ⟨rfl, rfl⟩))⟩, fun hs => hs⟩
  · rw [if_neg q0, if_pos rfl, if_pos rfl, ite_self]
    have e : fX10_drug p1 p2 p3 p4 p5 p6 p7 x = (1, x, 0) := by
      unfold fX10_drug
      rw [xc_1']
      by_cases b1 : p1 < 0
      · rw [if_pos b1]
      · have b2 : ¬ p1 < 16 := by
          rw [Int32.lt_iff_toInt_lt, show (0 : Int32).toInt = 0 from rfl] at b1
          rw [Int32.lt_iff_toInt_lt, show (16 : Int32).toInt = 16 from rfl]; omega
        rw [if_neg b1, if_neg b2]
    rw [e]
    exact ⟨⟨sp_thr h, Or.inr (Or.inl ⟨rfl, rfl⟩)⟩, fun hs => hs⟩
