/-! what the constructors leave: the first states -/
theorem va_at_q {D : va_G} {cl : List vw_C} {a n : Nat} {c : ClassId} {f g : Nat → Option Nat} {H : Heap} (h : ∀ i, i < n → f i = g i) (hat : va_at D cl (a, .inl (c, n, .inr (.inr (.inr (.inr f))))) H) : va_at D cl (a, .inl (c, n, .inr (.inr (.inr (.inr g))))) H := by
  have e : vp_cell c (n, .inr (.inr (.inr (.inr f)))) = vp_cell c (n, .inr (.inr (.inr (.inr g)))) := by
    rw [vp_cell_q, vp_cell_q]
    unfold arrV
    congr 2
    funext j
    show va_rf (f j.val) = va_rf (g j.val)
    rw [h j.val j.isLt]
  show H[a]? = some (vp_cell _ _)
  rw [← e]
  exact hat
def px0 : PS := (fun o k => if o = 0 then (if k = 4 then 36000 else if k = 5 then 1 else 0) else 0, fun _ k => if k = 3 then 1 else 0, fun n o k => if o = 1 then (if k = 2 then nI (16 + n) else 0) else if o = 4 then (if k = 0 then nI (19 + n) else if k = 2 then -1 else 0) else if o = 6 then (if k = 1 then -3600 else 0) else if o = 9 then (if k = 1 then 200 else 0) else 0, 1)
theorem dAd_e {b n : Nat} (hn : n < 3) : dAd b (nI (16 + n)).toNatClampNeg = b + 21 + 14 * n + 3 := by
  rw [nI_clamp (by omega)]
  unfold dAd
  rw [if_neg (by omega), if_pos (by omega)]
  omega
theorem dAd_p {b n : Nat} (hn : n < 3) : dAd b (nI (19 + n)).toNatClampNeg = b + 21 + 14 * n + 5 := by
  rw [nI_clamp (by omega)]
  unfold dAd
  rw [if_neg (by omega), if_neg (by omega)]
  omega
theorem pw_ch {E : eE} {b n o : Nat} {H : Heap} (hn : n < 3) (ho : o < 14) (h : ∀ (q : va_E), (kcX1_init E (b + 21 + 14 * n) (nI n))[o]? = some q → va_at (eD E) vwCl (b + 21 + 14 * n + o, q) H) : va_at (eD E) vwCl (b + 21 + 14 * n + o, shC E b n o (px0.2.2.1 n o)) H := by
  rcases (show o = 0 ∨ o = 1 ∨ o = 2 ∨ o = 3 ∨ o = 4 ∨ o = 5 ∨ o = 6 ∨ o = 7 ∨ o = 8 ∨ o = 9 ∨ o = 10 ∨ o = 11 ∨ o = 12 ∨ o = 13 by omega) with rfl | rfl | rfl | rfl | rfl | rfl | rfl | rfl | rfl | rfl | rfl | rfl | rfl | rfl
  · exact h _ rfl
  · show va_at (eD E) vwCl (b + 21 + 14 * n + 1, .inr (3, [.ref (b + 21 + 14 * n + 2), .ref (dAd b (nI (16 + n)).toNatClampNeg), .ref (dAd b (nI (16 + n)).toNatClampNeg), .int 0, .int 0, .int 0, .int 0])) H
    rw [dAd_e hn]
    exact h _ rfl
  · exact h _ rfl
  · exact h _ rfl
  · show va_at (eD E) vwCl (b + 21 + 14 * n + 4, .inr (7, [.ref (dAd b (nI (19 + n)).toNatClampNeg), .int 0, .int (-1), .int 0, .int 0])) H
    rw [dAd_p hn]
    exact h _ rfl
  all_goals exact h _ rfl
theorem pw_init {E : eE} {b : Nat} {H : Heap} (hk : kat E b ((kP E b (kf b 16) (kg b 3) ++ kDr 16) ++ kCh E b 3) H) : pw E b px0 H := by
  refine ⟨fun o ho => ?_, fun d hd => ?_, fun n hn o ho => ?_⟩
  · rcases (show o = 0 ∨ o = 1 ∨ o = 2 ∨ o = 3 ∨ o = 4 by omega) with rfl | rfl | rfl | rfl | rfl
    · exact hk.2 0 _ rfl
    · refine va_at_q (f := kf b 16) (fun i hi => ?_) (hk.2 1 _ rfl)
      unfold kf dAd
      rw [if_pos hi, if_pos hi]
    · refine va_at_q (f := kg b 3) (fun i hi => ?_) (hk.2 2 _ rfl)
      unfold kg
      rw [if_pos hi]
      rfl
    · exact hk.2 3 _ rfl
    · exact hk.2 4 _ rfl
  · have h := hk.2 (5 + d) (kD1 (nI d)) (by rw [List.getElem?_append_left (by rw [kPD_len]; omega)]; exact kDr_hd hd)
    rw [show b + (5 + d) = b + 5 + d by omega] at h
    exact h
  · refine pw_ch hn ho (fun q hq => ?_)
    have h := hk.2 (21 + 14 * n + o) q (by rw [kC_get hn ho]; exact hq)
    rw [show b + (21 + 14 * n + o) = b + 21 + 14 * n + o by omega] at h
    exact h

def ryN : Nat → Int32 := (va_up (va_up (va_up (fun _ => 0) ((0) : Int32).toNatClampNeg (-1)) ((1) : Int32).toNatClampNeg (-1)) ((2) : Int32).toNatClampNeg (-1))
def ryF : Nat → Int32 := (va_up (va_up (va_up (fun _ => 0) ((0) : Int32).toNatClampNeg (200)) ((1) : Int32).toNatClampNeg (200)) ((2) : Int32).toNatClampNeg (200))
def ry0 : RS := (fun o => if o = 0 then (fun k => if k = 46 then 36000 else if k = 47 then 1 else 0) else if o = 15 then ryN else if o = 17 then ryN else if o = 21 then ryN else if o = 43 then ryN else if o = 22 then ryF else fun _ => 0, 1)
theorem ri_0 {E : eE} {b : Nat} {H : Heap} (hk : kat E b (kcX11_init E b) H) : va_at (eD E) vwCl (b + 0, shR E b ry0.2 0 (ry0.1 0)) H := hk.2 0 _ rfl
theorem ri_1 {E : eE} {b : Nat} {H : Heap} (hk : kat E b (kcX11_init E b) H) : va_at (eD E) vwCl (b + 1, shR E b ry0.2 1 (ry0.1 1)) H := hk.2 1 _ rfl
theorem ri_2 {E : eE} {b : Nat} {H : Heap} (hk : kat E b (kcX11_init E b) H) : va_at (eD E) vwCl (b + 2, shR E b ry0.2 2 (ry0.1 2)) H := hk.2 2 _ rfl
theorem ri_3 {E : eE} {b : Nat} {H : Heap} (hk : kat E b (kcX11_init E b) H) : va_at (eD E) vwCl (b + 3, shR E b ry0.2 3 (ry0.1 3)) H := hk.2 3 _ rfl
theorem ri_4 {E : eE} {b : Nat} {H : Heap} (hk : kat E b (kcX11_init E b) H) : va_at (eD E) vwCl (b + 4, shR E b ry0.2 4 (ry0.1 4)) H := hk.2 4 _ rfl
theorem ri_5 {E : eE} {b : Nat} {H : Heap} (hk : kat E b (kcX11_init E b) H) : va_at (eD E) vwCl (b + 5, shR E b ry0.2 5 (ry0.1 5)) H := hk.2 5 _ rfl
theorem ri_6 {E : eE} {b : Nat} {H : Heap} (hk : kat E b (kcX11_init E b) H) : va_at (eD E) vwCl (b + 6, shR E b ry0.2 6 (ry0.1 6)) H := hk.2 6 _ rfl
theorem ri_7 {E : eE} {b : Nat} {H : Heap} (hk : kat E b (kcX11_init E b) H) : va_at (eD E) vwCl (b + 7, shR E b ry0.2 7 (ry0.1 7)) H := hk.2 7 _ rfl
theorem ri_8 {E : eE} {b : Nat} {H : Heap} (hk : kat E b (kcX11_init E b) H) : va_at (eD E) vwCl (b + 8, shR E b ry0.2 8 (ry0.1 8)) H := hk.2 8 _ rfl
theorem ri_9 {E : eE} {b : Nat} {H : Heap} (hk : kat E b (kcX11_init E b) H) : va_at (eD E) vwCl (b + 9, shR E b ry0.2 9 (ry0.1 9)) H := hk.2 9 _ rfl
theorem ri_10 {E : eE} {b : Nat} {H : Heap} (hk : kat E b (kcX11_init E b) H) : va_at (eD E) vwCl (b + 10, shR E b ry0.2 10 (ry0.1 10)) H := hk.2 10 _ rfl
theorem ri_11 {E : eE} {b : Nat} {H : Heap} (hk : kat E b (kcX11_init E b) H) : va_at (eD E) vwCl (b + 11, shR E b ry0.2 11 (ry0.1 11)) H := hk.2 11 _ rfl
theorem ri_12 {E : eE} {b : Nat} {H : Heap} (hk : kat E b (kcX11_init E b) H) : va_at (eD E) vwCl (b + 12, shR E b ry0.2 12 (ry0.1 12)) H := hk.2 12 _ rfl
theorem ri_13 {E : eE} {b : Nat} {H : Heap} (hk : kat E b (kcX11_init E b) H) : va_at (eD E) vwCl (b + 13, shR E b ry0.2 13 (ry0.1 13)) H := hk.2 13 _ rfl
theorem ri_14 {E : eE} {b : Nat} {H : Heap} (hk : kat E b (kcX11_init E b) H) : va_at (eD E) vwCl (b + 14, shR E b ry0.2 14 (ry0.1 14)) H := hk.2 14 _ rfl
theorem ri_15 {E : eE} {b : Nat} {H : Heap} (hk : kat E b (kcX11_init E b) H) : va_at (eD E) vwCl (b + 15, shR E b ry0.2 15 (ry0.1 15)) H := hk.2 15 _ rfl
theorem ri_16 {E : eE} {b : Nat} {H : Heap} (hk : kat E b (kcX11_init E b) H) : va_at (eD E) vwCl (b + 16, shR E b ry0.2 16 (ry0.1 16)) H := hk.2 16 _ rfl
theorem ri_17 {E : eE} {b : Nat} {H : Heap} (hk : kat E b (kcX11_init E b) H) : va_at (eD E) vwCl (b + 17, shR E b ry0.2 17 (ry0.1 17)) H := hk.2 17 _ rfl
theorem ri_18 {E : eE} {b : Nat} {H : Heap} (hk : kat E b (kcX11_init E b) H) : va_at (eD E) vwCl (b + 18, shR E b ry0.2 18 (ry0.1 18)) H := hk.2 18 _ rfl
theorem ri_19 {E : eE} {b : Nat} {H : Heap} (hk : kat E b (kcX11_init E b) H) : va_at (eD E) vwCl (b + 19, shR E b ry0.2 19 (ry0.1 19)) H := hk.2 19 _ rfl
theorem ri_20 {E : eE} {b : Nat} {H : Heap} (hk : kat E b (kcX11_init E b) H) : va_at (eD E) vwCl (b + 20, shR E b ry0.2 20 (ry0.1 20)) H := hk.2 20 _ rfl
theorem ri_21 {E : eE} {b : Nat} {H : Heap} (hk : kat E b (kcX11_init E b) H) : va_at (eD E) vwCl (b + 21, shR E b ry0.2 21 (ry0.1 21)) H := hk.2 21 _ rfl
theorem ri_22 {E : eE} {b : Nat} {H : Heap} (hk : kat E b (kcX11_init E b) H) : va_at (eD E) vwCl (b + 22, shR E b ry0.2 22 (ry0.1 22)) H := hk.2 22 _ rfl
theorem ri_23 {E : eE} {b : Nat} {H : Heap} (hk : kat E b (kcX11_init E b) H) : va_at (eD E) vwCl (b + 23, shR E b ry0.2 23 (ry0.1 23)) H := hk.2 23 _ rfl
theorem ri_24 {E : eE} {b : Nat} {H : Heap} (hk : kat E b (kcX11_init E b) H) : va_at (eD E) vwCl (b + 24, shR E b ry0.2 24 (ry0.1 24)) H := hk.2 24 _ rfl
theorem ri_25 {E : eE} {b : Nat} {H : Heap} (hk : kat E b (kcX11_init E b) H) : va_at (eD E) vwCl (b + 25, shR E b ry0.2 25 (ry0.1 25)) H := hk.2 25 _ rfl
theorem ri_26 {E : eE} {b : Nat} {H : Heap} (hk : kat E b (kcX11_init E b) H) : va_at (eD E) vwCl (b + 26, shR E b ry0.2 26 (ry0.1 26)) H := hk.2 26 _ rfl
theorem ri_27 {E : eE} {b : Nat} {H : Heap} (hk : kat E b (kcX11_init E b) H) : va_at (eD E) vwCl (b + 27, shR E b ry0.2 27 (ry0.1 27)) H := hk.2 27 _ rfl
theorem ri_28 {E : eE} {b : Nat} {H : Heap} (hk : kat E b (kcX11_init E b) H) : va_at (eD E) vwCl (b + 28, shR E b ry0.2 28 (ry0.1 28)) H := hk.2 28 _ rfl
theorem ri_29 {E : eE} {b : Nat} {H : Heap} (hk : kat E b (kcX11_init E b) H) : va_at (eD E) vwCl (b + 29, shR E b ry0.2 29 (ry0.1 29)) H := hk.2 29 _ rfl
theorem ri_30 {E : eE} {b : Nat} {H : Heap} (hk : kat E b (kcX11_init E b) H) : va_at (eD E) vwCl (b + 30, shR E b ry0.2 30 (ry0.1 30)) H := hk.2 30 _ rfl
theorem ri_31 {E : eE} {b : Nat} {H : Heap} (hk : kat E b (kcX11_init E b) H) : va_at (eD E) vwCl (b + 31, shR E b ry0.2 31 (ry0.1 31)) H := hk.2 31 _ rfl
theorem ri_32 {E : eE} {b : Nat} {H : Heap} (hk : kat E b (kcX11_init E b) H) : va_at (eD E) vwCl (b + 32, shR E b ry0.2 32 (ry0.1 32)) H := hk.2 32 _ rfl
theorem ri_33 {E : eE} {b : Nat} {H : Heap} (hk : kat E b (kcX11_init E b) H) : va_at (eD E) vwCl (b + 33, shR E b ry0.2 33 (ry0.1 33)) H := hk.2 33 _ rfl
theorem ri_34 {E : eE} {b : Nat} {H : Heap} (hk : kat E b (kcX11_init E b) H) : va_at (eD E) vwCl (b + 34, shR E b ry0.2 34 (ry0.1 34)) H := hk.2 34 _ rfl
theorem ri_35 {E : eE} {b : Nat} {H : Heap} (hk : kat E b (kcX11_init E b) H) : va_at (eD E) vwCl (b + 35, shR E b ry0.2 35 (ry0.1 35)) H := hk.2 35 _ rfl
theorem ri_36 {E : eE} {b : Nat} {H : Heap} (hk : kat E b (kcX11_init E b) H) : va_at (eD E) vwCl (b + 36, shR E b ry0.2 36 (ry0.1 36)) H := hk.2 36 _ rfl
theorem ri_37 {E : eE} {b : Nat} {H : Heap} (hk : kat E b (kcX11_init E b) H) : va_at (eD E) vwCl (b + 37, shR E b ry0.2 37 (ry0.1 37)) H := hk.2 37 _ rfl
theorem ri_38 {E : eE} {b : Nat} {H : Heap} (hk : kat E b (kcX11_init E b) H) : va_at (eD E) vwCl (b + 38, shR E b ry0.2 38 (ry0.1 38)) H := hk.2 38 _ rfl
theorem ri_39 {E : eE} {b : Nat} {H : Heap} (hk : kat E b (kcX11_init E b) H) : va_at (eD E) vwCl (b + 39, shR E b ry0.2 39 (ry0.1 39)) H := hk.2 39 _ rfl
theorem ri_40 {E : eE} {b : Nat} {H : Heap} (hk : kat E b (kcX11_init E b) H) : va_at (eD E) vwCl (b + 40, shR E b ry0.2 40 (ry0.1 40)) H := hk.2 40 _ rfl
theorem ri_41 {E : eE} {b : Nat} {H : Heap} (hk : kat E b (kcX11_init E b) H) : va_at (eD E) vwCl (b + 41, shR E b ry0.2 41 (ry0.1 41)) H := hk.2 41 _ rfl
theorem ri_42 {E : eE} {b : Nat} {H : Heap} (hk : kat E b (kcX11_init E b) H) : va_at (eD E) vwCl (b + 42, shR E b ry0.2 42 (ry0.1 42)) H := hk.2 42 _ rfl
theorem ri_43 {E : eE} {b : Nat} {H : Heap} (hk : kat E b (kcX11_init E b) H) : va_at (eD E) vwCl (b + 43, shR E b ry0.2 43 (ry0.1 43)) H := hk.2 43 _ rfl
theorem ri_44 {E : eE} {b : Nat} {H : Heap} (hk : kat E b (kcX11_init E b) H) : va_at (eD E) vwCl (b + 44, shR E b ry0.2 44 (ry0.1 44)) H := hk.2 44 _ rfl
theorem ri_45 {E : eE} {b : Nat} {H : Heap} (hk : kat E b (kcX11_init E b) H) : va_at (eD E) vwCl (b + 45, shR E b ry0.2 45 (ry0.1 45)) H := hk.2 45 _ rfl
theorem rw_init {E : eE} {b : Nat} {H : Heap} (hk : kat E b (kcX11_init E b) H) : rw_ E b ry0 H := by
  intro o ho
  rcases (show o = 0 ∨ o = 1 ∨ o = 2 ∨ o = 3 ∨ o = 4 ∨ o = 5 ∨ o = 6 ∨ o = 7 ∨ o = 8 ∨ o = 9 ∨ o = 10 ∨ o = 11 ∨ o = 12 ∨ o = 13 ∨ o = 14 ∨ o = 15 ∨ o = 16 ∨ o = 17 ∨ o = 18 ∨ o = 19 ∨ o = 20 ∨ o = 21 ∨ o = 22 ∨ o = 23 ∨ o = 24 ∨ o = 25 ∨ o = 26 ∨ o = 27 ∨ o = 28 ∨ o = 29 ∨ o = 30 ∨ o = 31 ∨ o = 32 ∨ o = 33 ∨ o = 34 ∨ o = 35 ∨ o = 36 ∨ o = 37 ∨ o = 38 ∨ o = 39 ∨ o = 40 ∨ o = 41 ∨ o = 42 ∨ o = 43 ∨ o = 44 ∨ o = 45 by omega) with rfl | rfl | rfl | rfl | rfl | rfl | rfl | rfl | rfl | rfl | rfl | rfl | rfl | rfl | rfl | rfl | rfl | rfl | rfl | rfl | rfl | rfl | rfl | rfl | rfl | rfl | rfl | rfl | rfl | rfl | rfl | rfl | rfl | rfl | rfl | rfl | rfl | rfl | rfl | rfl | rfl | rfl | rfl | rfl | rfl | rfl
  · exact ri_0 hk
  · exact ri_1 hk
  · exact ri_2 hk
  · exact ri_3 hk
  · exact ri_4 hk
  · exact ri_5 hk
  · exact ri_6 hk
  · exact ri_7 hk
  · exact ri_8 hk
  · exact ri_9 hk
  · exact ri_10 hk
  · exact ri_11 hk
  · exact ri_12 hk
  · exact ri_13 hk
  · exact ri_14 hk
  · exact ri_15 hk
  · exact ri_16 hk
  · exact ri_17 hk
  · exact ri_18 hk
  · exact ri_19 hk
  · exact ri_20 hk
  · exact ri_21 hk
  · exact ri_22 hk
  · exact ri_23 hk
  · exact ri_24 hk
  · exact ri_25 hk
  · exact ri_26 hk
  · exact ri_27 hk
  · exact ri_28 hk
  · exact ri_29 hk
  · exact ri_30 hk
  · exact ri_31 hk
  · exact ri_32 hk
  · exact ri_33 hk
  · exact ri_34 hk
  · exact ri_35 hk
  · exact ri_36 hk
  · exact ri_37 hk
  · exact ri_38 hk
  · exact ri_39 hk
  · exact ri_40 hk
  · exact ri_41 hk
  · exact ri_42 hk
  · exact ri_43 hk
  · exact ri_44 hk
  · exact ri_45 hk
