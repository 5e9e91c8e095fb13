/-! the state of the whole pump: pump cells, drugs, channels, the chain; a channel of it as its own methods see it -/
abbrev PS : Type := (Nat → Nat → Int32) × (Nat → Nat → Int32) × (Nat → Nat → Nat → Int32) × Int64
abbrev tP (x : PS) (o k : Nat) (v : Int32) : PS := (va_up x.1 o (va_up (x.1 o) k v), x.2.1, x.2.2.1, x.2.2.2)
abbrev tD (x : PS) (d k : Nat) (v : Int32) : PS := (x.1, va_up x.2.1 d (va_up (x.2.1 d) k v), x.2.2.1, x.2.2.2)
abbrev tC (x : PS) (n o k : Nat) (v : Int32) : PS := (x.1, x.2.1, va_up x.2.2.1 n (va_up (x.2.2.1 n) o (va_up (x.2.2.1 n o) k v)), x.2.2.2)
abbrev foc (x : PS) (n : Nat) : FS := (x.1, x.2.2.1 n, x.2.2.2)
abbrev put (x : PS) (n : Nat) (y : FS) : PS := (y.1, x.2.1, va_up x.2.2.1 n y.2.1, y.2.2)
def pw (E : eE) (bb : Nat) (x : PS) (H : Heap) : Prop := cw E bb x.1 x.2.1 x.2.2.1 x.2.2.2 H
section PW
variable {E : eE} {bb n o k : Nat} {x : PS} {H H1 : Heap}
theorem pw_P (h : pw E bb x H) (ho : o < 5) : va_at (eD E) vwCl (bb + o, shP E bb x.2.2.2 o (x.1 o)) H := h.1 o ho
theorem pw_C (h : pw E bb x H) (hn : n < 3) (ho : o < 14) : va_at (eD E) vwCl (bb + 21 + 14 * n + o, shC E bb n o (x.2.2.1 n o)) H := h.2.2 n hn o ho
theorem pw_D (h : pw E bb x H) {z : Int32} (hz : vp_in z 22) : va_at (eD E) vwCl (dAd bb z.toNatClampNeg, shD (dNum z.toNatClampNeg) (dRow x.2.1 z.toNatClampNeg)) H := cw_D h (Nat.not_le.mp fun q => hz (Or.inr q))
theorem pw_sP (h : pw E bb x H) (ho : o < 5) {v : Int32} (hat : va_at (eD E) vwCl (bb + o, shP E bb x.2.2.2 o (va_up (x.1 o) k v)) H1) (hne : ∀ q : Nat, q ≠ bb + o → H1[q]? = H[q]?) : pw E bb (tP x o k v) H1 := cw_setP h ho hat hne
theorem pw_sC (h : pw E bb x H) (hn : n < 3) (ho : o < 14) {v : Int32} (hat : va_at (eD E) vwCl (bb + 21 + 14 * n + o, shC E bb n o (va_up (x.2.2.1 n o) k v)) H1) (hne : ∀ q : Nat, q ≠ bb + 21 + 14 * n + o → H1[q]? = H[q]?) : pw E bb (tC x n o k v) H1 := cw_setC h hn ho hat hne
theorem pw_foc (h : pw E bb x H) : cwf E bb x.2.1 x.2.2.1 n (foc x n) H := by
  unfold cwf
  rw [va_up_eta]
  exact h
theorem pw_sD (h : pw E bb x H) {z : Int32} (hz : vp_in z 16) {v : Int32} (hat : va_at (eD E) vwCl (dAd bb z.toNatClampNeg, shD (dNum z.toNatClampNeg) (va_up (dRow x.2.1 z.toNatClampNeg) k v)) H1) (hne : ∀ q : Nat, q ≠ dAd bb z.toNatClampNeg → H1[q]? = H[q]?) : pw E bb (tD x z.toNatClampNeg k v) H1 := by
  have hd : z.toNatClampNeg < 16 := Nat.not_le.mp fun q => hz (Or.inr q)
  have e1 : dAd bb z.toNatClampNeg = bb + 5 + z.toNatClampNeg := by unfold dAd; rw [if_pos hd]
  have e2 : dNum z.toNatClampNeg = nI z.toNatClampNeg := by unfold dNum; rw [if_pos hd]
  have e3 : dRow x.2.1 z.toNatClampNeg = x.2.1 z.toNatClampNeg := by unfold dRow; rw [if_pos hd]
  rw [e1, e2, e3] at hat
  rw [e1] at hne
  exact cw_setD h hd hat hne
end PW
theorem pw_unfoc {E : eE} {bb n : Nat} {x : PS} {H : Heap} (h : cwf E bb x.2.1 x.2.2.1 n (foc x n) H) : pw E bb x H := by
  unfold cwf at h
  rw [va_up_eta] at h
  exact h
def okP (x : PS) : Prop := ∀ n, n < 3 → okF (foc x n)
theorem okP_tP {x : PS} {o k : Nat} {v : Int32} (h : okP x) : okP (tP x o k v) := fun n hn => h n hn
theorem okP_put {x : PS} {n : Nat} {u : FS} (h : okP x) (hu : okF u) : okP (put x n u) := by
  intro n' hn'
  by_cases e : n' = n
  · subst e
    show okF (u.1, va_up x.2.2.1 n' u.2.1 n', u.2.2)
    rw [va_up_self]; exact hu
  · show okF (u.1, va_up x.2.2.1 n u.2.1 n', u.2.2)
    rw [va_up_ne _ _ e]; exact h n' hn'
theorem okP_tC {x : PS} {n o k : Nat} {v : Int32} (hn : n < 3) (hc : okc o k = true) (h : okP x) : okP (tC x n o k v) := by
  intro n' hn'
  by_cases e : n' = n
  · subst e
    have q : foc (tC x n' o k v) n' = sC (foc x n') o k v := by
      show (x.1, va_up x.2.2.1 n' (va_up (x.2.2.1 n') o (va_up (x.2.2.1 n' o) k v)) n', x.2.2.2) = (x.1, va_up (x.2.2.1 n') o (va_up (x.2.2.1 n' o) k v), x.2.2.2)
      rw [va_up_self]
    rw [q]
    exact okF_sC (x := foc x n') hc (h n' hn')
  · have q : foc (tC x n o k v) n' = foc x n' := by
      show (x.1, va_up x.2.2.1 n (va_up (x.2.2.1 n) o (va_up (x.2.2.1 n o) k v)) n', x.2.2.2) = (x.1, x.2.2.1 n', x.2.2.2)
      rw [va_up_ne _ _ e]
    rw [q]
    exact h n' hn'
theorem vj_c3 {v : Int32} (h1 : 0 ≤ v.toInt) (h2 : ¬ 3 ≤ v) : vp_in v 3 := by
  rw [Int32.le_iff_toInt_le, show (3 : Int32).toInt = 3 from rfl] at h2
  rw [vp_in_iff]
  omega
theorem vj_c3s {v : Int32} (h1 : 0 ≤ v.toInt) (h2 : ¬ 3 ≤ v) : 0 ≤ (v + 1).toInt := by
  rw [Int32.le_iff_toInt_le] at h2
  have h3 : (3 : Int32).toInt = 3 := rfl
  rw [i32_succ (b := 3) (by omega)]
  omega
theorem vj_lt {c : Int32} {N : Nat} (h : vp_in c N) : c.toNatClampNeg < N := Nat.not_le.mp fun q => h (Or.inr q)
