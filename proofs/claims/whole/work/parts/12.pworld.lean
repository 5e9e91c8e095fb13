/-! the state of the whole pump: pump cells, drugs, channels, the chain; a channel of it as its own methods see it -/
abbrev PS : Type := (Nat → Nat → Int32) × (Nat → Nat → Int32) × (Nat → Nat → Nat → Int32) × Int64
abbrev tP (x : PS) (o k : Nat) (v : Int32) : PS := (va_up x.1 o (va_up (x.1 o) k v), x.2.1, x.2.2.1, x.2.2.2)
abbrev tD (x : PS) (d k : Nat) (v : Int32) : PS := (x.1, va_up x.2.1 d (va_up (x.2.1 d) k v), x.2.2.1, x.2.2.2)
abbrev tC (x : PS) (n o k : Nat) (v : Int32) : PS := (x.1, x.2.1, va_up x.2.2.1 n (va_up (x.2.2.1 n) o (va_up (x.2.2.1 n o) k v)), x.2.2.2)
abbrev foc (x : PS) (n : Nat) : FS := (x.1, x.2.2.1 n, x.2.2.2)
abbrev put (x : PS) (n : Nat) (y : FS) : PS := (y.1, x.2.1, va_up x.2.2.1 n y.2.1, y.2.2)
def pw (E : eE) (bb : Nat) (x : PS) (H : Heap) : Prop := cw E bb x.1 x.2.1 x.2.2.1 x.2.2.2 H
section PW
variable {E : eE} {bb n o k : Nat} {x : PS} {H H1 : Heap}
theorem pw_P (h : pw E bb x H) (ho : o < 5) : va_at (eD E) vwCl (bb + o, shP E bb x.2.2.2 o (x.1 o)) H := h.1 o ho
theorem pw_C (h : pw E bb x H) (hn : n < 3) (ho : o < 14) : va_at (eD E) vwCl (bb + 21 + 14 * n + o, shC E bb n o (x.2.2.1 n o)) H := h.2.2 n hn o ho
theorem pw_D (h : pw E bb x H) {z : Int32} (hz : vp_in z 22) : va_at (eD E) vwCl (dAd bb z.toNatClampNeg, shD (dNum z.toNatClampNeg) (dRow x.2.1 z.toNatClampNeg)) H := cw_D h (Nat.not_le.mp fun q => hz (Or.inr q))
theorem pw_sP (h : pw E bb x H) (ho : o < 5) {v : Int32} (hat : va_at (eD E) vwCl (bb + o, shP E bb x.2.2.2 o (va_up (x.1 o) k v)) H1) (hne : ∀ q : Nat, q ≠ bb + o → H1[q]? = H[q]?) : pw E bb (tP x o k v) H1 := cw_setP h ho hat hne
theorem pw_sC (h : pw E bb x H) (hn : n < 3) (ho : o < 14) {v : Int32} (hat : va_at (eD E) vwCl (bb + 21 + 14 * n + o, shC E bb n o (va_up (x.2.2.1 n o) k v)) H1) (hne : ∀ q : Nat, q ≠ bb + 21 + 14 * n + o → H1[q]? = H[q]?) : pw E bb (tC x n o k v) H1 := cw_setC h hn ho hat hne
theorem pw_foc (h : pw E bb x H) : cwf E bb x.2.1 x.2.2.1 n (foc x n) H := by
  unfold cwf
  rw [va_up_eta]
  exact h
theorem pw_sD (h : pw E bb x H) {z : Int32} (hz : vp_in z 16) {v : Int32} (hat : va_at (eD E) vwCl (dAd bb z.toNatClampNeg, shD (dNum z.toNatClampNeg) (va_up (dRow x.2.1 z.toNatClampNeg) k v)) H1) (hne : ∀ q : Nat, q ≠ dAd bb z.toNatClampNeg → H1[q]? = H[q]?) : pw E bb (tD x z.toNatClampNeg k v) H1 := by
  have hd : z.toNatClampNeg < 16 := Nat.not_le.mp fun q => hz (Or.inr q)
  have e1 : dAd bb z.toNatClampNeg = bb + 5 + z.toNatClampNeg := by unfold dAd; rw [if_pos hd]
  have e2 : dNum z.toNatClampNeg = nI z.toNatClampNeg := by unfold dNum; rw [if_pos hd]
  have e3 : dRow x.2.1 z.toNatClampNeg = x.2.1 z.toNatClampNeg := by unfold dRow; rw [if_pos hd]
  rw [e1, e2, e3] at hat
  rw [e1] at hne
  exact cw_setD h hd hat hne
end PW
