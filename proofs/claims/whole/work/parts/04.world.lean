/-! THE CLASS'S WORLD. At bb: the pump (0), its drugs' row (1), its channels' row (2), the journal (3), its cells (4); 16 drugs from bb + 5; channel n's 14 cells from bb + 21 + 14 n: channel 0, entry 1, typed 2, no drug 3, program 4, its first drug 5, boluses 6, begun 7, times 8, line 9, air strokes 10, times 11, hour 12, counts 13. A drug's number here: 0 .. 15 the pump's, 16 + n the entry's none, 19 + n the program's first -/
def dAd (bb x : Nat) : Nat := if x < 16 then bb + 5 + x else if x < 19 then bb + 21 + 14 * (x - 16) + 3 else bb + 21 + 14 * (x - 19) + 5
def noneR : Nat → Int32 := fun k => if k = 3 then 1 else 0
def dNum (x : Nat) : Int32 := if x < 16 then nI x else -1
def dRow (gd : Nat → Nat → Int32) (x : Nat) : Nat → Int32 := if x < 16 then gd x else noneR
def shD (z : Int32) (r : Nat → Int32) : va_E := .inr (2, [.int z, .int (r 1), .int (r 2), .int (r 3), .int (r 4), .int (r 5), .int (r 6), .int (r 7), .int (r 8), .int (r 9), .int (r 10), .int (r 11), .int (r 12)])
def shP (E : eE) (bb : Nat) (lk : Int64) (o : Nat) (r : Nat → Int32) : va_E := match o with
  | 0 => .inr (10, [.ref (bb + 1), .ref (bb + 2), .ref (bb + 3), .int (r 3), .int (r 4), .int (r 5), .int (r 6), .int (r 7)])
  | 1 => .inl (eR E, 16, .inr (.inr (.inr (.inr (fun i => some (dAd bb i))))))
  | 2 => .inl (eC E, 3, .inr (.inr (.inr (.inr (fun i => some (bb + 21 + 14 * i + 0))))))
  | 3 => .inr (5, [.ref (bb + 4), .int (r 1), .long lk])
  | _ => .inl (eI E, 256, .inl r)
def shC (E : eE) (bb n : Nat) (o : Nat) (r : Nat → Int32) : va_E := match o with
  | 0 => .inr (1, [.int (nI n), .ref (bb + 21 + 14 * n + 1), .ref (bb + 21 + 14 * n + 4), .ref (bb + 21 + 14 * n + 6), .ref (bb + 21 + 14 * n + 9), .ref (bb + 21 + 14 * n + 12), .int (r 6), .int (r 7), .int (r 8), .int (r 9), .int (r 10)])
  | 1 => .inr (3, [.ref (bb + 21 + 14 * n + 2), .ref (dAd bb (nI (16 + n)).toNatClampNeg), .ref (dAd bb (r 2).toNatClampNeg), .int (r 3), .int (r 4), .int (r 5), .int (r 6)])
  | 2 => .inr (9, [.int (r 0), .int (r 1), .int (r 2), .int (r 3)])
  | 3 => shD (-1) noneR
  | 4 => .inr (7, [.ref (dAd bb (r 0).toNatClampNeg), .int (r 1), .int (r 2), .int (r 3), .int (r 4)])
  | 5 => shD (-1) noneR
  | 6 => .inr (0, [.ref (bb + 21 + 14 * n + 7), .int (r 1), .int (r 2)])
  | 7 => .inr (8, [.int 3600, .ref (bb + 21 + 14 * n + 8), .int (r 2), .int (r 3)])
  | 8 => .inl (eI E, 20, .inl r)
  | 9 => .inr (6, [.ref (bb + 21 + 14 * n + 10), .int (r 1), .int (r 2), .int (r 3), .int (r 4), .int (r 5), .int (r 6)])
  | 10 => .inr (8, [.int 900, .ref (bb + 21 + 14 * n + 11), .int (r 2), .int (r 3)])
  | 11 => .inl (eI E, 60, .inl r)
  | 12 => .inr (4, [.ref (bb + 21 + 14 * n + 13), .int (r 1), .int (r 2)])
  | _ => .inl (eI E, 3600, .inl r)
/-- the state of the class as a whole: pump cells, drugs, channels, the chain -/
def cw (E : eE) (bb : Nat) (g0 gd : Nat → Nat → Int32) (ch : Nat → Nat → Nat → Int32) (lk : Int64) (H : Heap) : Prop :=
  (∀ o, o < 5 → va_at (eD E) vwCl (bb + o, shP E bb lk o (g0 o)) H) ∧ (∀ d, d < 16 → va_at (eD E) vwCl (bb + 5 + d, shD (nI d) (gd d)) H) ∧ ∀ n, n < 3 → ∀ o, o < 14 → va_at (eD E) vwCl (bb + 21 + 14 * n + o, shC E bb n o (ch n o)) H
/-- the state as a method of one channel sees it: pump cells, this channel's, the chain -/
abbrev FS : Type := (Nat → Nat → Int32) × (Nat → Nat → Int32) × Int64
abbrev sP (x : FS) (o k : Nat) (v : Int32) : FS := (va_up x.1 o (va_up (x.1 o) k v), x.2.1, x.2.2)
abbrev sC (x : FS) (o k : Nat) (v : Int32) : FS := (x.1, va_up x.2.1 o (va_up (x.2.1 o) k v), x.2.2)
abbrev sL (x : FS) (v : Int64) : FS := (x.1, x.2.1, v)
def cwf (E : eE) (bb : Nat) (gd : Nat → Nat → Int32) (ch : Nat → Nat → Nat → Int32) (n : Nat) (x : FS) (H : Heap) : Prop := cw E bb x.1 gd (va_up ch n x.2.1) x.2.2 H
def cA (bb : Nat) : Nat → Prop := fun q => bb ≤ q ∧ q < bb + 63
theorem cA_C {bb n o : Nat} (hn : n < 3) (ho : o < 14) : cA bb (bb + 21 + 14 * n + o) := ⟨by omega, by omega⟩
theorem cA_P {bb o : Nat} (ho : o < 5) : cA bb (bb + o) := ⟨by omega, by omega⟩
theorem cA_D {bb d : Nat} (ho : d < 16) : cA bb (bb + 5 + d) := ⟨by omega, by omega⟩
section CW
variable {E : eE} {bb n o k : Nat} {g0 gd : Nat → Nat → Int32} {ch : Nat → Nat → Nat → Int32} {lk : Int64} {x : FS} {H H1 : Heap}
theorem cwf_P (h : cwf E bb gd ch n x H) (ho : o < 5) : va_at (eD E) vwCl (bb + o, shP E bb x.2.2 o (x.1 o)) H := h.1 o ho
theorem cwf_C (h : cwf E bb gd ch n x H) (hn : n < 3) (ho : o < 14) : va_at (eD E) vwCl (bb + 21 + 14 * n + o, shC E bb n o (x.2.1 o)) H := by
  have h1 := h.2.2 n hn o ho
  rw [va_up_self] at h1
  exact h1
theorem cw_D (h : cw E bb g0 gd ch lk H) {d : Nat} (hd : d < 22) : va_at (eD E) vwCl (dAd bb d, shD (dNum d) (dRow gd d)) H := by
  unfold dAd dNum dRow
  by_cases h1 : d < 16
  · rw [if_pos h1, if_pos h1, if_pos h1]; exact h.2.1 d h1
  · rw [if_neg h1, if_neg h1, if_neg h1]
    by_cases h2 : d < 19
    · rw [if_pos h2]; exact h.2.2 (d - 16) (by omega) 3 (by decide)
    · rw [if_neg h2]; exact h.2.2 (d - 19) (by omega) 5 (by decide)
theorem cwf_D (h : cwf E bb gd ch n x H) {z : Int32} (hz : vp_in z 22) : va_at (eD E) vwCl (dAd bb z.toNatClampNeg, shD (dNum z.toNatClampNeg) (dRow gd z.toNatClampNeg)) H :=
  cw_D h (Nat.not_le.mp fun q => hz (Or.inr q))
/-- a cell of the pump is written -/
theorem cw_setP (h : cw E bb g0 gd ch lk H) (ho : o < 5) {r : Nat → Int32} (hat : va_at (eD E) vwCl (bb + o, shP E bb lk o r) H1) (hne : ∀ q : Nat, q ≠ bb + o → H1[q]? = H[q]?) : cw E bb (va_up g0 o r) gd ch lk H1 := by
  refine ⟨fun o' ho' => ?_, fun d hd => (h.2.1 d hd).kept (hne _ (by dsimp only; omega)), fun n' hn' o' ho' => (h.2.2 n' hn' o' ho').kept (hne _ (by dsimp only; omega))⟩
  by_cases hq : o' = o
  · subst hq; rw [va_up_self]; exact hat
  · rw [va_up_ne _ _ hq]; exact (h.1 o' ho').kept (hne _ (by dsimp only; omega))
/-- the chain is written -/
theorem cw_setL (h : cw E bb g0 gd ch lk H) {lk' : Int64} (hat : va_at (eD E) vwCl (bb + 3, shP E bb lk' 3 (g0 3)) H1) (hne : ∀ q : Nat, q ≠ bb + 3 → H1[q]? = H[q]?) : cw E bb g0 gd ch lk' H1 := by
  refine ⟨fun o' ho' => ?_, fun d hd => (h.2.1 d hd).kept (hne _ (by dsimp only; omega)), fun n' hn' o' ho' => (h.2.2 n' hn' o' ho').kept (hne _ (by dsimp only; omega))⟩
  by_cases hq : o' = 3
  · subst hq; exact hat
  · have h1 := (h.1 o' ho').kept (hne _ (by dsimp only; omega))
    rcases (show o' = 0 ∨ o' = 1 ∨ o' = 2 ∨ o' = 4 by omega) with rfl | rfl | rfl | rfl <;> exact h1
/-- a drug is written -/
theorem cw_setD (h : cw E bb g0 gd ch lk H) {d : Nat} (hd : d < 16) {r : Nat → Int32} (hat : va_at (eD E) vwCl (bb + 5 + d, shD (nI d) r) H1) (hne : ∀ q : Nat, q ≠ bb + 5 + d → H1[q]? = H[q]?) : cw E bb g0 (va_up gd d r) ch lk H1 := by
  refine ⟨fun o' ho' => (h.1 o' ho').kept (hne _ (by dsimp only; omega)), fun d' hd' => ?_, fun n' hn' o' ho' => (h.2.2 n' hn' o' ho').kept (hne _ (by dsimp only; omega))⟩
  by_cases hq : d' = d
  · subst hq; rw [va_up_self]; exact hat
  · rw [va_up_ne _ _ hq]; exact (h.2.1 d' hd').kept (hne _ (by dsimp only; omega))
/-- a cell of a channel is written -/
theorem cw_setC (h : cw E bb g0 gd ch lk H) (hn : n < 3) (ho : o < 14) {r : Nat → Int32} (hat : va_at (eD E) vwCl (bb + 21 + 14 * n + o, shC E bb n o r) H1) (hne : ∀ q : Nat, q ≠ bb + 21 + 14 * n + o → H1[q]? = H[q]?) : cw E bb g0 gd (va_up ch n (va_up (ch n) o r)) lk H1 := by
  refine ⟨fun o' ho' => (h.1 o' ho').kept (hne _ (by dsimp only; omega)), fun d hd => (h.2.1 d hd).kept (hne _ (by dsimp only; omega)), fun n' hn' o' ho' => ?_⟩
  by_cases hq : n' = n
  · subst hq
    rw [va_up_self]
    by_cases hq2 : o' = o
    · subst hq2; rw [va_up_self]; exact hat
    · rw [va_up_ne _ _ hq2]; exact (h.2.2 n' hn' o' ho').kept (hne _ (by dsimp only; omega))
  · rw [va_up_ne _ _ hq]; exact (h.2.2 n' hn' o' ho').kept (hne _ (by dsimp only; omega))
theorem va_up_up {α : Type} (f : Nat → α) (k : Nat) (v w : α) : va_up (va_up f k v) k w = va_up f k w := by
  funext j; by_cases h : j = k <;> simp [va_up, h]
theorem va_up_eta {α : Type} (f : Nat → α) (k : Nat) : va_up f k (f k) = f := by
  funext j; by_cases h : j = k
  · subst h; exact va_up_self _ _ _
  · exact va_up_ne _ _ h
theorem cwf_sP (h : cwf E bb gd ch n x H) (ho : o < 5) {v : Int32} (hat : va_at (eD E) vwCl (bb + o, shP E bb x.2.2 o (va_up (x.1 o) k v)) H1) (hne : ∀ q : Nat, q ≠ bb + o → H1[q]? = H[q]?) : cwf E bb gd ch n (sP x o k v) H1 := cw_setP h ho hat hne
theorem cwf_sL (h : cwf E bb gd ch n x H) {v : Int64} (hat : va_at (eD E) vwCl (bb + 3, shP E bb v 3 (x.1 3)) H1) (hne : ∀ q : Nat, q ≠ bb + 3 → H1[q]? = H[q]?) : cwf E bb gd ch n (sL x v) H1 := cw_setL h hat hne
theorem cwf_sC (h : cwf E bb gd ch n x H) (hn : n < 3) (ho : o < 14) {v : Int32} (hat : va_at (eD E) vwCl (bb + 21 + 14 * n + o, shC E bb n o (va_up (x.2.1 o) k v)) H1) (hne : ∀ q : Nat, q ≠ bb + 21 + 14 * n + o → H1[q]? = H[q]?) : cwf E bb gd ch n (sC x o k v) H1 := by
  have h1 := cw_setC h hn ho hat hne
  rw [va_up_self, va_up_up] at h1
  exact h1
end CW
