/-! THE REFERENCE'S WORLD: at rr the object, from rr + 1 its rows, in the order of its fields: is 1, kind 2, strength 3, hardLow 4, softLow 5, softHigh 6, hardHigh 7, limit 8, bolus 9, pace 10, lockout 11, many 12, phase 13, from 14, program 15, rate 16, left 17, made 18, debt 19, bolusLeft 20, latestBolus 21, flow 22, air 23, open 24, pressure 25, pressed 26, bubble 27, alarms 28, relay 29, done 30, all 31, strokes 32, begun 33, airs 34, inHour 35, begunInHour 36, airsNow 37, entryDrug 38, entryWeight 39, entryAmount 40, figures 41, digits 42, points 43, pushed 44, log 45 -/
def shR (E : eE) (rr : Nat) (lk : Int64) (o : Nat) (r : Nat → Int32) : va_E := match o with
  | 0 => .inr (11, [.int (r 0), .ref (rr + 1), .ref (rr + 2), .ref (rr + 3), .ref (rr + 4), .ref (rr + 5), .ref (rr + 6), .ref (rr + 7), .ref (rr + 8), .ref (rr + 9), .ref (rr + 10), .ref (rr + 11), .ref (rr + 12), .ref (rr + 13), .ref (rr + 14), .ref (rr + 15), .ref (rr + 16), .ref (rr + 17), .ref (rr + 18), .ref (rr + 19), .ref (rr + 20), .ref (rr + 21), .ref (rr + 22), .ref (rr + 23), .ref (rr + 24), .ref (rr + 25), .ref (rr + 26), .ref (rr + 27), .ref (rr + 28), .ref (rr + 29), .ref (rr + 30), .ref (rr + 31), .ref (rr + 32), .ref (rr + 33), .ref (rr + 34), .ref (rr + 35), .ref (rr + 36), .ref (rr + 37), .ref (rr + 38), .ref (rr + 39), .ref (rr + 40), .ref (rr + 41), .ref (rr + 42), .ref (rr + 43), .ref (rr + 44), .int (r 45), .int (r 46), .int (r 47), .int (r 48), .int (r 49), .int (r 50), .ref (rr + 45), .long lk])
  | 1 => .inl (eZ E, 16, .inl r)
  | 2 => .inl (eI E, 16, .inl r)
  | 3 => .inl (eI E, 16, .inl r)
  | 4 => .inl (eI E, 16, .inl r)
  | 5 => .inl (eI E, 16, .inl r)
  | 6 => .inl (eI E, 16, .inl r)
  | 7 => .inl (eI E, 16, .inl r)
  | 8 => .inl (eI E, 16, .inl r)
  | 9 => .inl (eI E, 16, .inl r)
  | 10 => .inl (eI E, 16, .inl r)
  | 11 => .inl (eI E, 16, .inl r)
  | 12 => .inl (eI E, 16, .inl r)
  | 13 => .inl (eI E, 3, .inl r)
  | 14 => .inl (eI E, 3, .inl r)
  | 15 => .inl (eI E, 3, .inl r)
  | 16 => .inl (eI E, 3, .inl r)
  | 17 => .inl (eI E, 3, .inl r)
  | 18 => .inl (eI E, 3, .inl r)
  | 19 => .inl (eI E, 3, .inl r)
  | 20 => .inl (eI E, 3, .inl r)
  | 21 => .inl (eI E, 3, .inl r)
  | 22 => .inl (eI E, 3, .inl r)
  | 23 => .inl (eZ E, 3, .inl r)
  | 24 => .inl (eZ E, 3, .inl r)
  | 25 => .inl (eI E, 3, .inl r)
  | 26 => .inl (eI E, 3, .inl r)
  | 27 => .inl (eI E, 3, .inl r)
  | 28 => .inl (eI E, 3, .inl r)
  | 29 => .inl (eZ E, 3, .inl r)
  | 30 => .inl (eZ E, 3, .inl r)
  | 31 => .inl (eI E, 3, .inl r)
  | 32 => .inl (eI E, 10800, .inl r)
  | 33 => .inl (eI E, 10800, .inl r)
  | 34 => .inl (eI E, 2700, .inl r)
  | 35 => .inl (eI E, 3, .inl r)
  | 36 => .inl (eI E, 3, .inl r)
  | 37 => .inl (eI E, 3, .inl r)
  | 38 => .inl (eI E, 3, .inl r)
  | 39 => .inl (eI E, 3, .inl r)
  | 40 => .inl (eI E, 3, .inl r)
  | 41 => .inl (eI E, 3, .inl r)
  | 42 => .inl (eI E, 3, .inl r)
  | 43 => .inl (eI E, 3, .inl r)
  | 44 => .inl (eI E, 3, .inl r)
  | _ => .inl (eI E, 256, .inl r)
abbrev RS : Type := (Nat → Nat → Int32) × Int64
abbrev sR (x : RS) (o k : Nat) (v : Int32) : RS := (va_up x.1 o (va_up (x.1 o) k v), x.2)
abbrev sM (x : RS) (v : Int64) : RS := (x.1, v)
def rw_ (E : eE) (rr : Nat) (x : RS) (H : Heap) : Prop := ∀ o, o < 46 → va_at (eD E) vwCl (rr + o, shR E rr x.2 o (x.1 o)) H
def rA (rr : Nat) : Nat → Prop := fun q => rr ≤ q ∧ q < rr + 46
theorem rA_o {rr o : Nat} (ho : o < 46) : rA rr (rr + o) := ⟨by omega, by omega⟩
section RW
variable {E : eE} {rr o k : Nat} {x : RS} {H H1 : Heap}
theorem rw_at (h : rw_ E rr x H) (ho : o < 46) : va_at (eD E) vwCl (rr + o, shR E rr x.2 o (x.1 o)) H := h o ho
theorem rw_s (h : rw_ E rr x H) (ho : o < 46) {v : Int32} (hat : va_at (eD E) vwCl (rr + o, shR E rr x.2 o (va_up (x.1 o) k v)) H1) (hne : ∀ q : Nat, q ≠ rr + o → H1[q]? = H[q]?) : rw_ E rr (sR x o k v) H1 := by
  intro o' ho'
  by_cases hq : o' = o
  · subst hq
    show va_at (eD E) vwCl (rr + o', shR E rr x.2 o' (va_up x.1 o' (va_up (x.1 o') k v) o')) H1
    rw [va_up_self]; exact hat
  · show va_at (eD E) vwCl (rr + o', shR E rr x.2 o' (va_up x.1 o (va_up (x.1 o) k v) o')) H1
    rw [va_up_ne _ _ hq]; exact (h o' ho').kept (hne _ (by dsimp only; omega))
theorem shR_lk {lk lk' : Int64} {r : Nat → Int32} (h0 : o ≠ 0) (ho : o < 46) : shR E rr lk o r = shR E rr lk' o r := by
  rcases (show o = 1 ∨ o = 2 ∨ o = 3 ∨ o = 4 ∨ o = 5 ∨ o = 6 ∨ o = 7 ∨ o = 8 ∨ o = 9 ∨ o = 10 ∨ o = 11 ∨ o = 12 ∨ o = 13 ∨ o = 14 ∨ o = 15 ∨ o = 16 ∨ o = 17 ∨ o = 18 ∨ o = 19 ∨ o = 20 ∨ o = 21 ∨ o = 22 ∨ o = 23 ∨ o = 24 ∨ o = 25 ∨ o = 26 ∨ o = 27 ∨ o = 28 ∨ o = 29 ∨ o = 30 ∨ o = 31 ∨ o = 32 ∨ o = 33 ∨ o = 34 ∨ o = 35 ∨ o = 36 ∨ o = 37 ∨ o = 38 ∨ o = 39 ∨ o = 40 ∨ o = 41 ∨ o = 42 ∨ o = 43 ∨ o = 44 ∨ o = 45 by omega) with rfl | rfl | rfl | rfl | rfl | rfl | rfl | rfl | rfl | rfl | rfl | rfl | rfl | rfl | rfl | rfl | rfl | rfl | rfl | rfl | rfl | rfl | rfl | rfl | rfl | rfl | rfl | rfl | rfl | rfl | rfl | rfl | rfl | rfl | rfl | rfl | rfl | rfl | rfl | rfl | rfl | rfl | rfl | rfl | rfl <;> rfl
theorem rw_sM (h : rw_ E rr x H) {v : Int64} (hat : va_at (eD E) vwCl (rr + 0, shR E rr v 0 (x.1 0)) H1) (hne : ∀ q : Nat, q ≠ rr + 0 → H1[q]? = H[q]?) : rw_ E rr (sM x v) H1 := by
  intro o' ho'
  by_cases hq : o' = 0
  · subst hq; exact hat
  · show va_at (eD E) vwCl (rr + o', shR E rr v o' (x.1 o')) H1
    rw [shR_lk (lk' := x.2) hq ho']
    exact (h o' ho').kept (hne _ (by dsimp only; omega))
end RW
