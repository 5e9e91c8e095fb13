/-! THE REFERENCE'S WORLD: at rr the object, from rr + 1 its rows, in the order of its fields: is 1, kind 2, strength 3, hardLow 4, softLow 5, softHigh 6, hardHigh 7, limit 8, bolus 9, pace 10, lockout 11, many 12, phase 13, from 14, program 15, rate 16, left 17, made 18, debt 19, bolusLeft 20, latestBolus 21, flow 22, air 23, open 24, pressure 25, pressed 26, bubble 27, alarms 28, relay 29, done 30, all 31, strokes 32, begun 33, airs 34, inHour 35, begunInHour 36, airsNow 37, entryDrug 38, entryWeight 39, entryAmount 40, figures 41, digits 42, points 43, pushed 44, log 45 -/
def shR (E : eE) (rr : Nat) (lk : Int64) (o : Nat) (r : Nat → Int32) : va_E := match o with
  | 0 => .inr (11, [.int (r 0), .ref (rr + 1), .ref (rr + 2), .ref (rr + 3), .ref (rr + 4), .ref (rr + 5), .ref (rr + 6), .ref (rr + 7), .ref (rr + 8), .ref (rr + 9), .ref (rr + 10), .ref (rr + 11), .ref (rr + 12), .ref (rr + 13), .ref (rr + 14), .ref (rr + 15), .ref (rr + 16), .ref (rr + 17), .ref (rr + 18), .ref (rr + 19), .ref (rr + 20), .ref (rr + 21), .ref (rr + 22), .ref (rr + 23), .ref (rr + 24), .ref (rr + 25), .ref (rr + 26), .ref (rr + 27), .ref (rr + 28), .ref (rr + 29), .ref (rr + 30), .ref (rr + 31), .ref (rr + 32), .ref (rr + 33), .ref (rr + 34), .ref (rr + 35), .ref (rr + 36), .ref (rr + 37), .ref (rr + 38), .ref (rr + 39), .ref (rr + 40), .ref (rr + 41), .ref (rr + 42), .ref (rr + 43), .ref (rr + 44), .int (r 45), .int (r 46), .int (r 47), .int (r 48), .int (r 49), .int (r 50), .ref (rr + 45), .long lk])
  | 1 => .inl (eZ E, 16, .inl r)
  | 2 => .inl (eI E, 16, .inl r)
  | 3 => .inl (eI E, 16, .inl r)
  | 4 => .inl (eI E, 16, .inl r)
  | 5 => .inl (eI E, 16, .inl r)
  | 6 => .inl (eI E, 16, .inl r)
  | 7 => .inl (eI E, 16, .inl r)
  | 8 => .inl (eI E, 16, .inl r)
  | 9 => .inl (eI E, 16, .inl r)
  | 10 => .inl (eI E, 16, .inl r)
  | 11 => .inl (eI E, 16, .inl r)
  | 12 => .inl (eI E, 16, .inl r)
  | 13 => .inl (eI E, 3, .inl r)
  | 14 => .inl (eI E, 3, .inl r)
  | 15 => .inl (eI E, 3, .inl r)
  | 16 => .inl (eI E, 3, .inl r)
  | 17 => .inl (eI E, 3, .inl r)
  | 18 => .inl (eI E, 3, .inl r)
  | 19 => .inl (eI E, 3, .inl r)
  | 20 => .inl (eI E, 3, .inl r)
  | 21 => .inl (eI E, 3, .inl r)
  | 22 => .inl (eI E, 3, .inl r)
  | 23 => .inl (eZ E, 3, .inl r)
  | 24 => .inl (eZ E, 3, .inl r)
  | 25 => .inl (eI E, 3, .inl r)
  | 26 => .inl (eI E, 3, .inl r)
  | 27 => .inl (eI E, 3, .inl r)
  | 28 => .inl (eI E, 3, .inl r)
  | 29 => .inl (eZ E, 3, .inl r)
  | 30 => .inl (eZ E, 3, .inl r)
  | 31 => .inl (eI E, 3, .inl r)
  | 32 => .inl (eI E, 10800, .inl r)
  | 33 => .inl (eI E, 10800, .inl r)
  | 34 => .inl (eI E, 2700, .inl r)
  | 35 => .inl (eI E, 3, .inl r)
  | 36 => .inl (eI E, 3, .inl r)
  | 37 => .inl (eI E, 3, .inl r)
  | 38 => .inl (eI E, 3, .inl r)
  | 39 => .inl (eI E, 3, .inl r)
  | 40 => .inl (eI E, 3, .inl r)
  | 41 => .inl (eI E, 3, .inl r)
  | 42 => .inl (eI E, 3, .inl r)
  | 43 => .inl (eI E, 3, .inl r)
  | 44 => .inl (eI E, 3, .inl r)
  | _ => .inl (eI E, 256, .inl r)
abbrev RS : Type := (Nat → Nat → Int32) × Int64
abbrev sR (x : RS) (o k : Nat) (v : Int32) : RS := (va_up x.1 o (va_up (x.1 o) k v), x.2)
abbrev sM (x : RS) (v : Int64) : RS := (x.1, v)
def rw_ (E : eE) (rr : Nat) (x : RS) (H : Heap) : Prop := ∀ o, o < 46 → va_at (eD E) vwCl (rr + o, shR E rr x.2 o (x.1 o)) H
def rA (rr : Nat) : Nat → Prop := fun q => rr ≤ q ∧ q < rr + 46
theorem rA_o {rr o : Nat} (ho : o < 46) : rA rr (rr + o) := ⟨by omega, by omega⟩
section RW
variable {E : eE} {rr o k : Nat} {x : RS} {H H1 : Heap}
theorem rw_at (h : rw_ E rr x H) (ho : o < 46) : va_at (eD E) vwCl (rr + o, shR E rr x.2 o (x.1 o)) H := h o ho
theorem rw_s (h : rw_ E rr x H) (ho : o < 46) {v : Int32} (hat : va_at (eD E) vwCl (rr + o, shR E rr x.2 o (va_up (x.1 o) k v)) H1) (hne : ∀ q : Nat, q ≠ rr + o → H1[q]? = H[q]?) : rw_ E rr (sR x o k v) H1 := by
  intro o' ho'
  by_cases hq : o' = o
  · subst hq
    show va_at (eD E) vwCl (rr + o', shR E rr x.2 o' (va_up x.1 o' (va_up (x.1 o') k v) o')) H1
    rw [va_up_self]; exact hat
  · show va_at (eD E) vwCl (rr + o', shR E rr x.2 o' (va_up x.1 o (va_up (x.1 o) k v) o')) H1
    rw [va_up_ne _ _ hq]; exact (h o' ho').kept (hne _ (by dsimp only; omega))
theorem shR_lk {lk lk' : Int64} {r : Nat → Int32} (h0 : o ≠ 0) (ho : o < 46) : shR E rr lk o r = shR E rr lk' o r := by
  rcases (show o = 1 ∨ o = 2 ∨ o = 3 ∨ o = 4 ∨ o = 5 ∨ o = 6 ∨ o = 7 ∨ o = 8 ∨ o = 9 ∨ o = 10 ∨ o = 11 ∨ o = 12 ∨ o = 13 ∨ o = 14 ∨ o = 15 ∨ o = 16 ∨ o = 17 ∨ o = 18 ∨ o = 19 ∨ o = 20 ∨ o = 21 ∨ o = 22 ∨ o = 23 ∨ o = 24 ∨ o = 25 ∨ o = 26 ∨ o = 27 ∨ o = 28 ∨ o = 29 ∨ o = 30 ∨ o = 31 ∨ o = 32 ∨ o = 33 ∨ o = 34 ∨ o = 35 ∨ o = 36 ∨ o = 37 ∨ o = 38 ∨ o = 39 ∨ o = 40 ∨ o = 41 ∨ o = 42 ∨ o = 43 ∨ o = 44 ∨ o = 45 by omega) with rfl | rfl | rfl | rfl | rfl | rfl | rfl | rfl | rfl | rfl | rfl | rfl | rfl | rfl | rfl | rfl | rfl | rfl | rfl | rfl | rfl | rfl | rfl | rfl | rfl | rfl | rfl | rfl | rfl | rfl | rfl | rfl | rfl | rfl | rfl | rfl | rfl | rfl | rfl | rfl | rfl | rfl | rfl | rfl | rfl <;> rfl
theorem rw_sM (h : rw_ E rr x H) {v : Int64} (hat : va_at (eD E) vwCl (rr + 0, shR E rr v 0 (x.1 0)) H1) (hne : ∀ q : Nat, q ≠ rr + 0 → H1[q]? = H[q]?) : rw_ E rr (sM x v) H1 := by
  intro o' ho'
  by_cases hq : o' = 0
  · subst hq; exact hat
  · show va_at (eD E) vwCl (rr + o', shR E rr v o' (x.1 o')) H1
    rw [shR_lk (lk' := x.2) hq ho']
    exact (h o' ho').kept (hne _ (by dsimp only; omega))
end RW

section RC
variable {E : eE} {rr k : Nat} {x : RS} {H H1 : Heap}
theorem rwc_0 (h : rw_ E rr x H) : va_at (eD E) vwCl (rr + 0, .inr (11, [.int (x.1 0 0), .ref (rr + 1), .ref (rr + 2), .ref (rr + 3), .ref (rr + 4), .ref (rr + 5), .ref (rr + 6), .ref (rr + 7), .ref (rr + 8), .ref (rr + 9), .ref (rr + 10), .ref (rr + 11), .ref (rr + 12), .ref (rr + 13), .ref (rr + 14), .ref (rr + 15), .ref (rr + 16), .ref (rr + 17), .ref (rr + 18), .ref (rr + 19), .ref (rr + 20), .ref (rr + 21), .ref (rr + 22), .ref (rr + 23), .ref (rr + 24), .ref (rr + 25), .ref (rr + 26), .ref (rr + 27), .ref (rr + 28), .ref (rr + 29), .ref (rr + 30), .ref (rr + 31), .ref (rr + 32), .ref (rr + 33), .ref (rr + 34), .ref (rr + 35), .ref (rr + 36), .ref (rr + 37), .ref (rr + 38), .ref (rr + 39), .ref (rr + 40), .ref (rr + 41), .ref (rr + 42), .ref (rr + 43), .ref (rr + 44), .int (x.1 0 45), .int (x.1 0 46), .int (x.1 0 47), .int (x.1 0 48), .int (x.1 0 49), .int (x.1 0 50), .ref (rr + 45), .long x.2])) H := h 0 (by decide)
theorem rwc_1 (h : rw_ E rr x H) : va_at (eD E) vwCl (rr + 1, .inl (eZ E, 16, .inl (x.1 1))) H := h 1 (by decide)
theorem rws_1 (h : rw_ E rr x H) {v : Int32} (hat : va_at (eD E) vwCl (rr + 1, .inl (eZ E, 16, .inl (va_up (x.1 1) k v))) H1) (hne : ∀ q : Nat, q ≠ rr + 1 → H1[q]? = H[q]?) : rw_ E rr (sR x 1 k v) H1 := rw_s (o := 1) h (by decide) hat hne
theorem rwc_2 (h : rw_ E rr x H) : va_at (eD E) vwCl (rr + 2, .inl (eI E, 16, .inl (x.1 2))) H := h 2 (by decide)
theorem rws_2 (h : rw_ E rr x H) {v : Int32} (hat : va_at (eD E) vwCl (rr + 2, .inl (eI E, 16, .inl (va_up (x.1 2) k v))) H1) (hne : ∀ q : Nat, q ≠ rr + 2 → H1[q]? = H[q]?) : rw_ E rr (sR x 2 k v) H1 := rw_s (o := 2) h (by decide) hat hne
theorem rwc_3 (h : rw_ E rr x H) : va_at (eD E) vwCl (rr + 3, .inl (eI E, 16, .inl (x.1 3))) H := h 3 (by decide)
theorem rws_3 (h : rw_ E rr x H) {v : Int32} (hat : va_at (eD E) vwCl (rr + 3, .inl (eI E, 16, .inl (va_up (x.1 3) k v))) H1) (hne : ∀ q : Nat, q ≠ rr + 3 → H1[q]? = H[q]?) : rw_ E rr (sR x 3 k v) H1 := rw_s (o := 3) h (by decide) hat hne
theorem rwc_4 (h : rw_ E rr x H) : va_at (eD E) vwCl (rr + 4, .inl (eI E, 16, .inl (x.1 4))) H := h 4 (by decide)
theorem rws_4 (h : rw_ E rr x H) {v : Int32} (hat : va_at (eD E) vwCl (rr + 4, .inl (eI E, 16, .inl (va_up (x.1 4) k v))) H1) (hne : ∀ q : Nat, q ≠ rr + 4 → H1[q]? = H[q]?) : rw_ E rr (sR x 4 k v) H1 := rw_s (o := 4) h (by decide) hat hne
theorem rwc_5 (h : rw_ E rr x H) : va_at (eD E) vwCl (rr + 5, .inl (eI E, 16, .inl (x.1 5))) H := h 5 (by decide)
theorem rws_5 (h : rw_ E rr x H) {v : Int32} (hat : va_at (eD E) vwCl (rr + 5, .inl (eI E, 16, .inl (va_up (x.1 5) k v))) H1) (hne : ∀ q : Nat, q ≠ rr + 5 → H1[q]? = H[q]?) : rw_ E rr (sR x 5 k v) H1 := rw_s (o := 5) h (by decide) hat hne
theorem rwc_6 (h : rw_ E rr x H) : va_at (eD E) vwCl (rr + 6, .inl (eI E, 16, .inl (x.1 6))) H := h 6 (by decide)
theorem rws_6 (h : rw_ E rr x H) {v : Int32} (hat : va_at (eD E) vwCl (rr + 6, .inl (eI E, 16, .inl (va_up (x.1 6) k v))) H1) (hne : ∀ q : Nat, q ≠ rr + 6 → H1[q]? = H[q]?) : rw_ E rr (sR x 6 k v) H1 := rw_s (o := 6) h (by decide) hat hne
theorem rwc_7 (h : rw_ E rr x H) : va_at (eD E) vwCl (rr + 7, .inl (eI E, 16, .inl (x.1 7))) H := h 7 (by decide)
theorem rws_7 (h : rw_ E rr x H) {v : Int32} (hat : va_at (eD E) vwCl (rr + 7, .inl (eI E, 16, .inl (va_up (x.1 7) k v))) H1) (hne : ∀ q : Nat, q ≠ rr + 7 → H1[q]? = H[q]?) : rw_ E rr (sR x 7 k v) H1 := rw_s (o := 7) h (by decide) hat hne
theorem rwc_8 (h : rw_ E rr x H) : va_at (eD E) vwCl (rr + 8, .inl (eI E, 16, .inl (x.1 8))) H := h 8 (by decide)
theorem rws_8 (h : rw_ E rr x H) {v : Int32} (hat : va_at (eD E) vwCl (rr + 8, .inl (eI E, 16, .inl (va_up (x.1 8) k v))) H1) (hne : ∀ q : Nat, q ≠ rr + 8 → H1[q]? = H[q]?) : rw_ E rr (sR x 8 k v) H1 := rw_s (o := 8) h (by decide) hat hne
theorem rwc_9 (h : rw_ E rr x H) : va_at (eD E) vwCl (rr + 9, .inl (eI E, 16, .inl (x.1 9))) H := h 9 (by decide)
theorem rws_9 (h : rw_ E rr x H) {v : Int32} (hat : va_at (eD E) vwCl (rr + 9, .inl (eI E, 16, .inl (va_up (x.1 9) k v))) H1) (hne : ∀ q : Nat, q ≠ rr + 9 → H1[q]? = H[q]?) : rw_ E rr (sR x 9 k v) H1 := rw_s (o := 9) h (by decide) hat hne
theorem rwc_10 (h : rw_ E rr x H) : va_at (eD E) vwCl (rr + 10, .inl (eI E, 16, .inl (x.1 10))) H := h 10 (by decide)
theorem rws_10 (h : rw_ E rr x H) {v : Int32} (hat : va_at (eD E) vwCl (rr + 10, .inl (eI E, 16, .inl (va_up (x.1 10) k v))) H1) (hne : ∀ q : Nat, q ≠ rr + 10 → H1[q]? = H[q]?) : rw_ E rr (sR x 10 k v) H1 := rw_s (o := 10) h (by decide) hat hne
theorem rwc_11 (h : rw_ E rr x H) : va_at (eD E) vwCl (rr + 11, .inl (eI E, 16, .inl (x.1 11))) H := h 11 (by decide)
theorem rws_11 (h : rw_ E rr x H) {v : Int32} (hat : va_at (eD E) vwCl (rr + 11, .inl (eI E, 16, .inl (va_up (x.1 11) k v))) H1) (hne : ∀ q : Nat, q ≠ rr + 11 → H1[q]? = H[q]?) : rw_ E rr (sR x 11 k v) H1 := rw_s (o := 11) h (by decide) hat hne
theorem rwc_12 (h : rw_ E rr x H) : va_at (eD E) vwCl (rr + 12, .inl (eI E, 16, .inl (x.1 12))) H := h 12 (by decide)
theorem rws_12 (h : rw_ E rr x H) {v : Int32} (hat : va_at (eD E) vwCl (rr + 12, .inl (eI E, 16, .inl (va_up (x.1 12) k v))) H1) (hne : ∀ q : Nat, q ≠ rr + 12 → H1[q]? = H[q]?) : rw_ E rr (sR x 12 k v) H1 := rw_s (o := 12) h (by decide) hat hne
theorem rwc_13 (h : rw_ E rr x H) : va_at (eD E) vwCl (rr + 13, .inl (eI E, 3, .inl (x.1 13))) H := h 13 (by decide)
theorem rws_13 (h : rw_ E rr x H) {v : Int32} (hat : va_at (eD E) vwCl (rr + 13, .inl (eI E, 3, .inl (va_up (x.1 13) k v))) H1) (hne : ∀ q : Nat, q ≠ rr + 13 → H1[q]? = H[q]?) : rw_ E rr (sR x 13 k v) H1 := rw_s (o := 13) h (by decide) hat hne
theorem rwc_14 (h : rw_ E rr x H) : va_at (eD E) vwCl (rr + 14, .inl (eI E, 3, .inl (x.1 14))) H := h 14 (by decide)
theorem rws_14 (h : rw_ E rr x H) {v : Int32} (hat : va_at (eD E) vwCl (rr + 14, .inl (eI E, 3, .inl (va_up (x.1 14) k v))) H1) (hne : ∀ q : Nat, q ≠ rr + 14 → H1[q]? = H[q]?) : rw_ E rr (sR x 14 k v) H1 := rw_s (o := 14) h (by decide) hat hne
theorem rwc_15 (h : rw_ E rr x H) : va_at (eD E) vwCl (rr + 15, .inl (eI E, 3, .inl (x.1 15))) H := h 15 (by decide)
theorem rws_15 (h : rw_ E rr x H) {v : Int32} (hat : va_at (eD E) vwCl (rr + 15, .inl (eI E, 3, .inl (va_up (x.1 15) k v))) H1) (hne : ∀ q : Nat, q ≠ rr + 15 → H1[q]? = H[q]?) : rw_ E rr (sR x 15 k v) H1 := rw_s (o := 15) h (by decide) hat hne
theorem rwc_16 (h : rw_ E rr x H) : va_at (eD E) vwCl (rr + 16, .inl (eI E, 3, .inl (x.1 16))) H := h 16 (by decide)
theorem rws_16 (h : rw_ E rr x H) {v : Int32} (hat : va_at (eD E) vwCl (rr + 16, .inl (eI E, 3, .inl (va_up (x.1 16) k v))) H1) (hne : ∀ q : Nat, q ≠ rr + 16 → H1[q]? = H[q]?) : rw_ E rr (sR x 16 k v) H1 := rw_s (o := 16) h (by decide) hat hne
theorem rwc_17 (h : rw_ E rr x H) : va_at (eD E) vwCl (rr + 17, .inl (eI E, 3, .inl (x.1 17))) H := h 17 (by decide)
theorem rws_17 (h : rw_ E rr x H) {v : Int32} (hat : va_at (eD E) vwCl (rr + 17, .inl (eI E, 3, .inl (va_up (x.1 17) k v))) H1) (hne : ∀ q : Nat, q ≠ rr + 17 → H1[q]? = H[q]?) : rw_ E rr (sR x 17 k v) H1 := rw_s (o := 17) h (by decide) hat hne
theorem rwc_18 (h : rw_ E rr x H) : va_at (eD E) vwCl (rr + 18, .inl (eI E, 3, .inl (x.1 18))) H := h 18 (by decide)
theorem rws_18 (h : rw_ E rr x H) {v : Int32} (hat : va_at (eD E) vwCl (rr + 18, .inl (eI E, 3, .inl (va_up (x.1 18) k v))) H1) (hne : ∀ q : Nat, q ≠ rr + 18 → H1[q]? = H[q]?) : rw_ E rr (sR x 18 k v) H1 := rw_s (o := 18) h (by decide) hat hne
theorem rwc_19 (h : rw_ E rr x H) : va_at (eD E) vwCl (rr + 19, .inl (eI E, 3, .inl (x.1 19))) H := h 19 (by decide)
theorem rws_19 (h : rw_ E rr x H) {v : Int32} (hat : va_at (eD E) vwCl (rr + 19, .inl (eI E, 3, .inl (va_up (x.1 19) k v))) H1) (hne : ∀ q : Nat, q ≠ rr + 19 → H1[q]? = H[q]?) : rw_ E rr (sR x 19 k v) H1 := rw_s (o := 19) h (by decide) hat hne
theorem rwc_20 (h : rw_ E rr x H) : va_at (eD E) vwCl (rr + 20, .inl (eI E, 3, .inl (x.1 20))) H := h 20 (by decide)
theorem rws_20 (h : rw_ E rr x H) {v : Int32} (hat : va_at (eD E) vwCl (rr + 20, .inl (eI E, 3, .inl (va_up (x.1 20) k v))) H1) (hne : ∀ q : Nat, q ≠ rr + 20 → H1[q]? = H[q]?) : rw_ E rr (sR x 20 k v) H1 := rw_s (o := 20) h (by decide) hat hne
theorem rwc_21 (h : rw_ E rr x H) : va_at (eD E) vwCl (rr + 21, .inl (eI E, 3, .inl (x.1 21))) H := h 21 (by decide)
theorem rws_21 (h : rw_ E rr x H) {v : Int32} (hat : va_at (eD E) vwCl (rr + 21, .inl (eI E, 3, .inl (va_up (x.1 21) k v))) H1) (hne : ∀ q : Nat, q ≠ rr + 21 → H1[q]? = H[q]?) : rw_ E rr (sR x 21 k v) H1 := rw_s (o := 21) h (by decide) hat hne
theorem rwc_22 (h : rw_ E rr x H) : va_at (eD E) vwCl (rr + 22, .inl (eI E, 3, .inl (x.1 22))) H := h 22 (by decide)
theorem rws_22 (h : rw_ E rr x H) {v : Int32} (hat : va_at (eD E) vwCl (rr + 22, .inl (eI E, 3, .inl (va_up (x.1 22) k v))) H1) (hne : ∀ q : Nat, q ≠ rr + 22 → H1[q]? = H[q]?) : rw_ E rr (sR x 22 k v) H1 := rw_s (o := 22) h (by decide) hat hne
theorem rwc_23 (h : rw_ E rr x H) : va_at (eD E) vwCl (rr + 23, .inl (eZ E, 3, .inl (x.1 23))) H := h 23 (by decide)
theorem rws_23 (h : rw_ E rr x H) {v : Int32} (hat : va_at (eD E) vwCl (rr + 23, .inl (eZ E, 3, .inl (va_up (x.1 23) k v))) H1) (hne : ∀ q : Nat, q ≠ rr + 23 → H1[q]? = H[q]?) : rw_ E rr (sR x 23 k v) H1 := rw_s (o := 23) h (by decide) hat hne
theorem rwc_24 (h : rw_ E rr x H) : va_at (eD E) vwCl (rr + 24, .inl (eZ E, 3, .inl (x.1 24))) H := h 24 (by decide)
theorem rws_24 (h : rw_ E rr x H) {v : Int32} (hat : va_at (eD E) vwCl (rr + 24, .inl (eZ E, 3, .inl (va_up (x.1 24) k v))) H1) (hne : ∀ q : Nat, q ≠ rr + 24 → H1[q]? = H[q]?) : rw_ E rr (sR x 24 k v) H1 := rw_s (o := 24) h (by decide) hat hne
theorem rwc_25 (h : rw_ E rr x H) : va_at (eD E) vwCl (rr + 25, .inl (eI E, 3, .inl (x.1 25))) H := h 25 (by decide)
theorem rws_25 (h : rw_ E rr x H) {v : Int32} (hat : va_at (eD E) vwCl (rr + 25, .inl (eI E, 3, .inl (va_up (x.1 25) k v))) H1) (hne : ∀ q : Nat, q ≠ rr + 25 → H1[q]? = H[q]?) : rw_ E rr (sR x 25 k v) H1 := rw_s (o := 25) h (by decide) hat hne
theorem rwc_26 (h : rw_ E rr x H) : va_at (eD E) vwCl (rr + 26, .inl (eI E, 3, .inl (x.1 26))) H := h 26 (by decide)
theorem rws_26 (h : rw_ E rr x H) {v : Int32} (hat : va_at (eD E) vwCl (rr + 26, .inl (eI E, 3, .inl (va_up (x.1 26) k v))) H1) (hne : ∀ q : Nat, q ≠ rr + 26 → H1[q]? = H[q]?) : rw_ E rr (sR x 26 k v) H1 := rw_s (o := 26) h (by decide) hat hne
theorem rwc_27 (h : rw_ E rr x H) : va_at (eD E) vwCl (rr + 27, .inl (eI E, 3, .inl (x.1 27))) H := h 27 (by decide)
theorem rws_27 (h : rw_ E rr x H) {v : Int32} (hat : va_at (eD E) vwCl (rr + 27, .inl (eI E, 3, .inl (va_up (x.1 27) k v))) H1) (hne : ∀ q : Nat, q ≠ rr + 27 → H1[q]? = H[q]?) : rw_ E rr (sR x 27 k v) H1 := rw_s (o := 27) h (by decide) hat hne
theorem rwc_28 (h : rw_ E rr x H) : va_at (eD E) vwCl (rr + 28, .inl (eI E, 3, .inl (x.1 28))) H := h 28 (by decide)
theorem rws_28 (h : rw_ E rr x H) {v : Int32} (hat : va_at (eD E) vwCl (rr + 28, .inl (eI E, 3, .inl (va_up (x.1 28) k v))) H1) (hne : ∀ q : Nat, q ≠ rr + 28 → H1[q]? = H[q]?) : rw_ E rr (sR x 28 k v) H1 := rw_s (o := 28) h (by decide) hat hne
theorem rwc_29 (h : rw_ E rr x H) : va_at (eD E) vwCl (rr + 29, .inl (eZ E, 3, .inl (x.1 29))) H := h 29 (by decide)
theorem rws_29 (h : rw_ E rr x H) {v : Int32} (hat : va_at (eD E) vwCl (rr + 29, .inl (eZ E, 3, .inl (va_up (x.1 29) k v))) H1) (hne : ∀ q : Nat, q ≠ rr + 29 → H1[q]? = H[q]?) : rw_ E rr (sR x 29 k v) H1 := rw_s (o := 29) h (by decide) hat hne
theorem rwc_30 (h : rw_ E rr x H) : va_at (eD E) vwCl (rr + 30, .inl (eZ E, 3, .inl (x.1 30))) H := h 30 (by decide)
theorem rws_30 (h : rw_ E rr x H) {v : Int32} (hat : va_at (eD E) vwCl (rr + 30, .inl (eZ E, 3, .inl (va_up (x.1 30) k v))) H1) (hne : ∀ q : Nat, q ≠ rr + 30 → H1[q]? = H[q]?) : rw_ E rr (sR x 30 k v) H1 := rw_s (o := 30) h (by decide) hat hne
theorem rwc_31 (h : rw_ E rr x H) : va_at (eD E) vwCl (rr + 31, .inl (eI E, 3, .inl (x.1 31))) H := h 31 (by decide)
theorem rws_31 (h : rw_ E rr x H) {v : Int32} (hat : va_at (eD E) vwCl (rr + 31, .inl (eI E, 3, .inl (va_up (x.1 31) k v))) H1) (hne : ∀ q : Nat, q ≠ rr + 31 → H1[q]? = H[q]?) : rw_ E rr (sR x 31 k v) H1 := rw_s (o := 31) h (by decide) hat hne
theorem rwc_32 (h : rw_ E rr x H) : va_at (eD E) vwCl (rr + 32, .inl (eI E, 10800, .inl (x.1 32))) H := h 32 (by decide)
theorem rws_32 (h : rw_ E rr x H) {v : Int32} (hat : va_at (eD E) vwCl (rr + 32, .inl (eI E, 10800, .inl (va_up (x.1 32) k v))) H1) (hne : ∀ q : Nat, q ≠ rr + 32 → H1[q]? = H[q]?) : rw_ E rr (sR x 32 k v) H1 := rw_s (o := 32) h (by decide) hat hne
theorem rwc_33 (h : rw_ E rr x H) : va_at (eD E) vwCl (rr + 33, .inl (eI E, 10800, .inl (x.1 33))) H := h 33 (by decide)
theorem rws_33 (h : rw_ E rr x H) {v : Int32} (hat : va_at (eD E) vwCl (rr + 33, .inl (eI E, 10800, .inl (va_up (x.1 33) k v))) H1) (hne : ∀ q : Nat, q ≠ rr + 33 → H1[q]? = H[q]?) : rw_ E rr (sR x 33 k v) H1 := rw_s (o := 33) h (by decide) hat hne
theorem rwc_34 (h : rw_ E rr x H) : va_at (eD E) vwCl (rr + 34, .inl (eI E, 2700, .inl (x.1 34))) H := h 34 (by decide)
theorem rws_34 (h : rw_ E rr x H) {v : Int32} (hat : va_at (eD E) vwCl (rr + 34, .inl (eI E, 2700, .inl (va_up (x.1 34) k v))) H1) (hne : ∀ q : Nat, q ≠ rr + 34 → H1[q]? = H[q]?) : rw_ E rr (sR x 34 k v) H1 := rw_s (o := 34) h (by decide) hat hne
theorem rwc_35 (h : rw_ E rr x H) : va_at (eD E) vwCl (rr + 35, .inl (eI E, 3, .inl (x.1 35))) H := h 35 (by decide)
theorem rws_35 (h : rw_ E rr x H) {v : Int32} (hat : va_at (eD E) vwCl (rr + 35, .inl (eI E, 3, .inl (va_up (x.1 35) k v))) H1) (hne : ∀ q : Nat, q ≠ rr + 35 → H1[q]? = H[q]?) : rw_ E rr (sR x 35 k v) H1 := rw_s (o := 35) h (by decide) hat hne
theorem rwc_36 (h : rw_ E rr x H) : va_at (eD E) vwCl (rr + 36, .inl (eI E, 3, .inl (x.1 36))) H := h 36 (by decide)
theorem rws_36 (h : rw_ E rr x H) {v : Int32} (hat : va_at (eD E) vwCl (rr + 36, .inl (eI E, 3, .inl (va_up (x.1 36) k v))) H1) (hne : ∀ q : Nat, q ≠ rr + 36 → H1[q]? = H[q]?) : rw_ E rr (sR x 36 k v) H1 := rw_s (o := 36) h (by decide) hat hne
theorem rwc_37 (h : rw_ E rr x H) : va_at (eD E) vwCl (rr + 37, .inl (eI E, 3, .inl (x.1 37))) H := h 37 (by decide)
theorem rws_37 (h : rw_ E rr x H) {v : Int32} (hat : va_at (eD E) vwCl (rr + 37, .inl (eI E, 3, .inl (va_up (x.1 37) k v))) H1) (hne : ∀ q : Nat, q ≠ rr + 37 → H1[q]? = H[q]?) : rw_ E rr (sR x 37 k v) H1 := rw_s (o := 37) h (by decide) hat hne
theorem rwc_38 (h : rw_ E rr x H) : va_at (eD E) vwCl (rr + 38, .inl (eI E, 3, .inl (x.1 38))) H := h 38 (by decide)
theorem rws_38 (h : rw_ E rr x H) {v : Int32} (hat : va_at (eD E) vwCl (rr + 38, .inl (eI E, 3, .inl (va_up (x.1 38) k v))) H1) (hne : ∀ q : Nat, q ≠ rr + 38 → H1[q]? = H[q]?) : rw_ E rr (sR x 38 k v) H1 := rw_s (o := 38) h (by decide) hat hne
theorem rwc_39 (h : rw_ E rr x H) : va_at (eD E) vwCl (rr + 39, .inl (eI E, 3, .inl (x.1 39))) H := h 39 (by decide)
theorem rws_39 (h : rw_ E rr x H) {v : Int32} (hat : va_at (eD E) vwCl (rr + 39, .inl (eI E, 3, .inl (va_up (x.1 39) k v))) H1) (hne : ∀ q : Nat, q ≠ rr + 39 → H1[q]? = H[q]?) : rw_ E rr (sR x 39 k v) H1 := rw_s (o := 39) h (by decide) hat hne
theorem rwc_40 (h : rw_ E rr x H) : va_at (eD E) vwCl (rr + 40, .inl (eI E, 3, .inl (x.1 40))) H := h 40 (by decide)
theorem rws_40 (h : rw_ E rr x H) {v : Int32} (hat : va_at (eD E) vwCl (rr + 40, .inl (eI E, 3, .inl (va_up (x.1 40) k v))) H1) (hne : ∀ q : Nat, q ≠ rr + 40 → H1[q]? = H[q]?) : rw_ E rr (sR x 40 k v) H1 := rw_s (o := 40) h (by decide) hat hne
theorem rwc_41 (h : rw_ E rr x H) : va_at (eD E) vwCl (rr + 41, .inl (eI E, 3, .inl (x.1 41))) H := h 41 (by decide)
theorem rws_41 (h : rw_ E rr x H) {v : Int32} (hat : va_at (eD E) vwCl (rr + 41, .inl (eI E, 3, .inl (va_up (x.1 41) k v))) H1) (hne : ∀ q : Nat, q ≠ rr + 41 → H1[q]? = H[q]?) : rw_ E rr (sR x 41 k v) H1 := rw_s (o := 41) h (by decide) hat hne
theorem rwc_42 (h : rw_ E rr x H) : va_at (eD E) vwCl (rr + 42, .inl (eI E, 3, .inl (x.1 42))) H := h 42 (by decide)
theorem rws_42 (h : rw_ E rr x H) {v : Int32} (hat : va_at (eD E) vwCl (rr + 42, .inl (eI E, 3, .inl (va_up (x.1 42) k v))) H1) (hne : ∀ q : Nat, q ≠ rr + 42 → H1[q]? = H[q]?) : rw_ E rr (sR x 42 k v) H1 := rw_s (o := 42) h (by decide) hat hne
theorem rwc_43 (h : rw_ E rr x H) : va_at (eD E) vwCl (rr + 43, .inl (eI E, 3, .inl (x.1 43))) H := h 43 (by decide)
theorem rws_43 (h : rw_ E rr x H) {v : Int32} (hat : va_at (eD E) vwCl (rr + 43, .inl (eI E, 3, .inl (va_up (x.1 43) k v))) H1) (hne : ∀ q : Nat, q ≠ rr + 43 → H1[q]? = H[q]?) : rw_ E rr (sR x 43 k v) H1 := rw_s (o := 43) h (by decide) hat hne
theorem rwc_44 (h : rw_ E rr x H) : va_at (eD E) vwCl (rr + 44, .inl (eI E, 3, .inl (x.1 44))) H := h 44 (by decide)
theorem rws_44 (h : rw_ E rr x H) {v : Int32} (hat : va_at (eD E) vwCl (rr + 44, .inl (eI E, 3, .inl (va_up (x.1 44) k v))) H1) (hne : ∀ q : Nat, q ≠ rr + 44 → H1[q]? = H[q]?) : rw_ E rr (sR x 44 k v) H1 := rw_s (o := 44) h (by decide) hat hne
theorem rwc_45 (h : rw_ E rr x H) : va_at (eD E) vwCl (rr + 45, .inl (eI E, 256, .inl (x.1 45))) H := h 45 (by decide)
theorem rws_45 (h : rw_ E rr x H) {v : Int32} (hat : va_at (eD E) vwCl (rr + 45, .inl (eI E, 256, .inl (va_up (x.1 45) k v))) H1) (hne : ∀ q : Nat, q ≠ rr + 45 → H1[q]? = H[q]?) : rw_ E rr (sR x 45 k v) H1 := rw_s (o := 45) h (by decide) hat hne
theorem rwf_0 (h : rw_ E rr x H) {v : Int32} (hat : va_at (eD E) vwCl (rr + 0, .inr (11, [.int v, .ref (rr + 1), .ref (rr + 2), .ref (rr + 3), .ref (rr + 4), .ref (rr + 5), .ref (rr + 6), .ref (rr + 7), .ref (rr + 8), .ref (rr + 9), .ref (rr + 10), .ref (rr + 11), .ref (rr + 12), .ref (rr + 13), .ref (rr + 14), .ref (rr + 15), .ref (rr + 16), .ref (rr + 17), .ref (rr + 18), .ref (rr + 19), .ref (rr + 20), .ref (rr + 21), .ref (rr + 22), .ref (rr + 23), .ref (rr + 24), .ref (rr + 25), .ref (rr + 26), .ref (rr + 27), .ref (rr + 28), .ref (rr + 29), .ref (rr + 30), .ref (rr + 31), .ref (rr + 32), .ref (rr + 33), .ref (rr + 34), .ref (rr + 35), .ref (rr + 36), .ref (rr + 37), .ref (rr + 38), .ref (rr + 39), .ref (rr + 40), .ref (rr + 41), .ref (rr + 42), .ref (rr + 43), .ref (rr + 44), .int (x.1 0 45), .int (x.1 0 46), .int (x.1 0 47), .int (x.1 0 48), .int (x.1 0 49), .int (x.1 0 50), .ref (rr + 45), .long x.2])) H1) (hne : ∀ q : Nat, q ≠ rr + 0 → H1[q]? = H[q]?) : rw_ E rr (sR x 0 0 v) H1 := rw_s (o := 0) h (by decide) hat hne
theorem rwf_45 (h : rw_ E rr x H) {v : Int32} (hat : va_at (eD E) vwCl (rr + 0, .inr (11, [.int (x.1 0 0), .ref (rr + 1), .ref (rr + 2), .ref (rr + 3), .ref (rr + 4), .ref (rr + 5), .ref (rr + 6), .ref (rr + 7), .ref (rr + 8), .ref (rr + 9), .ref (rr + 10), .ref (rr + 11), .ref (rr + 12), .ref (rr + 13), .ref (rr + 14), .ref (rr + 15), .ref (rr + 16), .ref (rr + 17), .ref (rr + 18), .ref (rr + 19), .ref (rr + 20), .ref (rr + 21), .ref (rr + 22), .ref (rr + 23), .ref (rr + 24), .ref (rr + 25), .ref (rr + 26), .ref (rr + 27), .ref (rr + 28), .ref (rr + 29), .ref (rr + 30), .ref (rr + 31), .ref (rr + 32), .ref (rr + 33), .ref (rr + 34), .ref (rr + 35), .ref (rr + 36), .ref (rr + 37), .ref (rr + 38), .ref (rr + 39), .ref (rr + 40), .ref (rr + 41), .ref (rr + 42), .ref (rr + 43), .ref (rr + 44), .int v, .int (x.1 0 46), .int (x.1 0 47), .int (x.1 0 48), .int (x.1 0 49), .int (x.1 0 50), .ref (rr + 45), .long x.2])) H1) (hne : ∀ q : Nat, q ≠ rr + 0 → H1[q]? = H[q]?) : rw_ E rr (sR x 0 45 v) H1 := rw_s (o := 0) h (by decide) hat hne
theorem rwf_46 (h : rw_ E rr x H) {v : Int32} (hat : va_at (eD E) vwCl (rr + 0, .inr (11, [.int (x.1 0 0), .ref (rr + 1), .ref (rr + 2), .ref (rr + 3), .ref (rr + 4), .ref (rr + 5), .ref (rr + 6), .ref (rr + 7), .ref (rr + 8), .ref (rr + 9), .ref (rr + 10), .ref (rr + 11), .ref (rr + 12), .ref (rr + 13), .ref (rr + 14), .ref (rr + 15), .ref (rr + 16), .ref (rr + 17), .ref (rr + 18), .ref (rr + 19), .ref (rr + 20), .ref (rr + 21), .ref (rr + 22), .ref (rr + 23), .ref (rr + 24), .ref (rr + 25), .ref (rr + 26), .ref (rr + 27), .ref (rr + 28), .ref (rr + 29), .ref (rr + 30), .ref (rr + 31), .ref (rr + 32), .ref (rr + 33), .ref (rr + 34), .ref (rr + 35), .ref (rr + 36), .ref (rr + 37), .ref (rr + 38), .ref (rr + 39), .ref (rr + 40), .ref (rr + 41), .ref (rr + 42), .ref (rr + 43), .ref (rr + 44), .int (x.1 0 45), .int v, .int (x.1 0 47), .int (x.1 0 48), .int (x.1 0 49), .int (x.1 0 50), .ref (rr + 45), .long x.2])) H1) (hne : ∀ q : Nat, q ≠ rr + 0 → H1[q]? = H[q]?) : rw_ E rr (sR x 0 46 v) H1 := rw_s (o := 0) h (by decide) hat hne
theorem rwf_47 (h : rw_ E rr x H) {v : Int32} (hat : va_at (eD E) vwCl (rr + 0, .inr (11, [.int (x.1 0 0), .ref (rr + 1), .ref (rr + 2), .ref (rr + 3), .ref (rr + 4), .ref (rr + 5), .ref (rr + 6), .ref (rr + 7), .ref (rr + 8), .ref (rr + 9), .ref (rr + 10), .ref (rr + 11), .ref (rr + 12), .ref (rr + 13), .ref (rr + 14), .ref (rr + 15), .ref (rr + 16), .ref (rr + 17), .ref (rr + 18), .ref (rr + 19), .ref (rr + 20), .ref (rr + 21), .ref (rr + 22), .ref (rr + 23), .ref (rr + 24), .ref (rr + 25), .ref (rr + 26), .ref (rr + 27), .ref (rr + 28), .ref (rr + 29), .ref (rr + 30), .ref (rr + 31), .ref (rr + 32), .ref (rr + 33), .ref (rr + 34), .ref (rr + 35), .ref (rr + 36), .ref (rr + 37), .ref (rr + 38), .ref (rr + 39), .ref (rr + 40), .ref (rr + 41), .ref (rr + 42), .ref (rr + 43), .ref (rr + 44), .int (x.1 0 45), .int (x.1 0 46), .int v, .int (x.1 0 48), .int (x.1 0 49), .int (x.1 0 50), .ref (rr + 45), .long x.2])) H1) (hne : ∀ q : Nat, q ≠ rr + 0 → H1[q]? = H[q]?) : rw_ E rr (sR x 0 47 v) H1 := rw_s (o := 0) h (by decide) hat hne
theorem rwf_48 (h : rw_ E rr x H) {v : Int32} (hat : va_at (eD E) vwCl (rr + 0, .inr (11, [.int (x.1 0 0), .ref (rr + 1), .ref (rr + 2), .ref (rr + 3), .ref (rr + 4), .ref (rr + 5), .ref (rr + 6), .ref (rr + 7), .ref (rr + 8), .ref (rr + 9), .ref (rr + 10), .ref (rr + 11), .ref (rr + 12), .ref (rr + 13), .ref (rr + 14), .ref (rr + 15), .ref (rr + 16), .ref (rr + 17), .ref (rr + 18), .ref (rr + 19), .ref (rr + 20), .ref (rr + 21), .ref (rr + 22), .ref (rr + 23), .ref (rr + 24), .ref (rr + 25), .ref (rr + 26), .ref (rr + 27), .ref (rr + 28), .ref (rr + 29), .ref (rr + 30), .ref (rr + 31), .ref (rr + 32), .ref (rr + 33), .ref (rr + 34), .ref (rr + 35), .ref (rr + 36), .ref (rr + 37), .ref (rr + 38), .ref (rr + 39), .ref (rr + 40), .ref (rr + 41), .ref (rr + 42), .ref (rr + 43), .ref (rr + 44), .int (x.1 0 45), .int (x.1 0 46), .int (x.1 0 47), .int v, .int (x.1 0 49), .int (x.1 0 50), .ref (rr + 45), .long x.2])) H1) (hne : ∀ q : Nat, q ≠ rr + 0 → H1[q]? = H[q]?) : rw_ E rr (sR x 0 48 v) H1 := rw_s (o := 0) h (by decide) hat hne
theorem rwf_49 (h : rw_ E rr x H) {v : Int32} (hat : va_at (eD E) vwCl (rr + 0, .inr (11, [.int (x.1 0 0), .ref (rr + 1), .ref (rr + 2), .ref (rr + 3), .ref (rr + 4), .ref (rr + 5), .ref (rr + 6), .ref (rr + 7), .ref (rr + 8), .ref (rr + 9), .ref (rr + 10), .ref (rr + 11), .ref (rr + 12), .ref (rr + 13), .ref (rr + 14), .ref (rr + 15), .ref (rr + 16), .ref (rr + 17), .ref (rr + 18), .ref (rr + 19), .ref (rr + 20), .ref (rr + 21), .ref (rr + 22), .ref (rr + 23), .ref (rr + 24), .ref (rr + 25), .ref (rr + 26), .ref (rr + 27), .ref (rr + 28), .ref (rr + 29), .ref (rr + 30), .ref (rr + 31), .ref (rr + 32), .ref (rr + 33), .ref (rr + 34), .ref (rr + 35), .ref (rr + 36), .ref (rr + 37), .ref (rr + 38), .ref (rr + 39), .ref (rr + 40), .ref (rr + 41), .ref (rr + 42), .ref (rr + 43), .ref (rr + 44), .int (x.1 0 45), .int (x.1 0 46), .int (x.1 0 47), .int (x.1 0 48), .int v, .int (x.1 0 50), .ref (rr + 45), .long x.2])) H1) (hne : ∀ q : Nat, q ≠ rr + 0 → H1[q]? = H[q]?) : rw_ E rr (sR x 0 49 v) H1 := rw_s (o := 0) h (by decide) hat hne
theorem rwf_50 (h : rw_ E rr x H) {v : Int32} (hat : va_at (eD E) vwCl (rr + 0, .inr (11, [.int (x.1 0 0), .ref (rr + 1), .ref (rr + 2), .ref (rr + 3), .ref (rr + 4), .ref (rr + 5), .ref (rr + 6), .ref (rr + 7), .ref (rr + 8), .ref (rr + 9), .ref (rr + 10), .ref (rr + 11), .ref (rr + 12), .ref (rr + 13), .ref (rr + 14), .ref (rr + 15), .ref (rr + 16), .ref (rr + 17), .ref (rr + 18), .ref (rr + 19), .ref (rr + 20), .ref (rr + 21), .ref (rr + 22), .ref (rr + 23), .ref (rr + 24), .ref (rr + 25), .ref (rr + 26), .ref (rr + 27), .ref (rr + 28), .ref (rr + 29), .ref (rr + 30), .ref (rr + 31), .ref (rr + 32), .ref (rr + 33), .ref (rr + 34), .ref (rr + 35), .ref (rr + 36), .ref (rr + 37), .ref (rr + 38), .ref (rr + 39), .ref (rr + 40), .ref (rr + 41), .ref (rr + 42), .ref (rr + 43), .ref (rr + 44), .int (x.1 0 45), .int (x.1 0 46), .int (x.1 0 47), .int (x.1 0 48), .int (x.1 0 49), .int v, .ref (rr + 45), .long x.2])) H1) (hne : ∀ q : Nat, q ≠ rr + 0 → H1[q]? = H[q]?) : rw_ E rr (sR x 0 50 v) H1 := rw_s (o := 0) h (by decide) hat hne
theorem rwf_52 (h : rw_ E rr x H) {v : Int64} (hat : va_at (eD E) vwCl (rr + 0, .inr (11, [.int (x.1 0 0), .ref (rr + 1), .ref (rr + 2), .ref (rr + 3), .ref (rr + 4), .ref (rr + 5), .ref (rr + 6), .ref (rr + 7), .ref (rr + 8), .ref (rr + 9), .ref (rr + 10), .ref (rr + 11), .ref (rr + 12), .ref (rr + 13), .ref (rr + 14), .ref (rr + 15), .ref (rr + 16), .ref (rr + 17), .ref (rr + 18), .ref (rr + 19), .ref (rr + 20), .ref (rr + 21), .ref (rr + 22), .ref (rr + 23), .ref (rr + 24), .ref (rr + 25), .ref (rr + 26), .ref (rr + 27), .ref (rr + 28), .ref (rr + 29), .ref (rr + 30), .ref (rr + 31), .ref (rr + 32), .ref (rr + 33), .ref (rr + 34), .ref (rr + 35), .ref (rr + 36), .ref (rr + 37), .ref (rr + 38), .ref (rr + 39), .ref (rr + 40), .ref (rr + 41), .ref (rr + 42), .ref (rr + 43), .ref (rr + 44), .int (x.1 0 45), .int (x.1 0 46), .int (x.1 0 47), .int (x.1 0 48), .int (x.1 0 49), .int (x.1 0 50), .ref (rr + 45), .long v])) H1) (hne : ∀ q : Nat, q ≠ rr + 0 → H1[q]? = H[q]?) : rw_ E rr (sM x v) H1 := rw_sM h hat hne
end RC
