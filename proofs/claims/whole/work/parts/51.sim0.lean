/-! THE SIMULATION: what the class's state and the reference's have in common -/
theorem tn {n : Nat} (hn : n < 3) : (nI n).toNatClampNeg = n := nI_clamp (by omega)
theorem vn {n : Nat} (hn : n < 3) : vp_in (nI n) 3 := vp_in_nI hn (by decide)
/-- silence: the same, or over in both -/
def sir (a b t : Int32) : Prop := a = b ∨ (a.toInt ≤ t.toInt ∧ b.toInt ≤ t.toInt)
abbrev G (x : FS) (y : RS) : Prop := x.1 0 3 = y.1 0 45 ∧ x.1 0 4 = y.1 0 46 ∧ x.1 0 5 = y.1 0 47 ∧ x.1 0 6 = y.1 0 48 ∧ sir (x.1 0 7) (y.1 0 49) (x.1 0 3) ∧ x.1 3 1 = y.1 0 50 ∧ x.1 4 = y.1 45 ∧ x.2.2 = y.2 ∧ (0 ≤ (x.1 0 3).toInt ∧ (x.1 0 3).toInt ≤ 400000)
theorem G.tm {x : FS} {y : RS} (h : G x y) : x.1 0 3 = y.1 0 45 := h.1
theorem G.cg {x : FS} {y : RS} (h : G x y) : x.1 0 4 = y.1 0 46 := h.2.1
theorem G.mn {x : FS} {y : RS} (h : G x y) : x.1 0 5 = y.1 0 47 := h.2.2.1
theorem G.cn {x : FS} {y : RS} (h : G x y) : x.1 0 6 = y.1 0 48 := h.2.2.2.1
theorem G.si {x : FS} {y : RS} (h : G x y) : sir (x.1 0 7) (y.1 0 49) (x.1 0 3) := h.2.2.2.2.1
theorem G.en {x : FS} {y : RS} (h : G x y) : x.1 3 1 = y.1 0 50 := h.2.2.2.2.2.1
theorem G.lg {x : FS} {y : RS} (h : G x y) : x.1 4 = y.1 45 := h.2.2.2.2.2.2.1
theorem G.ch {x : FS} {y : RS} (h : G x y) : x.2.2 = y.2 := h.2.2.2.2.2.2.2.1
theorem G.tb {x : FS} {y : RS} (h : G x y) : 0 ≤ (x.1 0 3).toInt ∧ (x.1 0 3).toInt ≤ 400000 := h.2.2.2.2.2.2.2.2
/-- a bolus: what the class has taken off ahead -/
def bor (b : Nat) (u w : Int32) : Prop := u.toInt + b = w.toInt ∧ 0 ≤ u.toInt ∧ w.toInt ≤ 5000
/-- the program's drug -/
def pdr (n : Nat) (z w r : Int32) : Prop := (z = nI (19 + n) ∧ w = -1 ∧ r = 0) ∨ (vp_in z 16 ∧ w = z)
/-- the latest bolus -/
def lar (l w t : Int32) : Prop := (l.toInt = -3600 ∧ w = -1) ∨ (l = w ∧ 0 ≤ w.toInt ∧ w.toInt ≤ t.toInt)
/-- what is typed: value, figures, behind, point; the reference's figures, digits, points -/
def tyr (v f b h F D P : Int32) : Prop := v = F ∧ f = D ∧ 0 ≤ v.toInt ∧ v.toInt < 10 ^ f.toInt.toNat ∧ ((h = 0 ∧ P = -1 ∧ b = 0 ∧ 0 ≤ f.toInt ∧ f.toInt ≤ 4) ∨ (h = 1 ∧ 1 ≤ P.toInt ∧ P.toInt ≤ 4 ∧ 0 ≤ b.toInt ∧ b.toInt ≤ 2 ∧ P.toInt + b.toInt = f.toInt))
/-- outside the phases that take a number nothing is typed -/
def tyc (ph f : Int32) : Prop := ¬ (1 ≤ ph.toInt ∧ ph.toInt ≤ 4) → f = 0
/-- the entry's drug -/
def edr (n : Nat) (ph z w : Int32) : Prop := (2 ≤ ph.toInt ∧ ph.toInt ≤ 5 → vp_in z 16 ∧ w = z) ∧ (¬ (2 ≤ ph.toInt ∧ ph.toInt ≤ 5) → z = nI (16 + n))
/-- running means no stopping alarm; phases, and where an entry came from -/
def rur (ph al fr : Int32) : Prop := (ph = 7 → al &&& 31 = 0) ∧ 0 ≤ ph.toInt ∧ ph.toInt ≤ 8 ∧ (fr = 0 ∨ fr = 6 ∨ fr = 8)
def nur (r d w : Int32) : Prop := (0 ≤ r.toInt ∧ r.toInt ≤ 9999) ∧ (0 ≤ d.toInt ∧ d.toInt < 360) ∧ 0 ≤ w.toInt ∧ w.toInt ≤ 3000
/-- the rate of an amount: kind, strength, amount, weight -/
def rof (k s a w : Int32) : Int64 := if k = 0 then a.toInt64 else ((((2 : Int64) * (((3 : Int64) * a.toInt64) * w.toInt64)) + ((5 : Int64) * (s.toInt64))) / ((2 : Int64) * ((5 : Int64) * (s.toInt64))))
def rer (ph k s a w : Int32) : Prop := 4 ≤ ph.toInt → ph.toInt ≤ 5 → 1 ≤ (rof k s a w).toInt ∧ (rof k s a w).toInt ≤ 9999
/-- a ring of times against counts by the time's remainder -/
def rgr (cap span : Nat) (o k : Int32) (t : Nat → Int32) (w : Int32) (r : Nat → Int32) (tm : Int32) : Prop := ∃ L : List Int, (0 ≤ o.toInt ∧ o.toInt < cap) ∧ k.toInt = L.length ∧ w.toInt = L.length ∧ L.length ≤ cap ∧ (∀ i, (hi : i < L.length) → (t ((o.toInt.toNat + i) % cap)).toInt = L[i]) ∧ L.Pairwise (· ≤ ·) ∧ (∀ u ∈ L, tm.toInt - span < u ∧ u ≤ tm.toInt) ∧ ∀ j, j < span → (r j).toInt = L.countP (fun u => u % span = (j : Int))
abbrev CH (b n : Nat) (c : Nat → Nat → Int32) (y : RS) (tm : Int32) : Prop := c 0 6 = y.1 13 n ∧ c 0 7 = y.1 28 n ∧ c 0 8 = y.1 31 n ∧ c 0 9 = y.1 29 n ∧ c 0 10 = y.1 30 n ∧ c 1 3 = y.1 14 n ∧ c 1 4 = y.1 39 n ∧ c 1 5 = y.1 40 n ∧ c 4 1 = y.1 16 n ∧ c 4 2 = y.1 17 n ∧ c 4 3 = y.1 18 n ∧ c 4 4 = y.1 19 n ∧ bor b (c 6 2) (y.1 20 n) ∧ c 9 1 = y.1 22 n ∧ c 9 2 = y.1 25 n ∧ c 9 3 = y.1 26 n ∧ c 9 4 = y.1 27 n ∧ c 9 5 = y.1 23 n ∧ c 9 6 = y.1 24 n ∧ c 12 2 = y.1 35 n ∧ (∀ j, j < 3600 → c 13 j = y.1 32 (3600 * n + j)) ∧ (c 12 1).toInt = tm.toInt % 3600 ∧ pdr n (c 4 0) (y.1 15 n) (c 4 1) ∧ lar (c 6 1) (y.1 21 n) tm ∧ tyr (c 2 0) (c 2 1) (c 2 2) (c 2 3) (y.1 41 n) (y.1 42 n) (y.1 43 n) ∧ tyc (c 0 6) (c 2 1) ∧ edr n (c 0 6) (c 1 2) (y.1 38 n) ∧ rur (c 0 6) (c 0 7) (c 1 3) ∧ nur (c 4 1) (c 4 4) (c 1 4) ∧ rer (c 0 6) (y.1 2 (c 1 2).toNatClampNeg) (y.1 3 (c 1 2).toNatClampNeg) (c 1 5) (c 1 4) ∧ rgr 20 3600 (c 7 2) (c 7 3) (c 8) (y.1 36 n) (fun j => y.1 33 (3600 * n + j)) tm ∧ rgr 60 900 (c 10 2) (c 10 3) (c 11) (y.1 37 n) (fun j => y.1 34 (900 * n + j)) tm
theorem CH.ph {b n : Nat} {c : Nat → Nat → Int32} {y : RS} {tm : Int32} (h : CH b n c y tm) : c 0 6 = y.1 13 n := h.1
theorem CH.al {b n : Nat} {c : Nat → Nat → Int32} {y : RS} {tm : Int32} (h : CH b n c y tm) : c 0 7 = y.1 28 n := h.2.1
theorem CH.st {b n : Nat} {c : Nat → Nat → Int32} {y : RS} {tm : Int32} (h : CH b n c y tm) : c 0 8 = y.1 31 n := h.2.2.1
theorem CH.wa {b n : Nat} {c : Nat → Nat → Int32} {y : RS} {tm : Int32} (h : CH b n c y tm) : c 0 9 = y.1 29 n := h.2.2.2.1
theorem CH.dn {b n : Nat} {c : Nat → Nat → Int32} {y : RS} {tm : Int32} (h : CH b n c y tm) : c 0 10 = y.1 30 n := h.2.2.2.2.1
theorem CH.cf {b n : Nat} {c : Nat → Nat → Int32} {y : RS} {tm : Int32} (h : CH b n c y tm) : c 1 3 = y.1 14 n := h.2.2.2.2.2.1
theorem CH.we {b n : Nat} {c : Nat → Nat → Int32} {y : RS} {tm : Int32} (h : CH b n c y tm) : c 1 4 = y.1 39 n := h.2.2.2.2.2.2.1
theorem CH.am {b n : Nat} {c : Nat → Nat → Int32} {y : RS} {tm : Int32} (h : CH b n c y tm) : c 1 5 = y.1 40 n := h.2.2.2.2.2.2.2.1
theorem CH.ra {b n : Nat} {c : Nat → Nat → Int32} {y : RS} {tm : Int32} (h : CH b n c y tm) : c 4 1 = y.1 16 n := h.2.2.2.2.2.2.2.2.1
theorem CH.le {b n : Nat} {c : Nat → Nat → Int32} {y : RS} {tm : Int32} (h : CH b n c y tm) : c 4 2 = y.1 17 n := h.2.2.2.2.2.2.2.2.2.1
theorem CH.ma {b n : Nat} {c : Nat → Nat → Int32} {y : RS} {tm : Int32} (h : CH b n c y tm) : c 4 3 = y.1 18 n := h.2.2.2.2.2.2.2.2.2.2.1
theorem CH.de {b n : Nat} {c : Nat → Nat → Int32} {y : RS} {tm : Int32} (h : CH b n c y tm) : c 4 4 = y.1 19 n := h.2.2.2.2.2.2.2.2.2.2.2.1
theorem CH.bo {b n : Nat} {c : Nat → Nat → Int32} {y : RS} {tm : Int32} (h : CH b n c y tm) : bor b (c 6 2) (y.1 20 n) := h.2.2.2.2.2.2.2.2.2.2.2.2.1
theorem CH.fl {b n : Nat} {c : Nat → Nat → Int32} {y : RS} {tm : Int32} (h : CH b n c y tm) : c 9 1 = y.1 22 n := h.2.2.2.2.2.2.2.2.2.2.2.2.2.1
theorem CH.pr {b n : Nat} {c : Nat → Nat → Int32} {y : RS} {tm : Int32} (h : CH b n c y tm) : c 9 2 = y.1 25 n := h.2.2.2.2.2.2.2.2.2.2.2.2.2.2.1
theorem CH.ti {b n : Nat} {c : Nat → Nat → Int32} {y : RS} {tm : Int32} (h : CH b n c y tm) : c 9 3 = y.1 26 n := h.2.2.2.2.2.2.2.2.2.2.2.2.2.2.2.1
theorem CH.bu {b n : Nat} {c : Nat → Nat → Int32} {y : RS} {tm : Int32} (h : CH b n c y tm) : c 9 4 = y.1 27 n := h.2.2.2.2.2.2.2.2.2.2.2.2.2.2.2.2.1
theorem CH.ai {b n : Nat} {c : Nat → Nat → Int32} {y : RS} {tm : Int32} (h : CH b n c y tm) : c 9 5 = y.1 23 n := h.2.2.2.2.2.2.2.2.2.2.2.2.2.2.2.2.2.1
theorem CH.op {b n : Nat} {c : Nat → Nat → Int32} {y : RS} {tm : Int32} (h : CH b n c y tm) : c 9 6 = y.1 24 n := h.2.2.2.2.2.2.2.2.2.2.2.2.2.2.2.2.2.2.1
theorem CH.su {b n : Nat} {c : Nat → Nat → Int32} {y : RS} {tm : Int32} (h : CH b n c y tm) : c 12 2 = y.1 35 n := h.2.2.2.2.2.2.2.2.2.2.2.2.2.2.2.2.2.2.2.1
theorem CH.co {b n : Nat} {c : Nat → Nat → Int32} {y : RS} {tm : Int32} (h : CH b n c y tm) : (∀ j, j < 3600 → c 13 j = y.1 32 (3600 * n + j)) := h.2.2.2.2.2.2.2.2.2.2.2.2.2.2.2.2.2.2.2.2.1
theorem CH.at_ {b n : Nat} {c : Nat → Nat → Int32} {y : RS} {tm : Int32} (h : CH b n c y tm) : (c 12 1).toInt = tm.toInt % 3600 := h.2.2.2.2.2.2.2.2.2.2.2.2.2.2.2.2.2.2.2.2.2.1
theorem CH.pd {b n : Nat} {c : Nat → Nat → Int32} {y : RS} {tm : Int32} (h : CH b n c y tm) : pdr n (c 4 0) (y.1 15 n) (c 4 1) := h.2.2.2.2.2.2.2.2.2.2.2.2.2.2.2.2.2.2.2.2.2.2.1
theorem CH.la {b n : Nat} {c : Nat → Nat → Int32} {y : RS} {tm : Int32} (h : CH b n c y tm) : lar (c 6 1) (y.1 21 n) tm := h.2.2.2.2.2.2.2.2.2.2.2.2.2.2.2.2.2.2.2.2.2.2.2.1
theorem CH.ty {b n : Nat} {c : Nat → Nat → Int32} {y : RS} {tm : Int32} (h : CH b n c y tm) : tyr (c 2 0) (c 2 1) (c 2 2) (c 2 3) (y.1 41 n) (y.1 42 n) (y.1 43 n) := h.2.2.2.2.2.2.2.2.2.2.2.2.2.2.2.2.2.2.2.2.2.2.2.2.1
theorem CH.tc {b n : Nat} {c : Nat → Nat → Int32} {y : RS} {tm : Int32} (h : CH b n c y tm) : tyc (c 0 6) (c 2 1) := h.2.2.2.2.2.2.2.2.2.2.2.2.2.2.2.2.2.2.2.2.2.2.2.2.2.1
theorem CH.ed {b n : Nat} {c : Nat → Nat → Int32} {y : RS} {tm : Int32} (h : CH b n c y tm) : edr n (c 0 6) (c 1 2) (y.1 38 n) := h.2.2.2.2.2.2.2.2.2.2.2.2.2.2.2.2.2.2.2.2.2.2.2.2.2.2.1
theorem CH.ru {b n : Nat} {c : Nat → Nat → Int32} {y : RS} {tm : Int32} (h : CH b n c y tm) : rur (c 0 6) (c 0 7) (c 1 3) := h.2.2.2.2.2.2.2.2.2.2.2.2.2.2.2.2.2.2.2.2.2.2.2.2.2.2.2.1
theorem CH.nu {b n : Nat} {c : Nat → Nat → Int32} {y : RS} {tm : Int32} (h : CH b n c y tm) : nur (c 4 1) (c 4 4) (c 1 4) := h.2.2.2.2.2.2.2.2.2.2.2.2.2.2.2.2.2.2.2.2.2.2.2.2.2.2.2.2.1
theorem CH.re {b n : Nat} {c : Nat → Nat → Int32} {y : RS} {tm : Int32} (h : CH b n c y tm) : rer (c 0 6) (y.1 2 (c 1 2).toNatClampNeg) (y.1 3 (c 1 2).toNatClampNeg) (c 1 5) (c 1 4) := h.2.2.2.2.2.2.2.2.2.2.2.2.2.2.2.2.2.2.2.2.2.2.2.2.2.2.2.2.2.1
theorem CH.r1 {b n : Nat} {c : Nat → Nat → Int32} {y : RS} {tm : Int32} (h : CH b n c y tm) : rgr 20 3600 (c 7 2) (c 7 3) (c 8) (y.1 36 n) (fun j => y.1 33 (3600 * n + j)) tm := h.2.2.2.2.2.2.2.2.2.2.2.2.2.2.2.2.2.2.2.2.2.2.2.2.2.2.2.2.2.2.1
theorem CH.r2 {b n : Nat} {c : Nat → Nat → Int32} {y : RS} {tm : Int32} (h : CH b n c y tm) : rgr 60 900 (c 10 2) (c 10 3) (c 11) (y.1 37 n) (fun j => y.1 34 (900 * n + j)) tm := h.2.2.2.2.2.2.2.2.2.2.2.2.2.2.2.2.2.2.2.2.2.2.2.2.2.2.2.2.2.2.2
/-! notes -/
def lnk (l : Int64) (v : Int32) : Int64 := (((l * 31) + v.toInt64) <<< ((7 : Int32).toInt64 &&& 63)) ||| ((((l * 31) + v.toInt64).toUInt64 >>> ((57 : Int32).toInt64.toUInt64 &&& Int64.toUInt64 63)).toInt64)
def row4 (r : Nat → Int32) (i : Nat) (a b c d : Int32) : Nat → Int32 := va_up (va_up (va_up (va_up r i a) (i + 1) b) (i + 2) c) (i + 3) d
section R4
variable {r : Nat → Int32} {i : Nat} {a b c d : Int32}
theorem row4_0 : row4 r i a b c d i = a := by
  unfold row4; rw [va_up_ne _ _ (by omega), va_up_ne _ _ (by omega), va_up_ne _ _ (by omega), va_up_self]
theorem row4_1 : row4 r i a b c d (i + 1) = b := by
  unfold row4; rw [va_up_ne _ _ (by omega), va_up_ne _ _ (by omega), va_up_self]
theorem row4_2 : row4 r i a b c d (i + 2) = c := by
  unfold row4; rw [va_up_ne _ _ (by omega), va_up_self]
theorem row4_3 : row4 r i a b c d (i + 3) = d := by
  unfold row4; rw [va_up_self]
end R4
theorem wr_step {a b c d v5 v6 : Int32} {k : Nat} {y : FS} (h : ¬ (4 : Int32) ≤ v6) : fX5_write_L53 a b c d (k + 1) y v5 v6 = fX5_write_L53 a b c d k (sL y (lnk y.2.2 (y.1 4 ((v5 + v6).toNatClampNeg)))) v5 (v6 + 1) := if_neg h
theorem wr_end {a b c d v5 v6 : Int32} {k : Nat} {y : FS} (h : (4 : Int32) ≤ v6) : fX5_write_L53 a b c d (k + 1) y v5 v6 = sP y 3 1 ((y.1 3 1) + 1) := if_pos h
theorem wr_ix {m w : Nat} (hm : m < 2 ^ 31) (hw : w < 4) : (((nI m &&& 63) * 4) + nI w).toNatClampNeg = 4 * (m % 64) + w := by
  rw [pk_andN (by omega) (m := 63) 6 (by decide), show (4 : Int32) = nI 4 from rfl, pk_mul, nI_add, nI_clamp (by omega)]
  omega
theorem wr_ix0 {m : Nat} (hm : m < 2 ^ 31) : ((nI m &&& 63) * 4).toNatClampNeg = 4 * (m % 64) := by
  rw [pk_andN (by omega) (m := 63) 6 (by decide), show (4 : Int32) = nI 4 from rfl, pk_mul, nI_clamp (by omega)]
  omega
theorem write_s {a b c d : Int32} {x : FS} {m : Nat} (hm : x.1 3 1 = nI m) (hm2 : m < 2 ^ 31) : (fX5_write a b c d x).2.1 = x.2.1 ∧ (fX5_write a b c d x).1 0 = x.1 0 ∧ (fX5_write a b c d x).1 3 1 = nI m + 1 ∧ (fX5_write a b c d x).1 4 = row4 (x.1 4) (4 * (m % 64)) a b c d ∧ (fX5_write a b c d x).2.2 = lnk (lnk (lnk (lnk x.2.2 a) b) c) d := by
  have i0 := wr_ix0 hm2
  have i1 : (((nI m &&& 63) * 4) + 1).toNatClampNeg = 4 * (m % 64) + 1 := wr_ix hm2 (w := 1) (by decide)
  have i2 : (((nI m &&& 63) * 4) + 2).toNatClampNeg = 4 * (m % 64) + 2 := wr_ix hm2 (w := 2) (by decide)
  have i3 : (((nI m &&& 63) * 4) + 3).toNatClampNeg = 4 * (m % 64) + 3 := wr_ix hm2 (w := 3) (by decide)
  have j0 : (((nI m &&& 63) * 4) + 0).toNatClampNeg = 4 * (m % 64) := wr_ix hm2 (w := 0) (by decide)
  have j1 : (((nI m &&& 63) * 4) + (0 + 1)).toNatClampNeg = 4 * (m % 64) + 1 := by rw [show (0 : Int32) + 1 = 1 from by decide]; exact i1
  have j2 : (((nI m &&& 63) * 4) + (0 + 1 + 1)).toNatClampNeg = 4 * (m % 64) + 2 := by rw [show (0 : Int32) + 1 + 1 = 2 from by decide]; exact i2
  have j3 : (((nI m &&& 63) * 4) + (0 + 1 + 1 + 1)).toNatClampNeg = 4 * (m % 64) + 3 := by rw [show (0 : Int32) + 1 + 1 + 1 = 3 from by decide]; exact i3
  unfold fX5_write
  rw [hm, show mu32 0 4 = 4 from by decide, i0, i1, i2, i3]
  rw [wr_step (v6 := 0) (by decide), wr_step (v6 := 0 + 1) (by decide), wr_step (v6 := 0 + 1 + 1) (by decide), wr_step (v6 := 0 + 1 + 1 + 1) (by decide), wr_end (v6 := 0 + 1 + 1 + 1 + 1) (by decide)]
  refine ⟨rfl, rfl, ?_, rfl, ?_⟩
  · show x.1 3 1 + 1 = _
    rw [hm]
  · show lnk (lnk (lnk (lnk x.2.2 (row4 (x.1 4) (4 * (m % 64)) a b c d _)) (row4 (x.1 4) (4 * (m % 64)) a b c d _)) (row4 (x.1 4) (4 * (m % 64)) a b c d _)) (row4 (x.1 4) (4 * (m % 64)) a b c d _) = _
    rw [j0, j1, j2, j3, row4_0, row4_1, row4_2, row4_3]
theorem note_ix {m w : Nat} (hm : m < 2 ^ 31) (hw : w < 4) : (((4 : Int32) * ((nI m) - (nI m) / 64 * 64)) + nI w).toNatClampNeg = 4 * (m % 64) + w := by
  rw [show (64 : Int32) = nI 64 from rfl, pk_rem hm (by decide) (by decide), show (4 : Int32) = nI 4 from rfl, pk_mul, nI_add, nI_clamp (by omega)]
theorem note_ix0 {m : Nat} (hm : m < 2 ^ 31) : ((4 : Int32) * ((nI m) - (nI m) / 64 * 64)).toNatClampNeg = 4 * (m % 64) := by
  rw [show (64 : Int32) = nI 64 from rfl, pk_rem hm (by decide) (by decide), show (4 : Int32) = nI 4 from rfl, pk_mul, nI_clamp (by omega)]
theorem note_s {a b c : Int32} {y : RS} {m : Nat} (hm : y.1 0 50 = nI m) (hm2 : m < 2 ^ 31) : (fX11_note a b c y).1 0 = va_up (y.1 0) 50 (nI m + 1) ∧ (fX11_note a b c y).1 45 = row4 (y.1 45) (4 * (m % 64)) (y.1 0 45) a b c ∧ (fX11_note a b c y).2 = lnk (lnk (lnk (lnk y.2 (y.1 0 45)) a) b) c := by
  have i0 := note_ix0 hm2
  have i1 : (((4 : Int32) * ((nI m) - (nI m) / 64 * 64)) + 1).toNatClampNeg = 4 * (m % 64) + 1 := note_ix hm2 (w := 1) (by decide)
  have i2 : (((4 : Int32) * ((nI m) - (nI m) / 64 * 64)) + 2).toNatClampNeg = 4 * (m % 64) + 2 := note_ix hm2 (w := 2) (by decide)
  have i3 : (((4 : Int32) * ((nI m) - (nI m) / 64 * 64)) + 3).toNatClampNeg = 4 * (m % 64) + 3 := note_ix hm2 (w := 3) (by decide)
  unfold fX11_note
  rw [hm, i0, i1, i2, i3]
  exact ⟨rfl, rfl, rfl⟩
theorem s_note {n : Nat} {x : FS} {y : RS} {a v : Int32} (hG : G x y) (he : 0 ≤ (y.1 0 50).toInt) : G (fX10_note n a v x) (fX11_note a (nI n) v y) := by
  obtain ⟨m, hm, e⟩ := nI_of (x := y.1 0 50) (by rw [Int32.lt_iff_toInt_lt, show (0 : Int32).toInt = 0 from rfl]; omega)
  unfold fX10_note
  obtain ⟨w1, w2, w3, w4, w5⟩ := write_s (a := x.1 0 3) (b := a) (c := nI n) (d := v) (hG.en.trans e) hm
  obtain ⟨q1, q2, q3⟩ := note_s (a := a) (b := nI n) (c := v) e hm
  unfold G
  rw [w2, w3, w4, w5, q1, q2, q3]
  refine ⟨hG.tm, hG.cg, hG.mn, hG.cn, hG.si, ?_, ?_, ?_, hG.tb⟩
  · rw [va_up_self]
  · rw [hG.lg, hG.tm]
  · rw [hG.ch, hG.tm]
theorem note_c {n : Nat} {x : FS} {y : RS} {a v : Int32} (hG : G x y) (he : 0 ≤ (y.1 0 50).toInt) : (fX10_note n a v x).2.1 = x.2.1 := by
  obtain ⟨m, hm, e⟩ := nI_of (x := y.1 0 50) (by rw [Int32.lt_iff_toInt_lt, show (0 : Int32).toInt = 0 from rfl]; omega)
  unfold fX10_note
  exact (write_s (hG.en.trans e) hm).1
theorem ch_note {b n : Nat} {c : Nat → Nat → Int32} {y : RS} {tm k d v : Int32} (h : CH b n c y tm) : CH b n c (fX11_note k d v y) tm := h
/-- a channel that a method of another one leaves alone -/
theorem ch_kp {b n m : Nat} {c : Nat → Nat → Int32} {y0 y : RS} {tm : Int32} (hn : n < 3) (hm : m < 3) (hne : m ≠ n) (hk : Kp n y0 y) (h : CH b m c y0 tm) : CH b m c y tm := by
  have e : ∀ o, 13 ≤ o → o ≤ 43 → (o < 32 ∨ 34 < o) → y.1 o m = y0.1 o m := fun o h1 h2 h3 => hk o m (fun q => by unfold Wr at q; omega)
  have e2 : ∀ j, j < 3600 → y.1 32 (3600 * m + j) = y0.1 32 (3600 * m + j) := fun j hj => hk _ _ (fun q => by unfold Wr at q; omega)
  have e3 : ∀ j, j < 3600 → y.1 33 (3600 * m + j) = y0.1 33 (3600 * m + j) := fun j hj => hk _ _ (fun q => by unfold Wr at q; omega)
  have e4 : ∀ j, j < 900 → y.1 34 (900 * m + j) = y0.1 34 (900 * m + j) := fun j hj => hk _ _ (fun q => by unfold Wr at q; omega)
  have e5 : ∀ d, y.1 2 d = y0.1 2 d := fun d => hk _ _ (fun q => by unfold Wr at q; omega)
  have e6 : ∀ d, y.1 3 d = y0.1 3 d := fun d => hk _ _ (fun q => by unfold Wr at q; omega)
  unfold CH
  rw [e 13 (by decide) (by decide) (by decide), e 28 (by decide) (by decide) (by decide), e 31 (by decide) (by decide) (by decide), e 29 (by decide) (by decide) (by decide), e 30 (by decide) (by decide) (by decide), e 14 (by decide) (by decide) (by decide), e 39 (by decide) (by decide) (by decide), e 40 (by decide) (by decide) (by decide), e 16 (by decide) (by decide) (by decide), e 17 (by decide) (by decide) (by decide), e 18 (by decide) (by decide) (by decide), e 19 (by decide) (by decide) (by decide), e 20 (by decide) (by decide) (by decide), e 22 (by decide) (by decide) (by decide), e 25 (by decide) (by decide) (by decide), e 26 (by decide) (by decide) (by decide), e 27 (by decide) (by decide) (by decide), e 23 (by decide) (by decide) (by decide), e 24 (by decide) (by decide) (by decide), e 35 (by decide) (by decide) (by decide), e 15 (by decide) (by decide) (by decide), e 21 (by decide) (by decide) (by decide), e 41 (by decide) (by decide) (by decide), e 42 (by decide) (by decide) (by decide), e 43 (by decide) (by decide) (by decide), e 38 (by decide) (by decide) (by decide), e 36 (by decide) (by decide) (by decide), e 37 (by decide) (by decide) (by decide), e5, e6]
  refine ⟨h.ph, h.al, h.st, h.wa, h.dn, h.cf, h.we, h.am, h.ra, h.le, h.ma, h.de, h.bo, h.fl, h.pr, h.ti, h.bu, h.ai, h.op, h.su, ?_, h.at_, h.pd, h.la, h.ty, h.tc, h.ed, h.ru, h.nu, h.re, ?_, ?_⟩
  · exact fun j hj => (h.co j hj).trans (e2 j hj).symm
  · obtain ⟨L, l1, l2, l3, l4, l5, l6, l7, l8⟩ := h.r1
    exact ⟨L, l1, l2, l3, l4, l5, l6, l7, fun j hj => by show (y.1 33 (3600 * m + j)).toInt = _; rw [e3 j hj]; exact l8 j hj⟩
  · obtain ⟨L, l1, l2, l3, l4, l5, l6, l7, l8⟩ := h.r2
    exact ⟨L, l1, l2, l3, l4, l5, l6, l7, fun j hj => by show (y.1 34 (900 * m + j)).toInt = _; rw [e4 j hj]; exact l8 j hj⟩
