/-! WHICH CELLS A METHOD OF ONE CHANNEL OF THE REFERENCE MAY WRITE -/
def Wr (n o k : Nat) : Prop := o = 45 ∨ (o = 0 ∧ (k = 48 ∨ k = 49 ∨ k = 50)) ∨ (k = n ∧ ((13 ≤ o ∧ o ≤ 21) ∨ (25 ≤ o ∧ o ≤ 31) ∨ (35 ≤ o ∧ o ≤ 43))) ∨ ((o = 32 ∨ o = 33) ∧ 3600 * n ≤ k ∧ k < 3600 * n + 3600) ∨ (o = 34 ∧ 900 * n ≤ k ∧ k < 900 * n + 900)
def Kp (n : Nat) (y0 y : RS) : Prop := ∀ o k, ¬ Wr n o k → y.1 o k = y0.1 o k
def wrb (o : Nat) : Bool := (13 ≤ o && o ≤ 21) || (25 ≤ o && o ≤ 31) || (35 ≤ o && o ≤ 43)
theorem kp_w {n o k : Nat} {y0 y : RS} {v : Int32} (hw : Wr n o k) (h : Kp n y0 y) : Kp n y0 (sR y o k v) := by
  intro o' k' q
  rw [sR_rd (fun e => q (by rw [e.1, e.2]; exact hw))]
  exact h o' k' q
theorem kp_s {n o : Nat} {y0 y : RS} {v : Int32} (hw : wrb o = true) (h : Kp n y0 y) : Kp n y0 (sR y o n v) := by
  refine kp_w ?_ h
  unfold wrb at hw
  simp only [Bool.or_eq_true, Bool.and_eq_true, decide_eq_true_eq] at hw
  exact Or.inr (Or.inr (Or.inl ⟨rfl, by omega⟩))
def wr0 (k : Nat) : Bool := k == 48 || k == 49 || k == 50
theorem kp_0 {n k : Nat} {y0 y : RS} {v : Int32} (hw : wr0 k = true) (h : Kp n y0 y) : Kp n y0 (sR y 0 k v) := by
  refine kp_w ?_ h
  unfold wr0 at hw
  simp only [Bool.or_eq_true, beq_iff_eq] at hw
  exact Or.inr (Or.inl ⟨rfl, by omega⟩)
theorem kp_45 {n k : Nat} {y0 y : RS} {v : Int32} (h : Kp n y0 y) : Kp n y0 (sR y 45 k v) := kp_w (Or.inl rfl) h
theorem kp_M {n : Nat} {y0 y : RS} {v : Int64} (h : Kp n y0 y) : Kp n y0 (sM y v) := h
theorem kp_time {n : Nat} {y0 y : RS} (h : Kp n y0 y) : y.1 0 45 = y0.1 0 45 := h 0 45 (fun q => by unfold Wr at q; omega)
theorem ix_h {c t : Int32} (hc : vp_in c 3) (ht : 0 ≤ t.toInt) : ∃ j : Nat, j < 3600 ∧ (j : Int) = t.toInt % 3600 ∧ ((3600 : Int32) * c + (t - t / 3600 * 3600)).toNatClampNeg = 3600 * c.toNatClampNeg + j := by
  obtain ⟨i, hi, e⟩ := vp_in_of hc (by decide)
  obtain ⟨m, hm, e2⟩ := nI_of (x := t) (by rw [Int32.lt_iff_toInt_lt, show (0 : Int32).toInt = 0 from rfl]; omega)
  refine ⟨m % 3600, Nat.mod_lt _ (by decide), ?_, ?_⟩
  · rw [e2, nI_toInt hm]; omega
  · have h5 : m % 3600 < 3600 := Nat.mod_lt _ (by decide)
    rw [e, e2, show (3600 : Int32) = nI 3600 from rfl, pk_rem hm (by decide) (by decide), pk_mul, nI_add, nI_clamp (by omega), nI_clamp (by omega)]
theorem ix_a {c t : Int32} (hc : vp_in c 3) (ht : 0 ≤ t.toInt) : ∃ j : Nat, j < 900 ∧ (j : Int) = t.toInt % 900 ∧ ((900 : Int32) * c + (t - t / 900 * 900)).toNatClampNeg = 900 * c.toNatClampNeg + j := by
  obtain ⟨i, hi, e⟩ := vp_in_of hc (by decide)
  obtain ⟨m, hm, e2⟩ := nI_of (x := t) (by rw [Int32.lt_iff_toInt_lt, show (0 : Int32).toInt = 0 from rfl]; omega)
  refine ⟨m % 900, Nat.mod_lt _ (by decide), ?_, ?_⟩
  · rw [e2, nI_toInt hm]; omega
  · have h5 : m % 900 < 900 := Nat.mod_lt _ (by decide)
    rw [e, e2, show (900 : Int32) = nI 900 from rfl, pk_rem hm (by decide) (by decide), pk_mul, nI_add, nI_clamp (by omega), nI_clamp (by omega)]
def wr3 (o : Nat) : Bool := o == 32 || o == 33
theorem kp_32 {p1 : Int32} {o : Nat} {y0 x y : RS} {v : Int32} (ho : wr3 o = true) (hc : vp_in p1 3) (ht : 0 ≤ (y0.1 0 45).toInt) (hx : Kp p1.toNatClampNeg y0 x) (h : Kp p1.toNatClampNeg y0 y) : Kp p1.toNatClampNeg y0 (sR y o ((((3600 : Int32) * p1) + ((x.1 0 45) - (x.1 0 45) / 3600 * 3600)).toNatClampNeg) v) := by
  refine kp_w ?_ h
  unfold wr3 at ho
  simp only [Bool.or_eq_true, beq_iff_eq] at ho
  obtain ⟨j, hj, _, e⟩ := ix_h (t := x.1 0 45) hc (by rw [kp_time hx]; exact ht)
  rw [e]
  exact Or.inr (Or.inr (Or.inr (Or.inl ⟨ho, by omega, by omega⟩)))
theorem kp_34 {p1 : Int32} {y0 x y : RS} {v : Int32} (hc : vp_in p1 3) (ht : 0 ≤ (y0.1 0 45).toInt) (hx : Kp p1.toNatClampNeg y0 x) (h : Kp p1.toNatClampNeg y0 y) : Kp p1.toNatClampNeg y0 (sR y 34 ((((900 : Int32) * p1) + ((x.1 0 45) - (x.1 0 45) / 900 * 900)).toNatClampNeg) v) := by
  refine kp_w ?_ h
  obtain ⟨j, hj, _, e⟩ := ix_a (t := x.1 0 45) hc (by rw [kp_time hx]; exact ht)
  rw [e]
  exact Or.inr (Or.inr (Or.inr (Or.inr ⟨rfl, by omega, by omega⟩)))
theorem kp_ite {n : Nat} {y0 : RS} {c : Prop} {h : Decidable c} {a b : RS} (ha : c → Kp n y0 a) (hb : ¬ c → Kp n y0 b) : Kp n y0 (@ite RS c h a b) := by
  by_cases q : c
  · rw [if_pos q]; exact ha q
  · rw [if_neg q]; exact hb q
theorem kp_ite1 {α : Type} {n : Nat} {y0 : RS} {c : Prop} {h : Decidable c} {a b : RS × α} (ha : c → Kp n y0 a.1) (hb : ¬ c → Kp n y0 b.1) : Kp n y0 (@ite (RS × α) c h a b).1 := by
  by_cases q : c
  · rw [if_pos q]; exact ha q
  · rw [if_neg q]; exact hb q
theorem kpX11_note {n : Nat} {y0 y : RS} {a b c : Int32} (h : Kp n y0 y) : Kp n y0 (fX11_note a b c y) := by
  unfold fX11_note fX11_link
  exact kp_M (kp_M (kp_M (kp_M (kp_0 rfl (kp_45 (kp_45 (kp_45 (kp_45 h))))))))
theorem kpX11_acknowledge_L72 {y0 : RS} {p1 : Int32} (hc : vp_in p1 3) : ∀ (k9 : Nat) (y : RS) (v4 : Int32), 0 ≤ v4.toInt → Kp p1.toNatClampNeg y0 y → Kp p1.toNatClampNeg y0 (fX11_acknowledge_L72 p1 k9 y v4) := by
  intro k9
  induction k9 with
  | zero => intro y v4 _ h; exact h
  | succ k9 ih =>
    intro y v4 hv h
    unfold fX11_acknowledge_L72
    refine kp_ite (fun _ => h) (fun q => ih _ _ (vi_s900 q hv) (kp_w ?_ h))
    obtain ⟨i, hi, e⟩ := vp_in_of hc (by decide)
    obtain ⟨m, hm, e2⟩ := nI_of (x := v4) (by rw [Int32.lt_iff_toInt_lt, show (0 : Int32).toInt = 0 from rfl]; omega)
    rw [e2, Int32.le_iff_toInt_le, nI_toInt hm, show (900 : Int32).toInt = 900 from rfl] at q
    rw [e, e2, show (900 : Int32) = nI 900 from rfl, pk_mul, nI_add, nI_clamp (by omega), nI_clamp (by omega)]
    exact Or.inr (Or.inr (Or.inr (Or.inr ⟨rfl, by omega, by omega⟩)))
theorem kpX11_clear {y0 : RS} (ht : 0 ≤ (y0.1 0 45).toInt) {p1 : Int32} {x : RS} (hc : vp_in p1 3) (h : Kp p1.toNatClampNeg y0 x) : Kp p1.toNatClampNeg y0 (fX11_clear p1 x) := by
  unfold fX11_clear
  exact (kp_s rfl (kp_s rfl (kp_s rfl h)))
theorem kpX11_go {y0 : RS} (ht : 0 ≤ (y0.1 0 45).toInt) {p1 : Int32} {p2 : Int32} {x : RS} (hc : vp_in p1 3) (h : Kp p1.toNatClampNeg y0 x) : Kp p1.toNatClampNeg y0 (fX11_go p1 p2 x) := by
  unfold fX11_go
  exact (kpX11_clear ht hc (kp_s rfl h))
theorem kpX11_latch {y0 : RS} (ht : 0 ≤ (y0.1 0 45).toInt) {p1 : Int32} {p2 : Int32} {x : RS} (hc : vp_in p1 3) (h : Kp p1.toNatClampNeg y0 x) : Kp p1.toNatClampNeg y0 (fX11_latch p1 p2 x) := by
  unfold fX11_latch
  exact (kp_ite (fun _ => h) (fun _ => (kp_ite (fun _ => (kpX11_note (kp_0 rfl (kp_s rfl h)))) (fun _ => (kp_ite (fun _ => (kp_s rfl (kp_s rfl (kpX11_note (kp_0 rfl (kp_s rfl h)))))) (fun _ => (kpX11_note (kp_0 rfl (kp_s rfl h)))))))))
theorem kpX11_drop {y0 : RS} (ht : 0 ≤ (y0.1 0 45).toInt) {p1 : Int32} {x : RS} (hc : vp_in p1 3) (h : Kp p1.toNatClampNeg y0 x) : Kp p1.toNatClampNeg y0 (fX11_drop p1 x) := by
  unfold fX11_drop
  exact (kpX11_go ht hc (kpX11_note h))
theorem kpX11_run {y0 : RS} (ht : 0 ≤ (y0.1 0 45).toInt) {p1 : Int32} {x : RS} (hc : vp_in p1 3) (h : Kp p1.toNatClampNeg y0 x) : Kp p1.toNatClampNeg y0 (fX11_run p1 x).1 := by
  unfold fX11_run
  exact (kp_ite1 (fun _ => h) (fun _ => (kpX11_note (kp_s rfl (kp_s rfl h)))))
theorem kpX11_stop {y0 : RS} (ht : 0 ≤ (y0.1 0 45).toInt) {p1 : Int32} {x : RS} (hc : vp_in p1 3) (h : Kp p1.toNatClampNeg y0 x) : Kp p1.toNatClampNeg y0 (fX11_stop p1 x).1 := by
  unfold fX11_stop
  exact (kp_ite1 (fun _ => (kpX11_note (kp_s rfl (kp_s rfl h)))) (fun _ => (kp_ite1 (fun _ => h) (fun _ => (kpX11_drop ht hc h)))))
theorem kpX11_begin_J33 {y0 : RS} (ht : 0 ≤ (y0.1 0 45).toInt) {p1 : Int32} {y : RS} (hc : vp_in p1 3) (h : Kp p1.toNatClampNeg y0 y) : Kp p1.toNatClampNeg y0 (fX11_begin_J33 p1 y).1 := by
  unfold fX11_begin_J33
  exact (kp_s rfl (kpX11_go ht hc (kp_s rfl h)))
theorem kpX11_begin {y0 : RS} (ht : 0 ≤ (y0.1 0 45).toInt) {p1 : Int32} {x : RS} (hc : vp_in p1 3) (h : Kp p1.toNatClampNeg y0 x) : Kp p1.toNatClampNeg y0 (fX11_begin p1 x).1 := by
  unfold fX11_begin
  exact (kp_ite1 (fun _ => (kpX11_begin_J33 ht hc h)) (fun _ => (kp_ite1 (fun _ => (kpX11_begin_J33 ht hc h)) (fun _ => (kp_ite1 (fun _ => (kpX11_begin_J33 ht hc h)) (fun _ => h))))))
theorem kpX11_lines_J51 {y0 : RS} (ht : 0 ≤ (y0.1 0 45).toInt) {p1 : Int32} {y : RS} {w0 : Int32} (hc : vp_in p1 3) (h : Kp p1.toNatClampNeg y0 y) : Kp p1.toNatClampNeg y0 (fX11_lines_J51 p1 y w0) := by
  unfold fX11_lines_J51
  exact (kp_ite (fun _ => (kpX11_latch ht hc (kp_s rfl (kp_s rfl (kp_s rfl h))))) (fun _ => (kp_s rfl h)))
theorem kpX11_lines {y0 : RS} (ht : 0 ≤ (y0.1 0 45).toInt) {p1 : Int32} {x : RS} (hc : vp_in p1 3) (h : Kp p1.toNatClampNeg y0 x) : Kp p1.toNatClampNeg y0 (fX11_lines p1 x) := by
  unfold fX11_lines
  exact (kp_ite (fun _ => (kpX11_lines_J51 ht hc (kp_s rfl h))) (fun _ => (kpX11_lines_J51 ht hc (kp_s rfl h))))
theorem kpX11_figure_J93 {y0 : RS} (ht : 0 ≤ (y0.1 0 45).toInt) {p1 : Int32} {p2 : Int32} {y : RS} {v3 : Int32} {v4 : Int32} {w0 : Int32} (hc : vp_in p1 3) (h : Kp p1.toNatClampNeg y0 y) : Kp p1.toNatClampNeg y0 (fX11_figure_J93 p1 p2 y v3 v4 w0).1 := by
  unfold fX11_figure_J93
  exact (kp_ite1 (fun _ => (kp_ite1 (fun _ => (kp_ite1 (fun _ => h) (fun _ => (kp_ite1 (fun _ => h) (fun _ => (kp_s rfl h)))))) (fun _ => h))) (fun _ => (kp_ite1 (fun _ => (kp_ite1 (fun _ => h) (fun _ => (kp_s rfl (kp_s rfl h))))) (fun _ => h))))
theorem kpX11_figure_J43 {y0 : RS} (ht : 0 ≤ (y0.1 0 45).toInt) {p1 : Int32} {p2 : Int32} {y : RS} {v3 : Int32} {w0 : Int32} (hc : vp_in p1 3) (h : Kp p1.toNatClampNeg y0 y) : Kp p1.toNatClampNeg y0 (fX11_figure_J43 p1 p2 y v3 w0).1 := by
  unfold fX11_figure_J43
  exact (kp_ite1 (fun _ => (kp_ite1 (fun _ => (kpX11_figure_J93 ht hc h)) (fun _ => (kpX11_figure_J93 ht hc h)))) (fun _ => (kp_ite1 (fun _ => (kpX11_figure_J93 ht hc h)) (fun _ => (kpX11_figure_J93 ht hc h)))))
theorem kpX11_figure_J42 {y0 : RS} (ht : 0 ≤ (y0.1 0 45).toInt) {p1 : Int32} {p2 : Int32} {y : RS} {v3 : Int32} (hc : vp_in p1 3) (h : Kp p1.toNatClampNeg y0 y) : Kp p1.toNatClampNeg y0 (fX11_figure_J42 p1 p2 y v3).1 := by
  unfold fX11_figure_J42
  exact (kpX11_figure_J43 ht hc h)
theorem kpX11_figure_J14 {y0 : RS} (ht : 0 ≤ (y0.1 0 45).toInt) {p1 : Int32} {p2 : Int32} {y : RS} {w0 : Int32} (hc : vp_in p1 3) (h : Kp p1.toNatClampNeg y0 y) : Kp p1.toNatClampNeg y0 (fX11_figure_J14 p1 p2 y w0).1 := by
  unfold fX11_figure_J14
  exact (kp_ite1 (fun _ => (kp_ite1 (fun _ => (kp_ite1 (fun _ => (kpX11_figure_J43 ht hc h)) (fun _ => (kpX11_figure_J42 ht hc h)))) (fun _ => (kpX11_figure_J42 ht hc h)))) (fun _ => (kpX11_figure_J42 ht hc h)))
theorem kpX11_figure {y0 : RS} (ht : 0 ≤ (y0.1 0 45).toInt) {p1 : Int32} {p2 : Int32} {x : RS} (hc : vp_in p1 3) (h : Kp p1.toNatClampNeg y0 x) : Kp p1.toNatClampNeg y0 (fX11_figure p1 p2 x).1 := by
  unfold fX11_figure
  exact (kp_ite1 (fun _ => (kpX11_figure_J14 ht hc h)) (fun _ => (kpX11_figure_J14 ht hc h)))
theorem kpX11_clearKey {y0 : RS} (ht : 0 ≤ (y0.1 0 45).toInt) {p1 : Int32} {x : RS} (hc : vp_in p1 3) (h : Kp p1.toNatClampNeg y0 x) : Kp p1.toNatClampNeg y0 (fX11_clearKey p1 x).1 := by
  unfold fX11_clearKey
  exact (kp_ite1 (fun _ => (kpX11_go ht hc h)) (fun _ => (kp_ite1 (fun _ => (kpX11_drop ht hc h)) (fun _ => (kpX11_clear ht hc h)))))
theorem kpX11_stroke_J209 {y0 : RS} (ht : 0 ≤ (y0.1 0 45).toInt) {p1 : Int32} {p2 : Int32} {y : RS} {v3 : Int32} (hc : vp_in p1 3) (h : Kp p1.toNatClampNeg y0 y) : Kp p1.toNatClampNeg y0 (fX11_stroke_J209 p1 p2 y v3) := by
  unfold fX11_stroke_J209
  exact (kp_ite (fun _ => h) (fun _ => (kpX11_latch ht hc (kp_s rfl (kp_s rfl (kp_s rfl (kp_s rfl h)))))))
theorem kpX11_stroke_J203 {y0 : RS} (ht : 0 ≤ (y0.1 0 45).toInt) {p1 : Int32} {p2 : Int32} {y : RS} {v3 : Int32} (hc : vp_in p1 3) (h : Kp p1.toNatClampNeg y0 y) : Kp p1.toNatClampNeg y0 (fX11_stroke_J203 p1 p2 y v3) := by
  unfold fX11_stroke_J203
  exact (kpX11_stroke_J209 ht hc (kpX11_latch ht hc h))
theorem kpX11_stroke_J182 {y0 : RS} (ht : 0 ≤ (y0.1 0 45).toInt) {p1 : Int32} {p2 : Int32} {y : RS} {v3 : Int32} (hc : vp_in p1 3) (h : Kp p1.toNatClampNeg y0 y) : Kp p1.toNatClampNeg y0 (fX11_stroke_J182 p1 p2 y v3) := by
  unfold fX11_stroke_J182
  exact (kp_ite (fun _ => (kpX11_stroke_J203 ht hc h)) (fun _ => (kp_ite (fun _ => (kpX11_stroke_J209 ht hc h)) (fun _ => (kpX11_stroke_J203 ht hc h)))))
theorem kpX11_stroke_J162 {y0 : RS} (ht : 0 ≤ (y0.1 0 45).toInt) {p1 : Int32} {p2 : Int32} {y : RS} {w0 : Int32} (hc : vp_in p1 3) (h : Kp p1.toNatClampNeg y0 y) : Kp p1.toNatClampNeg y0 (fX11_stroke_J162 p1 p2 y w0) := by
  unfold fX11_stroke_J162
  exact (kp_ite (fun _ => (kpX11_stroke_J182 ht hc h)) (fun _ => (kpX11_stroke_J182 ht hc (kp_s rfl h))))
theorem kpX11_stroke_J147 {y0 : RS} (ht : 0 ≤ (y0.1 0 45).toInt) {p1 : Int32} {p2 : Int32} {y : RS} (hc : vp_in p1 3) (h : Kp p1.toNatClampNeg y0 y) : Kp p1.toNatClampNeg y0 (fX11_stroke_J147 p1 p2 y) := by
  unfold fX11_stroke_J147
  exact (kp_ite (fun _ => (kpX11_stroke_J162 ht hc h)) (fun _ => (kpX11_stroke_J162 ht hc h)))
theorem kpX11_stroke_J104 {y0 : RS} (ht : 0 ≤ (y0.1 0 45).toInt) {p1 : Int32} {p2 : Int32} {y : RS} {w0 : Int32} (hc : vp_in p1 3) (h : Kp p1.toNatClampNeg y0 y) : Kp p1.toNatClampNeg y0 (fX11_stroke_J104 p1 p2 y w0) := by
  unfold fX11_stroke_J104
  exact (kp_ite (fun _ => (kpX11_stroke_J147 ht hc (kp_s rfl h))) (fun _ => (kpX11_stroke_J147 ht hc (kp_s rfl (kp_34 hc ht h (kp_s rfl h))))))
theorem kpX11_stroke_J67 {y0 : RS} (ht : 0 ≤ (y0.1 0 45).toInt) {p1 : Int32} {p2 : Int32} {y : RS} (hc : vp_in p1 3) (h : Kp p1.toNatClampNeg y0 y) : Kp p1.toNatClampNeg y0 (fX11_stroke_J67 p1 p2 y) := by
  unfold fX11_stroke_J67
  exact (kp_ite (fun _ => (kpX11_stroke_J104 ht hc (kp_s rfl h))) (fun _ => (kpX11_stroke_J104 ht hc (kp_s rfl h))))
theorem kpX11_stroke {y0 : RS} (ht : 0 ≤ (y0.1 0 45).toInt) {p1 : Int32} {p2 : Int32} {x : RS} (hc : vp_in p1 3) (h : Kp p1.toNatClampNeg y0 x) : Kp p1.toNatClampNeg y0 (fX11_stroke p1 p2 x) := by
  unfold fX11_stroke
  exact (kp_ite (fun _ => (kpX11_stroke_J67 ht hc (kp_32 rfl hc ht h (kp_s rfl (kp_s rfl (kp_s rfl h)))))) (fun _ => (kpX11_stroke_J67 ht hc (kp_s rfl (kp_32 rfl hc ht h (kp_s rfl (kp_s rfl (kp_s rfl h))))))))
theorem kpX11_deliver_L78 {y0 : RS} (ht : 0 ≤ (y0.1 0 45).toInt) {p1 : Int32} (hc : vp_in p1 3) : ∀ (k9 : Nat) (y : RS) (v2 : Int32) (v3 : Int32) (v4 : Int32) (v5 : Int32), Kp p1.toNatClampNeg y0 y → Kp p1.toNatClampNeg y0 (fX11_deliver_L78 p1 k9 y v2 v3 v4 v5).1 := by
  intro k9
  induction k9 with
  | zero => intro y v2 v3 v4 v5 h; exact h
  | succ k9 ih =>
    intro y v2 v3 v4 v5 h
    unfold fX11_deliver_L78
    exact (kp_ite1 (fun _ => h) (fun _ => (kp_ite1 (fun _ => (kp_ite1 (fun _ => (kp_ite1 (fun _ => (kp_ite1 (fun _ => (ih _ _ _ _ _ (kpX11_stroke ht hc h))) (fun _ => (ih _ _ _ _ _ (kpX11_stroke ht hc h))))) (fun _ => (ih _ _ _ _ _ (kpX11_latch ht hc h))))) (fun _ => h))) (fun _ => h))))
theorem kpX11_deliver_J68 {y0 : RS} (ht : 0 ≤ (y0.1 0 45).toInt) {p1 : Int32} {y : RS} {v2 : Int32} {w0 : Int32} {w1 : Int32} (hc : vp_in p1 3) (h : Kp p1.toNatClampNeg y0 y) : Kp p1.toNatClampNeg y0 (fX11_deliver_J68 p1 y v2 w0 w1).1 := by
  unfold fX11_deliver_J68
  exact (kpX11_deliver_L78 ht hc _ _ _ _ _ _ h)
theorem kpX11_deliver {y0 : RS} (ht : 0 ≤ (y0.1 0 45).toInt) {p1 : Int32} {x : RS} (hc : vp_in p1 3) (h : Kp p1.toNatClampNeg y0 x) : Kp p1.toNatClampNeg y0 (fX11_deliver p1 x).1 := by
  unfold fX11_deliver
  exact (kp_ite1 (fun _ => (kpX11_deliver_J68 ht hc (kp_s rfl (kp_s rfl h)))) (fun _ => (kpX11_deliver_J68 ht hc (kp_s rfl (kp_s rfl h)))))
theorem kpX11_acknowledge_L4 {y0 : RS} (ht : 0 ≤ (y0.1 0 45).toInt) {p1 : Int32} (hc : vp_in p1 3) : ∀ (k9 : Nat) (y : RS) (v2 : Int32) (v3 : Int32), Kp p1.toNatClampNeg y0 y → Kp p1.toNatClampNeg y0 (fX11_acknowledge_L4 p1 k9 y v2 v3).1 := by
  intro k9
  induction k9 with
  | zero => intro y v2 v3 h; exact h
  | succ k9 ih =>
    intro y v2 v3 h
    unfold fX11_acknowledge_L4
    exact (kp_ite1 (fun _ => h) (fun _ => (kp_ite1 (fun _ => (ih _ _ _ h)) (fun _ => (kp_ite1 (fun _ => (ih _ _ _ h)) (fun _ => (kp_ite1 (fun _ => (ih _ _ _ (kpX11_note (kpX11_acknowledge_L72 hc _ _ _ (Int.le_refl 0) (kp_s rfl (kp_s rfl (kp_s rfl h))))))) (fun _ => (ih _ _ _ (kpX11_note (kp_s rfl h)))))))))))
theorem kpX11_acknowledge {y0 : RS} (ht : 0 ≤ (y0.1 0 45).toInt) {p1 : Int32} {x : RS} (hc : vp_in p1 3) (h : Kp p1.toNatClampNeg y0 x) : Kp p1.toNatClampNeg y0 (fX11_acknowledge p1 x).1 := by
  unfold fX11_acknowledge
  exact (kpX11_acknowledge_L4 ht hc _ _ _ _ h)
theorem kpX11_beginBolus {y0 : RS} (ht : 0 ≤ (y0.1 0 45).toInt) {p1 : Int32} {x : RS} (hc : vp_in p1 3) (h : Kp p1.toNatClampNeg y0 x) : Kp p1.toNatClampNeg y0 (fX11_beginBolus p1 x).1 := by
  unfold fX11_beginBolus
  exact (kp_ite1 (fun _ => (kp_ite1 (fun _ => (kpX11_note h)) (fun _ => (kp_ite1 (fun _ => (kp_ite1 (fun _ => (kp_ite1 (fun _ => (kpX11_note h)) (fun _ => (kpX11_note (kp_s rfl (kp_32 rfl hc ht h (kp_s rfl (kp_s rfl h)))))))) (fun _ => (kp_ite1 (fun _ => (kpX11_note h)) (fun _ => (kp_ite1 (fun _ => (kpX11_note h)) (fun _ => (kpX11_note (kp_s rfl (kp_32 rfl hc ht h (kp_s rfl (kp_s rfl h)))))))))))) (fun _ => (kpX11_note h)))))) (fun _ => h))
theorem kpX11_press_J225 {y0 : RS} (ht : 0 ≤ (y0.1 0 45).toInt) {p1 : Int32} {p2 : Int32} {y : RS} (hc : vp_in p1 3) (h : Kp p1.toNatClampNeg y0 y) : Kp p1.toNatClampNeg y0 (fX11_press_J225 p1 p2 y).1 := by
  unfold fX11_press_J225
  exact (kp_ite1 (fun _ => (kp_s rfl h)) (fun _ => (kp_s rfl h)))
theorem kpX11_press_J98 {y0 : RS} (ht : 0 ≤ (y0.1 0 45).toInt) {p1 : Int32} {p2 : Int32} {y : RS} (hc : vp_in p1 3) (h : Kp p1.toNatClampNeg y0 y) : Kp p1.toNatClampNeg y0 (fX11_press_J98 p1 p2 y).1 := by
  unfold fX11_press_J98
  exact (kp_ite1 (fun _ => (kpX11_clearKey ht hc h)) (fun _ => (kpX11_clearKey ht hc h)))
theorem kpX11_press_J25 {y0 : RS} (ht : 0 ≤ (y0.1 0 45).toInt) {p1 : Int32} {p2 : Int32} {y : RS} {w0 : Int32} (hc : vp_in p1 3) (h : Kp p1.toNatClampNeg y0 y) : Kp p1.toNatClampNeg y0 (fX11_press_J25 p1 p2 y w0).1 := by
  unfold fX11_press_J25
  exact (kp_ite1 (fun _ => (kp_ite1 (fun _ => (kp_ite1 (fun _ => (kpX11_press_J98 ht hc h)) (fun _ => h))) (fun _ => (kpX11_press_J98 ht hc h)))) (fun _ => (kp_ite1 (fun _ => (kp_ite1 (fun _ => h) (fun _ => (kp_ite1 (fun _ => (kpX11_figure ht hc h)) (fun _ => (kpX11_figure ht hc h)))))) (fun _ => (kp_ite1 (fun _ => (kpX11_begin ht hc h)) (fun _ => (kp_ite1 (fun _ => (kpX11_run ht hc h)) (fun _ => (kp_ite1 (fun _ => (kpX11_stop ht hc h)) (fun _ => (kp_ite1 (fun _ => (kpX11_acknowledge ht hc h)) (fun _ => (kp_ite1 (fun _ => (kp_ite1 (fun _ => (kpX11_go ht hc (kpX11_note h))) (fun _ => h))) (fun _ => (kp_ite1 (fun _ => (kpX11_beginBolus ht hc h)) (fun _ => (kp_ite1 (fun _ => (kp_0 rfl h)) (fun _ => (kp_ite1 (fun _ => (kp_0 rfl h)) (fun _ => (kp_ite1 (fun _ => (kp_ite1 (fun _ => (kpX11_press_J225 ht hc h)) (fun _ => (kp_ite1 (fun _ => (kpX11_press_J225 ht hc h)) (fun _ => h))))) (fun _ => (kp_ite1 (fun _ => h) (fun _ => (kp_ite1 (fun _ => (kpX11_figure ht hc h)) (fun _ => (kpX11_figure ht hc h)))))))))))))))))))))))))))
theorem kpX11_press_J24 {y0 : RS} (ht : 0 ≤ (y0.1 0 45).toInt) {p1 : Int32} {p2 : Int32} {y : RS} (hc : vp_in p1 3) (h : Kp p1.toNatClampNeg y0 y) : Kp p1.toNatClampNeg y0 (fX11_press_J24 p1 p2 y).1 := by
  unfold fX11_press_J24
  exact (kpX11_press_J25 ht hc h)
theorem kpX11_press {y0 : RS} (ht : 0 ≤ (y0.1 0 45).toInt) {p1 : Int32} {p2 : Int32} {x : RS} (hc : vp_in p1 3) (h : Kp p1.toNatClampNeg y0 x) : Kp p1.toNatClampNeg y0 (fX11_press p1 p2 x).1 := by
  unfold fX11_press
  exact (kp_ite1 (fun _ => (kpX11_press_J24 ht hc h)) (fun _ => (kp_ite1 (fun _ => (kpX11_press_J24 ht hc h)) (fun _ => (kpX11_press_J25 ht hc h)))))
theorem kpX11_enter_J300 {y0 : RS} (ht : 0 ≤ (y0.1 0 45).toInt) {p1 : Int32} {y : RS} {w0 : Int32} (hc : vp_in p1 3) (h : Kp p1.toNatClampNeg y0 y) : Kp p1.toNatClampNeg y0 (fX11_enter_J300 p1 y w0).1 := by
  unfold fX11_enter_J300
  exact (kpX11_note (kp_s rfl (kp_s rfl (kp_s rfl (kp_s rfl h)))))
theorem kpX11_enter_J188 {y0 : RS} (ht : 0 ≤ (y0.1 0 45).toInt) {p1 : Int32} {y : RS} {v2 : Int32} (hc : vp_in p1 3) (h : Kp p1.toNatClampNeg y0 y) : Kp p1.toNatClampNeg y0 (fX11_enter_J188 p1 y v2).1 := by
  unfold fX11_enter_J188
  exact (kpX11_clear ht hc (kpX11_note h))
theorem kpX11_enter {y0 : RS} (ht : 0 ≤ (y0.1 0 45).toInt) {p1 : Int32} {x : RS} (hc : vp_in p1 3) (h : Kp p1.toNatClampNeg y0 x) : Kp p1.toNatClampNeg y0 (fX11_enter p1 x).1 := by
  unfold fX11_enter
  exact (kp_ite1 (fun _ => h) (fun _ => (kp_ite1 (fun _ => h) (fun _ => (kp_ite1 (fun _ => (kp_ite1 (fun _ => h) (fun _ => (kp_ite1 (fun _ => (kpX11_go ht hc (kp_s rfl h))) (fun _ => (kpX11_go ht hc (kp_s rfl h))))))) (fun _ => (kp_ite1 (fun _ => (kp_ite1 (fun _ => h) (fun _ => (kpX11_go ht hc (kp_s rfl h))))) (fun _ => (kp_ite1 (fun _ => (kp_ite1 (fun _ => (kpX11_enter_J188 ht hc h)) (fun _ => (kp_ite1 (fun _ => (kpX11_enter_J188 ht hc h)) (fun _ => (kp_ite1 (fun _ => (kpX11_go ht hc (kp_s rfl h))) (fun _ => (kpX11_go ht hc (kp_s rfl h))))))))) (fun _ => (kp_ite1 (fun _ => (kpX11_enter_J300 ht hc (kp_s rfl (kp_s rfl (kpX11_go ht hc h))))) (fun _ => (kpX11_enter_J300 ht hc (kp_s rfl (kp_s rfl (kpX11_go ht hc h))))))))))))))))
