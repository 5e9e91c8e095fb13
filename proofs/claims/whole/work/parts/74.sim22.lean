/-! THE SIMULATION AS THE LAW WANTS IT -/
def BY (y : RS) : Prop := (∀ k, y.1 23 k = 0 ∨ y.1 23 k = 1) ∧ (∀ k, y.1 24 k = 0 ∨ y.1 24 k = 1) ∧ (y.1 0 47 = 0 ∨ y.1 0 47 = 1)
theorem by_kb {y Y : RS} (h : BY y) (k : KB y Y) : BY Y := ⟨fun c => by rw [k.1 c]; exact h.1 c, fun c => by rw [k.2.1 c]; exact h.2.1 c, by rw [k.2.2.1]; exact h.2.2⟩
theorem oks_kb {y Y : RS} (h : okS y) (k : KB y Y) : okS Y := fun d hd => by rw [k.2.2.2.1 d, k.2.2.2.2 d]; exact h d hd
def Sim (k : Nat) (x : PS) (y : RS) : Prop := SP x y ∧ okR (601 * k) (4824 * k) y ∧ okS y ∧ BY y ∧ (x.1 0 3).toInt + 601 * k ≤ 400000
theorem sp_okP {x : PS} {y : RS} (h : SP x y) : okP x := by
  intro n hn
  have c := (h.2.2.2 n hn).1
  have ha := c.at_
  obtain ⟨L1, a1, a2, a3, a4, _⟩ := c.r1
  obtain ⟨L2, b1, b2, b3, b4, _⟩ := c.r2
  refine ⟨?_, ?_, ?_, ?_, ?_, ?_, ?_⟩
  · show vp_in (x.2.2.1 n 12 1) 3600
    rw [vp_in_iff]; omega
  · show vp_in (x.2.2.1 n 7 2) 20
    rw [vp_in_iff]; omega
  · show vp_in (x.2.2.1 n 7 3) 21
    rw [vp_in_iff]; omega
  · show vp_in (x.2.2.1 n 10 2) 60
    rw [vp_in_iff]; omega
  · show vp_in (x.2.2.1 n 10 3) 61
    rw [vp_in_iff]; omega
  · show vp_in (x.2.2.1 n 1 2) 22
    by_cases q : 2 ≤ (x.2.2.1 n 0 6).toInt ∧ (x.2.2.1 n 0 6).toInt ≤ 5
    · exact vi_22 (c.ed.1 q).1
    · rw [c.ed.2 q]; exact vp_in_nI (by omega) (by decide)
  · show vp_in (x.2.2.1 n 4 0) 22
    rcases c.pd with ⟨q, _⟩ | ⟨q, _⟩
    · rw [q]; exact vp_in_nI (by omega) (by decide)
    · exact vi_22 q
theorem sim_pre {k : Nat} {x : PS} {y : RS} (h : Sim k x y) : okP x ∧ vp_in (x.1 0 6) 3 ∧ (∀ n, n < 3 → x.2.2.1 n 9 5 = 0 ∨ x.2.2.1 n 9 5 = 1) ∧ (∀ n, n < 3 → x.2.2.1 n 9 6 = 0 ∨ x.2.2.1 n 9 6 = 1) ∧ (x.1 0 5 = 0 ∨ x.1 0 5 = 1) := by
  have ecn : x.1 0 6 = y.1 0 48 := h.1.1.cn
  have emn : x.1 0 5 = y.1 0 47 := h.1.1.mn
  refine ⟨sp_okP h.1, by rw [ecn]; exact h.2.1.2.2.2.2.1, fun n hn => ?_, fun n hn => ?_, by rw [emn]; exact h.2.2.2.1.2.2⟩
  · rw [(h.1.2.2.2 n hn).1.ai]; exact h.2.2.2.1.1 n
  · rw [(h.1.2.2.2 n hn).1.op]; exact h.2.2.2.1.2.1 n
theorem sim_ok {k : Nat} {x : PS} {y : RS} (h : Sim (k + 1) x y) : okR (601 * k + 601) (4824 * k + 4824) y := okR_mono2 (by omega) (by omega) h.2.1
theorem sim_dn {k : Nat} {x : PS} {y : RS} (h : Sim (k + 1) x y) : Sim k x y := ⟨h.1, okR_mono2 (by omega) (by omega) h.2.1, h.2.2.1, h.2.2.2.1, by have := h.2.2.2.2; omega⟩
/-- a step that doesn't touch the clock -/
theorem sim_of {k : Nat} {x X : PS} {y Y : RS} (h : Sim (k + 1) x y) (hs : SP X Y) (ho : okR (601 * k) (4824 * k) Y) (hS : okS Y) (hb : BY Y) (ht : Y.1 0 45 = y.1 0 45) : Sim k X Y := by
  refine ⟨hs, ho, hS, hb, ?_⟩
  have e1 : X.1 0 3 = Y.1 0 45 := hs.1.tm
  have e2 : x.1 0 3 = y.1 0 45 := h.1.1.tm
  have := h.2.2.2.2
  rw [e1, ht, ← e2]
  omega
def LRi (k : Nat) (g : (PS × (Nat → Int64)) × Int32) (r : RS × Int32) : Prop := r.1.1 0 0 = g.2 ∧ (g.2 = 0 → g.1.2 0 = r.2.toInt64) ∧ Sim k g.1.1 r.1
def LRz (k : Nat) (g : (PS × (Nat → Int64)) × Int32) (r : RS × Int32) : Prop := r.1.1 0 0 = g.2 ∧ (g.2 = 0 → g.1.2 0 = if r.2 = 0 then 0 else 1) ∧ Sim k g.1.1 r.1
def LRv (k : Nat) (g : (PS × (Nat → Int64)) × Int32) (r : RS) : Prop := r.1 0 0 = g.2 ∧ Sim k g.1.1 r
theorem two_ne : ¬ (2 : Int32) = 0 := by decide
theorem up0 {f : Nat → Int64} {v : Int64} : vp_updL f 0 v 0 = v := pk_uLs
theorem kb_00 {y : RS} {v : Int32} : KB y (sR y 0 0 v) := ⟨fun _ => rfl, fun _ => rfl, rfl, fun _ => rfl, fun _ => rfl⟩
/-- answers of the calls that only read -/
theorem rd_1 {k : Nat} {x : PS} {y : RS} {f : Nat → Int64} {q : Nat × PS × Int32} {r : RS × Int32} (h : Sim (k + 1) x y) (hF : FR q r) (ho : okR (601 * k) (4824 * k) r.1) (hS : okS r.1) (hb : BY r.1) (ht : r.1.1 0 45 = y.1 0 45) (hc : q.1 = 0 ∨ q.1 = 1) : LRi k (if q.1 = 0 then ((q.2.1, vp_updL f 0 q.2.2.toInt64), 0) else ((q.2.1, f), 1)) r := by
  have hs := sim_of h hF.1 ho hS hb ht
  rcases hF.2 with ⟨a, b, c⟩ | ⟨a, b⟩ | ⟨a, b⟩ | ⟨a, b⟩
  · rw [if_pos a]; exact ⟨b, fun _ => by rw [c]; rfl, hs⟩
  · rw [if_neg (by rw [a]; decide)]; exact ⟨b, fun q => absurd q one_ne, hs⟩
  · rcases hc with e | e <;> rw [a] at e <;> exact absurd e (by decide)
  · rcases hc with e | e <;> rw [a] at e <;> exact absurd e (by decide)
theorem rd_2 {k : Nat} {x : PS} {y : RS} {f : Nat → Int64} {q : Nat × PS × Int32} {r : RS × Int32} (h : Sim (k + 1) x y) (hF : FR q r) (ho : okR (601 * k) (4824 * k) r.1) (hS : okS r.1) (hb : BY r.1) (ht : r.1.1 0 45 = y.1 0 45) (hc : q.1 = 0 ∨ q.1 = 1 ∨ q.1 = 2) : LRi k (if q.1 = 0 then ((q.2.1, vp_updL f 0 q.2.2.toInt64), 0) else (if q.1 = 1 then ((q.2.1, f), 1) else ((q.2.1, f), 2))) r := by
  have hs := sim_of h hF.1 ho hS hb ht
  rcases hF.2 with ⟨a, b, c⟩ | ⟨a, b⟩ | ⟨a, b⟩ | ⟨a, b⟩
  · rw [if_pos a]; exact ⟨b, fun _ => by rw [c]; rfl, hs⟩
  · rw [if_neg (by rw [a]; decide), if_pos a]; exact ⟨b, fun q => absurd q one_ne, hs⟩
  · rw [if_neg (by rw [a]; decide), if_neg (by rw [a]; decide)]; exact ⟨b, fun q => absurd q two_ne, hs⟩
  · rcases hc with e | e | e <;> rw [a] at e <;> exact absurd e (by decide)
theorem rd_z {k : Nat} {x : PS} {y : RS} {f : Nat → Int64} {q : Nat × PS × Int32} {r : RS × Int32} (h : Sim (k + 1) x y) (hF : FR q r) (ho : okR (601 * k) (4824 * k) r.1) (hS : okS r.1) (hb : BY r.1) (ht : r.1.1 0 45 = y.1 0 45) (hc : q.1 = 0 ∨ q.1 = 1) : LRz k (if q.1 = 0 then ((q.2.1, vp_updL f 0 (if q.2.2 = 0 then 0 else 1)), 0) else ((q.2.1, f), 1)) r := by
  have hs := sim_of h hF.1 ho hS hb ht
  rcases hF.2 with ⟨a, b, c⟩ | ⟨a, b⟩ | ⟨a, b⟩ | ⟨a, b⟩
  · rw [if_pos a]; exact ⟨b, fun _ => by rw [c]; rfl, hs⟩
  · rw [if_neg (by rw [a]; decide)]; exact ⟨b, fun q => absurd q one_ne, hs⟩
  · rcases hc with e | e <;> rw [a] at e <;> exact absurd e (by decide)
  · rcases hc with e | e <;> rw [a] at e <;> exact absurd e (by decide)
theorem rd_v {k : Nat} {x : PS} {y : RS} {f : Nat → Int64} {q : Nat × PS × Int32} {r : RS} (h : Sim (k + 1) x y) (hF : FV q r) (ho : okR (601 * k) (4824 * k) r) (hS : okS r) (hb : BY r) (ht : r.1 0 45 = y.1 0 45) : LRv k (if q.1 = 0 then ((q.2.1, f), 0) else (if q.1 = 1 then ((q.2.1, f), 1) else (if q.1 = 2 then ((q.2.1, f), 2) else ((q.2.1, f), 3)))) r := by
  have hs := sim_of h hF.1 ho hS hb ht
  rcases hF.2 with ⟨a, b⟩ | ⟨a, b⟩ | ⟨a, b⟩ | ⟨a, b⟩
  · rw [if_pos a]; exact ⟨b, hs⟩
  · rw [if_neg (by rw [a]; decide), if_pos a]; exact ⟨b, hs⟩
  · rw [if_neg (by rw [a]; decide), if_neg (by rw [a]; decide), if_pos a]; exact ⟨b, hs⟩
  · rw [if_neg (by rw [a]; decide), if_neg (by rw [a]; decide), if_neg (by rw [a]; decide)]; exact ⟨b, hs⟩
def KT (y Y : RS) : Prop := Y.1 0 45 = y.1 0 45 ∧ KB y Y
theorem kt_00 {y : RS} {v : Int32} : KT y (sR y 0 0 v) := ⟨rfl, kb_00⟩
theorem kt_tr {a b c : RS} (h1 : KT a b) (h2 : KT b c) : KT a c := ⟨h2.1.trans h1.1, kb_tr h1.2 h2.2⟩
theorem kt_rf {a : RS} : KT a a := ⟨rfl, kb_rf⟩
theorem kt_kp {n : Nat} {y Y : RS} (h : Kp n y Y) : KT y Y := ⟨kp_time h, kp_kb h⟩
theorem kt_44 {y : RS} {k : Nat} {v : Int32} : KT y (sR y 44 k v) := ⟨rfl, fun _ => rfl, fun _ => rfl, rfl, fun _ => rfl, fun _ => rfl⟩
theorem kt_22 {y : RS} {k : Nat} {v : Int32} : KT y (sR y 22 k v) := ⟨rfl, fun _ => rfl, fun _ => rfl, rfl, fun _ => rfl, fun _ => rfl⟩
theorem kt_ite {y : RS} {c : Prop} {h : Decidable c} {a b : RS} (ha : KT y a) (hb : KT y b) : KT y (@ite RS c h a b) := by
  by_cases q : c
  · rw [if_pos q]; exact ha
  · rw [if_neg q]; exact hb
theorem kt_ite1 {α : Type} {y : RS} {c : Prop} {h : Decidable c} {a b : RS × α} (ha : KT y a.1) (hb : KT y b.1) : KT y (@ite (RS × α) c h a b).1 := by
  by_cases q : c
  · rw [if_pos q]; exact ha
  · rw [if_neg q]; exact hb
theorem kt_j87 {y Y : RS} {p a c : Int32} (h : KT y Y) : KT y (fX11_key_J87 p Y c a).1 := by
  have e : ∀ Z : RS, (fX11_key_J138 p Z c a).1 = Z := fun Z => by
    unfold fX11_key_J138
    by_cases q : (0 : Int32) ≤ a
    · rw [if_pos q]
    · rw [if_neg q]
  obtain ⟨j1, j2, j3⟩ := j87 (p := p) (a := a) (c := c) (Y := Y)
  by_cases ha : a = -1
  · rw [j3 ha, e]; exact h
  · by_cases hal : alv p
    · rw [j1 hal ha, e]; exact kt_tr h kt_44
    · rw [j2 hal, e]; exact h
theorem kt_key {y : RS} {p : Int32} (hc : vp_in (y.1 0 48) 3) (ht : 0 ≤ (y.1 0 45).toInt) : KT y (fX11_key p y).1 := by
  have kE := kpX11_enter (y0 := sR y 0 0 0) (x := sR y 0 0 0) (p1 := y.1 0 48) ht hc (fun _ _ _ => rfl)
  have kP := kpX11_press (y0 := sR y 0 0 0) (x := sR y 0 0 0) (p1 := y.1 0 48) (p2 := p) ht hc (fun _ _ _ => rfl)
  have tE := kt_tr (kt_00 (y := y) (v := 0)) (kt_kp kE)
  have tP := kt_tr (kt_00 (y := y) (v := 0)) (kt_kp kP)
  unfold fX11_key fX11_key_J71 fX11_key_J72
  exact kt_ite1 kt_00 (kt_ite1 (kt_ite1 (kt_j87 kt_00) (kt_ite1 (kt_j87 kt_00) (kt_j87 tE))) (kt_ite1 (kt_j87 tP) (kt_j87 tP)))
theorem kt_flow {y : RS} {p1 p2 : Int32} : KT y (fX11_flow p1 p2 y).1 := by
  unfold fX11_flow
  exact kt_ite1 kt_00 (kt_ite1 kt_00 (kt_tr kt_00 kt_22))
theorem kt_about {y : RS} {p : Int32} : KT y (fX11_about p y).1 := by
  unfold fX11_about
  exact kt_ite1 (kt_ite1 kt_00 (kt_ite1 kt_00 (kt_ite1 kt_00 (kt_ite1 (kt_ite1 kt_00 (kt_ite1 kt_00 kt_00)) (kt_ite1 kt_00 kt_00))))) (kt_ite1 kt_00 (kt_ite1 kt_00 (kt_ite1 kt_00 (kt_ite1 (kt_ite1 kt_00 (kt_ite1 kt_00 kt_00)) (kt_ite1 kt_00 kt_00)))))
theorem kt_channel {y : RS} {p1 p2 : Int32} : KT y (fX11_channel p1 p2 y).1 := by
  unfold fX11_channel
  exact kt_ite1 kt_00 (kt_ite1 kt_00 (kt_ite1 kt_00 (kt_ite1 kt_00 (kt_ite1 (kt_ite1 kt_00 kt_00) (kt_ite1 kt_00 (kt_ite1 kt_00 (kt_ite1 kt_00 (kt_ite1 kt_00 (kt_ite1 kt_00 (kt_ite1 kt_00 (kt_ite1 kt_00 (kt_ite1 kt_00 (kt_ite1 (kt_ite1 kt_00 kt_00) (kt_ite1 kt_00 (kt_ite1 kt_00 kt_00)))))))))))))))
theorem kt_entry {y : RS} {p : Int32} : KT y (fX11_entry p y).1 := by
  unfold fX11_entry fX11_entry_J93
  exact kt_ite1 kt_00 (kt_ite1 kt_00 (kt_ite1 (kt_ite1 kt_00 kt_00) (kt_ite1 (kt_ite1 kt_00 kt_00) kt_00)))
theorem kt_rate {y : RS} {p1 p2 p3 : Int32} : KT y (fX11_rate p1 p2 p3 y).1 := by
  unfold fX11_rate
  exact kt_ite1 kt_00 (kt_ite1 kt_00 (kt_ite1 kt_00 kt_00))
theorem kt_log {y : RS} {p1 p2 : Int32} : KT y (fX11_log p1 p2 y).1 := by
  unfold fX11_log
  exact kt_ite1 kt_00 (kt_ite1 kt_00 kt_00)
theorem chAt_c {p1 : Int32} {x : PS} : (fX10_channelAt p1 x).1 = 0 ∨ (fX10_channelAt p1 x).1 = 1 := by
  by_cases hr : 0 ≤ p1.toInt ∧ p1.toInt ≤ 2
  · exact Or.inl (chAt_0 hr)
  · rw [chAt_1 hr]; exact Or.inr rfl
theorem c_ite {c : Prop} {h : Decidable c} {a b : Nat × PS × Int32} {P : Nat → Prop} (ha : c → P a.1) (hb : ¬ c → P b.1) : P (@ite (Nat × PS × Int32) c h a b).1 := by
  by_cases q : c
  · rw [if_pos q]; exact ha q
  · rw [if_neg q]; exact hb q
def C01 (k : Nat) : Prop := k = 0 ∨ k = 1
def C012 (k : Nat) : Prop := k = 0 ∨ k = 1 ∨ k = 2
theorem c0 : C01 0 := Or.inl rfl
theorem c1 : C01 (xcode "java/lang/IndexOutOfBoundsException") := Or.inr xc_1'
theorem d0 : C012 0 := Or.inl rfl
theorem d1 : C012 (xcode "java/lang/IndexOutOfBoundsException") := Or.inr (Or.inl xc_1')
theorem d2 : C012 (xcode "java/lang/IllegalArgumentException") := Or.inr (Or.inr xc_2')
theorem chAt_d {p1 : Int32} {x : PS} : C012 (fX10_channelAt p1 x).1 := by
  rcases chAt_c (p1 := p1) (x := x) with q | q
  · exact Or.inl q
  · exact Or.inr (Or.inl q)
theorem cod_flow {p1 p2 : Int32} {x : PS} : C012 (fX10_flow p1 p2 x).1 := by
  unfold fX10_flow
  exact c_ite (P := C012) (fun _ => c_ite (P := C012) (fun _ => d2) (fun _ => c_ite (P := C012) (fun _ => d0) (fun _ => d2))) (fun _ => chAt_d)
theorem cod_air {p1 p2 : Int32} {x : PS} : C01 (fX10_air p1 p2 x).1 := by
  unfold fX10_air
  exact c_ite (P := C01) (fun _ => c0) (fun _ => chAt_c)
theorem cod_door {p1 p2 : Int32} {x : PS} : C01 (fX10_door p1 p2 x).1 := by
  unfold fX10_door
  exact c_ite (P := C01) (fun _ => c_ite (P := C01) (fun _ => c0) (fun _ => c_ite (P := C01) (fun _ => c0) (fun _ => c0))) (fun _ => chAt_c)
theorem cod_about {p : Int32} {x : PS} : C01 (fX10_about p x).1 := by
  unfold fX10_about
  exact c_ite (P := C01) (fun _ => c0) (fun _ => c_ite (P := C01) (fun _ => c0) (fun _ => c_ite (P := C01) (fun _ => c0) (fun _ => c_ite (P := C01) (fun _ => c_ite (P := C01) (fun _ => c0) (fun _ => c0)) (fun _ => c_ite (P := C01) (fun _ => c0) (fun _ => c1)))))
theorem cod_channel {p1 p2 : Int32} {x : PS} : C01 (fX10_channel p1 p2 x).1 := by
  unfold fX10_channel
  exact c_ite (P := C01) (fun _ => c_ite (P := C01) (fun _ => c0) (fun _ => c_ite (P := C01) (fun _ => c0) (fun _ => c_ite (P := C01) (fun _ => c0) (fun _ => c_ite (P := C01) (fun _ => c0) (fun _ => c_ite (P := C01) (fun _ => c0) (fun _ => c_ite (P := C01) (fun _ => c0) (fun _ => c_ite (P := C01) (fun _ => c0) (fun _ => c_ite (P := C01) (fun _ => c0) (fun _ => c_ite (P := C01) (fun _ => c0) (fun _ => c_ite (P := C01) (fun _ => c0) (fun _ => c_ite (P := C01) (fun _ => c0) (fun _ => c_ite (P := C01) (fun _ => c_ite (P := C01) (fun _ => c0) (fun _ => c0)) (fun _ => c_ite (P := C01) (fun _ => c0) (fun _ => c_ite (P := C01) (fun _ => c0) (fun _ => c_ite (P := C01) (fun _ => c0) (fun _ => c1)))))))))))))))) (fun _ => chAt_c)
theorem cod_entry {p : Int32} {x : PS} : C01 (fX10_entry p x).1 := by
  unfold fX10_entry
  exact c_ite (P := C01) (fun _ => c0) (fun _ => c_ite (P := C01) (fun _ => c0) (fun _ => c_ite (P := C01) (fun _ => c_ite (P := C01) (fun _ => c0) (fun _ => c0)) (fun _ => c1)))
theorem cod_log {p1 p2 : Int32} {x : PS} : C01 (fX10_log p1 p2 x).1 := by
  unfold fX10_log
  exact c_ite (P := C01) (fun _ => c1) (fun _ => c_ite (P := C01) (fun _ => c1) (fun _ => c_ite (P := C01) (fun _ => c0) (fun _ => c1)))
theorem cod_rate {p1 p2 p3 : Int32} {x : PS} : C012 (fX10_rate p1 p2 p3 x).1 := by
  have ht : C012 (fX10_toldDrug p1 x).1 := by
    unfold fX10_toldDrug
    exact c_ite (P := C012) (fun _ => d1) (fun _ => d0)
  unfold fX10_rate
  exact c_ite (P := C012) (fun _ => c_ite (P := C012) (fun _ => d2) (fun _ => c_ite (P := C012) (fun _ => d2) (fun _ => c_ite (P := C012) (fun _ => d2) (fun _ => c_ite (P := C012) (fun _ => d0) (fun _ => d2))))) (fun _ => ht)
section SIM
variable {k : Nat} {x : PS} {y : RS} {f : Nat → Int64} {p1 p2 p3 p4 p5 p6 p7 : Int32}
theorem sim_flow (h : Sim (k + 1) x y) : LRi k (gL_flow p1 p2 x f) (fX11_flow p1 p2 y) := rd_2 h (s_flow h.1) (okX11_flow (okR_mono2 (by omega) (by omega) h.2.1)) (oks_kb h.2.2.1 kt_flow.2) (by_kb h.2.2.2.1 kt_flow.2) kt_flow.1 cod_flow
theorem sim_about (h : Sim (k + 1) x y) : LRi k (gL_about p1 x f) (fX11_about p1 y) := rd_1 h (s_about h.1) (okX11_about (okR_mono2 (by omega) (by omega) h.2.1)) (oks_kb h.2.2.1 kt_about.2) (by_kb h.2.2.2.1 kt_about.2) kt_about.1 cod_about
theorem sim_channel (h : Sim (k + 1) x y) : LRi k (gL_channel p1 p2 x f) (fX11_channel p1 p2 y) := rd_1 h (s_channel h.1) (okX11_channel (okR_mono2 (by omega) (by omega) h.2.1)) (oks_kb h.2.2.1 kt_channel.2) (by_kb h.2.2.2.1 kt_channel.2) kt_channel.1 cod_channel
theorem sim_entry (h : Sim (k + 1) x y) : LRi k (gL_entry p1 x f) (fX11_entry p1 y) := rd_1 h (s_entry_f h.1 h.2.1.2.2.2.2.1) (okX11_entry (okR_mono2 (by omega) (by omega) h.2.1)) (oks_kb h.2.2.1 kt_entry.2) (by_kb h.2.2.2.1 kt_entry.2) kt_entry.1 cod_entry
theorem sim_rate (h : Sim (k + 1) x y) : LRi k (gL_rate p1 p2 p3 x f) (fX11_rate p1 p2 p3 y) := rd_2 h (s_rate h.1 h.2.2.1) (okX11_rate (okR_mono2 (by omega) (by omega) h.2.1)) (oks_kb h.2.2.1 kt_rate.2) (by_kb h.2.2.2.1 kt_rate.2) kt_rate.1 cod_rate
theorem sim_log (h : Sim (k + 1) x y) : LRi k (gL_log p1 p2 x f) (fX11_log p1 p2 y) := rd_1 h (s_log h.1 h.2.1) (okX11_log (okR_mono2 (by omega) (by omega) h.2.1)) (oks_kb h.2.2.1 kt_log.2) (by_kb h.2.2.2.1 kt_log.2) kt_log.1 cod_log
theorem by_23 {c : Nat} {v : Int32} (h : BY y) (hv : v = 0 ∨ v = 1) : BY (sR y 23 c v) := by
  refine ⟨fun j => ?_, h.2.1, h.2.2⟩
  show va_up (y.1 23) c v j = 0 ∨ va_up (y.1 23) c v j = 1
  by_cases e : j = c
  · rw [e, va_up_self]; exact hv
  · rw [va_up_ne _ _ e]; exact h.1 j
theorem by_24 {c : Nat} {v : Int32} (h : BY y) (hv : v = 0 ∨ v = 1) : BY (sR y 24 c v) := by
  refine ⟨h.1, fun j => ?_, h.2.2⟩
  show va_up (y.1 24) c v j = 0 ∨ va_up (y.1 24) c v j = 1
  by_cases e : j = c
  · rw [e, va_up_self]; exact hv
  · rw [va_up_ne _ _ e]; exact h.2.1 j
theorem sim_air (h : Sim (k + 1) x y) (hp : p2 = 0 ∨ p2 = 1) : LRz k (gL_air p1 p2 x f) (fX11_air p1 p2 y) := by
  have b0 : ∀ v, BY (sR y 0 0 v) := fun v => by_kb h.2.2.2.1 kb_00
  have a : BY (fX11_air p1 p2 y).1 ∧ okS (fX11_air p1 p2 y).1 ∧ (fX11_air p1 p2 y).1.1 0 45 = y.1 0 45 := by
    unfold fX11_air
    by_cases hr : 0 ≤ p1.toInt ∧ p1.toInt ≤ 2
    · rw [isch_1 hr, if_neg one_ne]; exact ⟨by_23 (b0 0) hp, h.2.2.1, rfl⟩
    · rw [isch_0 hr, if_pos rfl]; exact ⟨b0 1, h.2.2.1, rfl⟩
  exact rd_z h (s_air h.1) (okX11_air (okR_mono2 (by omega) (by omega) h.2.1)) a.2.1 a.1 a.2.2 cod_air
theorem sim_door (h : Sim (k + 1) x y) (hp : p2 = 0 ∨ p2 = 1) : LRz k (gL_door p1 p2 x f) (fX11_door p1 p2 y) := by
  have b0 : ∀ v, BY (sR y 0 0 v) := fun v => by_kb h.2.2.2.1 kb_00
  have a : BY (fX11_door p1 p2 y).1 ∧ okS (fX11_door p1 p2 y).1 ∧ (fX11_door p1 p2 y).1.1 0 45 = y.1 0 45 := by
    unfold fX11_door
    by_cases hr : 0 ≤ p1.toInt ∧ p1.toInt ≤ 2
    · rw [isch_1 hr, if_neg one_ne]
      obtain ⟨n, hn, e⟩ := ch3 hr
      subst e
      have g24 : BY (sR (sR y 0 0 0) 24 (nI n).toNatClampNeg p2) ∧ okS (sR (sR y 0 0 0) 24 (nI n).toNatClampNeg p2) ∧ (sR (sR y 0 0 0) 24 (nI n).toNatClampNeg p2).1 0 45 = y.1 0 45 := ⟨by_24 (b0 0) hp, h.2.2.1, rfl⟩
      have hL := t_latch (n := n) (p := 2) (y := sR (sR y 0 0 0) 24 (nI n).toNatClampNeg p2) hn (by rw [g24.2.2]; exact h.2.1.1.1)
      have gL : BY (fX11_latch (nI n) 2 (sR (sR y 0 0 0) 24 (nI n).toNatClampNeg p2)) ∧ okS (fX11_latch (nI n) 2 (sR (sR y 0 0 0) 24 (nI n).toNatClampNeg p2)) ∧ (fX11_latch (nI n) 2 (sR (sR y 0 0 0) 24 (nI n).toNatClampNeg p2)).1 0 45 = y.1 0 45 := ⟨by_kb g24.1 hL.2.2, oks_kb g24.2.1 hL.2.2, hL.1.trans g24.2.2⟩
      by_cases q0 : p2 = 0
      · rw [if_pos q0]; exact g24
      · rw [if_neg q0]
        by_cases q7 : ((sR y 0 0 0, (1 : Int32)).1.1 13 (nI n).toNatClampNeg) = 7
        · rw [if_pos q7]; exact gL
        · rw [if_neg q7]; exact g24
    · rw [isch_0 hr, if_pos rfl]; exact ⟨b0 1, h.2.2.1, rfl⟩
  exact rd_z h (s_door h.1 h.2.1) (okX11_door (okR_mono2 (by omega) (by omega) h.2.1)) a.2.1 a.1 a.2.2 cod_door
theorem kt_drug : (fX11_drug p1 p2 p3 p4 p5 p6 p7 y).1 0 45 = y.1 0 45 ∧ ((BY y → BY (fX11_drug p1 p2 p3 p4 p5 p6 p7 y))) := by
  rw [gdrug_r]
  unfold fX11_drug_J85
  have t : ∀ Y : RS, (Y = sR y 0 0 1 ∨ Y = sR y 0 0 2 ∨ Y = sR y 0 0 3) → Y.1 0 45 = y.1 0 45 ∧ (BY y → BY Y) := by
    intro Y q
    rcases q with q | q | q <;> rw [q] <;> exact ⟨rfl, fun b => b⟩
  by_cases g : (0 ≤ p2.toInt ∧ p2.toInt ≤ 1) ∧ (1 ≤ p3.toInt ∧ p3.toInt ≤ 10000) ∧ (1 ≤ p4.toInt ∧ p4.toInt ≤ p5.toInt ∧ p5.toInt ≤ p6.toInt ∧ p6.toInt ≤ p7.toInt ∧ p7.toInt ≤ 99999)
  · rw [if_pos g]
    by_cases c1 : fX11_isIn p1.toInt64 0 15 y = 0
    · rw [if_pos c1]; exact t _ (Or.inl rfl)
    · rw [if_neg c1, if_neg one_ne]
      by_cases c2 : fX11_isUsed p1 y = 0
      · rw [if_pos c2]; exact ⟨rfl, fun b => b⟩
      · rw [if_neg c2]; exact t _ (Or.inr (Or.inr rfl))
  · rw [if_neg g]
    by_cases c1 : fX11_isIn p1.toInt64 0 15 y = 0
    · rw [if_pos c1]; exact t _ (Or.inl rfl)
    · rw [if_neg c1, if_pos rfl]; exact t _ (Or.inr (Or.inl rfl))
theorem kt_more : (fX11_more p1 p2 p3 p4 p5 p6 y).1 0 45 = y.1 0 45 ∧ ((BY y → BY (fX11_more p1 p2 p3 p4 p5 p6 y))) := by
  rw [gmore_r]
  unfold fX11_more_J68
  have t : ∀ Y : RS, (Y = sR y 0 0 1 ∨ Y = sR y 0 0 2 ∨ Y = sR y 0 0 3) → Y.1 0 45 = y.1 0 45 ∧ (BY y → BY Y) := by
    intro Y q
    rcases q with q | q | q <;> rw [q] <;> exact ⟨rfl, fun b => b⟩
  by_cases g : (1 ≤ p2.toInt ∧ p2.toInt ≤ 100000) ∧ (0 ≤ p3.toInt ∧ p3.toInt ≤ 5000) ∧ (1 ≤ p4.toInt ∧ p4.toInt ≤ 30) ∧ (0 ≤ p5.toInt ∧ p5.toInt ≤ 3600) ∧ (1 ≤ p6.toInt ∧ p6.toInt ≤ 20)
  · rw [if_pos g]
    by_cases c1 : fX11_isDrug p1 y = 0
    · rw [if_pos c1]; exact t _ (Or.inl rfl)
    · rw [if_neg c1, if_neg one_ne]
      by_cases c2 : fX11_isUsed p1 y = 0
      · rw [if_pos c2]; exact ⟨rfl, fun b => b⟩
      · rw [if_neg c2]; exact t _ (Or.inr (Or.inr rfl))
  · rw [if_neg g]
    by_cases c1 : fX11_isDrug p1 y = 0
    · rw [if_pos c1]; exact t _ (Or.inl rfl)
    · rw [if_neg c1, if_pos rfl]; exact t _ (Or.inr (Or.inl rfl))
theorem sim_drug (h : Sim (k + 1) x y) : LRv k (gL_drug p1 p2 p3 p4 p5 p6 p7 x f) (fX11_drug p1 p2 p3 p4 p5 p6 p7 y) := rd_v h (s_drug h.1).1 (okX11_drug (okR_mono2 (by omega) (by omega) h.2.1)) ((s_drug h.1).2 h.2.2.1) (kt_drug.2 h.2.2.2.1) kt_drug.1
theorem sim_more (h : Sim (k + 1) x y) : LRv k (gL_more p1 p2 p3 p4 p5 p6 x f) (fX11_more p1 p2 p3 p4 p5 p6 y) := rd_v h (s_more h.1).1 (okX11_more (okR_mono2 (by omega) (by omega) h.2.1)) ((s_more h.1).2 h.2.2.1) (kt_more.2 h.2.2.2.1) kt_more.1
theorem sim_key (h : Sim (k + 1) x y) : LRi k (gL_key p1 x f) (fX11_key p1 y) ∧ ((fX10_key p1 x).1 = 0 ∨ (fX10_key p1 x).1 = 2) := by
  obtain ⟨a1, a2, a3⟩ := s_key (T := 601 * k) (B := 4824 * k) (p := p1) h.1 (okR_mono2 (by omega) (by omega) h.2.1) h.2.2.1
  have kk := kt_key (p := p1) h.2.1.2.2.2.2.1 h.2.1.1.1
  have hs := sim_of h a1 a2 (oks_kb h.2.2.1 kk.2) (by_kb h.2.2.2.1 kk.2) kk.1
  unfold gL_key
  rcases a3 with ⟨b1, b2, b3⟩ | ⟨b1, b2⟩
  · rw [if_pos b1]; exact ⟨⟨b2, fun _ => by rw [b3]; rfl, hs⟩, Or.inl b1⟩
  · rw [if_neg (by rw [b1]; decide)]; exact ⟨⟨b2, fun q => absurd q one_ne, hs⟩, Or.inr b1⟩
theorem sim_ticks (h : Sim (k + 1) x y) : LRi k (gL_ticks p1 x f) (fX11_ticks p1 y) ∧ ((fX10_ticks p1 x).1 = 0 ∨ (fX10_ticks p1 x).1 = 2) := by
  have hb := h.2.2.2.2
  obtain ⟨a1, a2, a3, a4, a5⟩ := s_ticks (T := 601 * k) (B := 4824 * k) (p1 := p1) h.1 (by omega) (okR_mono2 (by omega) (by omega) h.2.1)
  have hs : Sim k (fX10_ticks p1 x).2.1 (fX11_ticks p1 y).1 := ⟨a1, a2, oks_kb h.2.2.1 a4, by_kb h.2.2.2.1 a4, by omega⟩
  unfold gL_ticks
  rcases a5 with ⟨b1, b2, b3⟩ | ⟨b1, b2⟩
  · rw [if_pos b1]; exact ⟨⟨b2, fun _ => by rw [b3]; rfl, hs⟩, Or.inl b1⟩
  · rw [if_neg (by rw [b1]; decide)]; exact ⟨⟨b2, fun q => absurd q one_ne, hs⟩, Or.inr b1⟩
theorem sim_mains (h : Sim (k + 1) x y) (hp : p1 = 0 ∨ p1 = 1) : (fX10_mains p1 x).2 = (fX11_mains p1 y).2 ∧ Sim k (fX10_mains p1 x).1 (fX11_mains p1 y).1 := by
  have a := s_mains (p := p1) h.1
  exact ⟨a.2, sim_of h a.1 (okX11_mains (okR_mono2 (by omega) (by omega) h.2.1)) h.2.2.1 ⟨h.2.2.2.1.1, h.2.2.2.1.2.1, hp⟩ rfl⟩
theorem sim_chain (h : Sim (k + 1) x y) : fX10_chain x = (fX11_chain y).2 ∧ Sim k x (fX11_chain y).1 := by
  have a := s_chain h.1
  exact ⟨a.1, sim_of h a.2 (okX11_chain (okR_mono2 (by omega) (by omega) h.2.1)) h.2.2.1 (by_kb h.2.2.2.1 kb_00) rfl⟩
end SIM
