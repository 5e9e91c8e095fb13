/-! the law's own methods -/
def gL_drug (p1 : Int32) (p2 : Int32) (p3 : Int32) (p4 : Int32) (p5 : Int32) (p6 : Int32) (p7 : Int32) (x : PS) (f : Nat → Int64) : (PS × (Nat → Int64)) × Int32 := if (fX10_drug p1 p2 p3 p4 p5 p6 p7 x).1 = 0 then (((fX10_drug p1 p2 p3 p4 p5 p6 p7 x).2.1, f), 0) else (if (fX10_drug p1 p2 p3 p4 p5 p6 p7 x).1 = 1 then (((fX10_drug p1 p2 p3 p4 p5 p6 p7 x).2.1, f), 1) else (if (fX10_drug p1 p2 p3 p4 p5 p6 p7 x).1 = 2 then (((fX10_drug p1 p2 p3 p4 p5 p6 p7 x).2.1, f), 2) else (((fX10_drug p1 p2 p3 p4 p5 p6 p7 x).2.1, f), 3)))
set_option maxHeartbeats 4000000 in
set_option maxRecDepth 100000 in
theorem mL_drug (l : Launch) (hl9 : l.stackTraces = false) (E : eE) (bb oa sz : Nat) (hoa : ¬ cA bb oa) (x : PS) (f : Nat → Int64) (p1 : Int32) (p2 : Int32) (p3 : Int32) (p4 : Int32) (p5 : Int32) (p6 : Int32) (p7 : Int32) (hok : okP x) : vx_Met l yL_drug wsL_drug ({ frames := 8, cells := 1, slots := 6, locals := 140 }) (lPre E bb oa sz (x, f) [.ref (bb + 0), .int (p1), .int (p2), .int (p3), .int (p4), .int (p5), .int (p6), .int (p7)]) (xQi E (lW E bb oa) (0, gL_drug p1 p2 p3 p4 p5 p6 p7 x f) (lA bb oa sz)) (fun _ _ _ => False) 1 6 (lA bb oa sz) := by
  refine vx_ofWH (cc := cL_drug) (maxL := 9) (ret := (some .int)) (hh := [(0, 15, 18, 13), (0, 15, 22, 15), (0, 15, 26, 17)]) (by decide) rfl ?_
  intro p e s m args below meth c s₁ B hml hv
  obtain ⟨rfl, hsz, hB, hK, hxs, hNc⟩ := hv
  subst hsz
  have hx := B.exec
  have hb := B.bytes
  have hr := B.returns
  have hts := atoms_spec (ws := wsL_drug) B.pre
  have hown : s.vm.findClass RL = some m.cls := findClass_of_methodNamed B.named
  have hlocks := B.notSynchronized
  have htab := vx_table B (x := yL_drug) (hts _ List.mem_cons_self)
  have hS : va_S (lA bb oa s.heap.size) s.heap s.heap [] := va_S.rf
  have hl := lv_entry ([.ref (bb + 0), .int (p1), .int (p2), .int (p3), .int (p4), .int (p5), .int (p6), .int (p7)]) (n := 9) (Nat.le_of_ble_eq_true rfl)
  rw [lg_entry_eq]
  generalize (lg_sl ([.ref (bb + 0), .int (p1), .int (p2), .int (p3), .int (p4), .int (p5), .int (p6), .int (p7)]) ++ List.replicate (9 - (lg_sl ([.ref (bb + 0), .int (p1), .int (p2), .int (p3), .int (p4), .int (p5), .int (p6), .int (p7)])).length) Slot.unset).toArray = ls at hl ⊢
  have hl : lv_has ls 9 [(0, .ref (bb + 0)), (1, .int (p1)), (2, .int (p2)), (3, .int (p3)), (4, .int (p4)), (5, .int (p5)), (6, .int (p6)), (7, .int (p7))] := hl
  refine lv_aload_n hx hb dL_drug_0 rfl (lv_at hl 0 rfl) ?_
  refine lv_iload_n hx hb dL_drug_1 rfl (lv_at hl 1 rfl) ?_
  refine lv_iload_n hx hb dL_drug_2 rfl (lv_at hl 2 rfl) ?_
  refine lv_iload_n hx hb dL_drug_3 rfl (lv_at hl 3 rfl) ?_
  refine lv_iload hx hb dL_drug_4 (lv_at hl 4 rfl) ?_
  refine lv_iload hx hb dL_drug_6 (lv_at hl 5 rfl) ?_
  refine lv_iload hx hb dL_drug_8 (lv_at hl 6 rfl) ?_
  refine lv_iload hx hb dL_drug_10 (lv_at hl 7 rfl) ?_
  refine lx_cv (rest := []) ⟨hx, hb, hml, hown, hts⟩ (mX10_drug l hl9 E bb _ x p1 p2 p3 p4 p5 p6 p7 hok) (cwV 7 hts gL_drug_X10_drug rfl rfl rfl (by decide +kernel) ⟨(Nat.le_of_ble_eq_true rfl), (Nat.le_of_ble_eq_true rfl)⟩) hB hoa hK hxs (fx_recv hK (pw_P (o := 0) hB.1 (by decide)) rfl) rfl hl.1 rfl (Nat.le_of_ble_eq_true rfl) dL_drug_12 ⟨(Nat.le_of_ble_eq_true rfl), (Nat.le_of_ble_eq_true rfl)⟩ hS (fun X ce q9 H locs hX hcode hB hS hce hcv hcl => ?_) (fun H locs hz hB hS => ?_)
  · rcases xEs_cases hX with rfl | rfl | rfl
    · refine wx_catch (nm := "java/lang/IndexOutOfBoundsException") hown [] ⟨0, 15, 18, 13⟩ [⟨0, 15, 22, 15⟩, ⟨0, 15, 26, 17⟩] (htab.trans rfl) (fun z hz => absurd hz List.not_mem_nil) (by decide) (by decide) (hts (.classLink RL 13 "java/lang/IndexOutOfBoundsException") (by decide +kernel)) (xS_cast hxs hX) hce hcv hcl ?_
      refine lv_astore (lv' := [(8, .ref q9), (0, .ref (bb + 0)), (1, .int (p1)), (2, .int (p2)), (3, .int (p3)), (4, .int (p4)), (5, .int (p5)), (6, .int (p6)), (7, .int (p7))]) hx hb dL_drug_18 hl (by decide) rfl (fun ls hl => ?_)
      refine lv_iconst (v := 1) hx hb dL_drug_20 (by decide) ?_
      exact xx_iret hx hb hr rfl hlocks hK (congrArg (Prod.mk 0) (show gL_drug p1 p2 p3 p4 p5 p6 p7 x f = _ by unfold gL_drug; rw [if_neg (show ¬ (fX10_drug p1 p2 p3 p4 p5 p6 p7 x).1 = 0 by rw [hcode, xc_1]; decide), if_pos (show (fX10_drug p1 p2 p3 p4 p5 p6 p7 x).1 = 1 by rw [hcode, xc_1])])) hB hS dL_drug_21 (Nat.le_of_ble_eq_true rfl) (Nat.le_of_ble_eq_true rfl)
    · refine wx_catch (nm := "java/lang/IllegalArgumentException") hown [⟨0, 15, 18, 13⟩] ⟨0, 15, 22, 15⟩ [⟨0, 15, 26, 17⟩] (htab.trans rfl) (fun z hz => by
      simp only [List.mem_cons, List.not_mem_nil, or_false] at hz
      rcases hz with rfl
      · exact ⟨by decide, by decide, "java/lang/IndexOutOfBoundsException", hts (.classLink RL 13 "java/lang/IndexOutOfBoundsException") (by decide +kernel), hNc.1⟩) (by decide) (by decide) (hts (.classLink RL 15 "java/lang/IllegalArgumentException") (by decide +kernel)) (xS_cast hxs hX) hce hcv hcl ?_
      refine lv_astore (lv' := [(8, .ref q9), (0, .ref (bb + 0)), (1, .int (p1)), (2, .int (p2)), (3, .int (p3)), (4, .int (p4)), (5, .int (p5)), (6, .int (p6)), (7, .int (p7))]) hx hb dL_drug_22 hl (by decide) rfl (fun ls hl => ?_)
      refine lv_iconst (v := 2) hx hb dL_drug_24 (by decide) ?_
      exact xx_iret hx hb hr rfl hlocks hK (congrArg (Prod.mk 0) (show gL_drug p1 p2 p3 p4 p5 p6 p7 x f = _ by unfold gL_drug; rw [if_neg (show ¬ (fX10_drug p1 p2 p3 p4 p5 p6 p7 x).1 = 0 by rw [hcode, xc_2]; decide), if_neg (show ¬ (fX10_drug p1 p2 p3 p4 p5 p6 p7 x).1 = 1 by rw [hcode, xc_2]; decide), if_pos (show (fX10_drug p1 p2 p3 p4 p5 p6 p7 x).1 = 2 by rw [hcode, xc_2])])) hB hS dL_drug_25 (Nat.le_of_ble_eq_true rfl) (Nat.le_of_ble_eq_true rfl)
    · refine wx_catch (nm := "java/lang/IllegalStateException") hown [⟨0, 15, 18, 13⟩, ⟨0, 15, 22, 15⟩] ⟨0, 15, 26, 17⟩ [] (htab.trans rfl) (fun z hz => by
      simp only [List.mem_cons, List.not_mem_nil, or_false] at hz
      rcases hz with rfl | rfl
      · exact ⟨by decide, by decide, "java/lang/IndexOutOfBoundsException", hts (.classLink RL 13 "java/lang/IndexOutOfBoundsException") (by decide +kernel), hNc.2.1⟩
      · exact ⟨by decide, by decide, "java/lang/IllegalArgumentException", hts (.classLink RL 15 "java/lang/IllegalArgumentException") (by decide +kernel), hNc.2.2⟩) (by decide) (by decide) (hts (.classLink RL 17 "java/lang/IllegalStateException") (by decide +kernel)) (xS_cast hxs hX) hce hcv hcl ?_
      refine lv_astore (lv' := [(8, .ref q9), (0, .ref (bb + 0)), (1, .int (p1)), (2, .int (p2)), (3, .int (p3)), (4, .int (p4)), (5, .int (p5)), (6, .int (p6)), (7, .int (p7))]) hx hb dL_drug_26 hl (by decide) rfl (fun ls hl => ?_)
      refine lv_iconst (v := 3) hx hb dL_drug_28 (by decide) ?_
      exact xx_iret hx hb hr rfl hlocks hK (congrArg (Prod.mk 0) (show gL_drug p1 p2 p3 p4 p5 p6 p7 x f = _ by unfold gL_drug; rw [if_neg (show ¬ (fX10_drug p1 p2 p3 p4 p5 p6 p7 x).1 = 0 by rw [hcode, xc_3]; decide), if_neg (show ¬ (fX10_drug p1 p2 p3 p4 p5 p6 p7 x).1 = 1 by rw [hcode, xc_3]; decide), if_neg (show ¬ (fX10_drug p1 p2 p3 p4 p5 p6 p7 x).1 = 2 by rw [hcode, xc_3]; decide)])) hB hS dL_drug_29 (Nat.le_of_ble_eq_true rfl) (Nat.le_of_ble_eq_true rfl)
  · refine lv_goto (tgt := 30) hx hb dL_drug_15 (by decide) ?_
    refine lv_iconst (v := 0) hx hb dL_drug_30 (by decide) ?_
    exact xx_iret hx hb hr rfl hlocks hK (congrArg (Prod.mk 0) (show gL_drug p1 p2 p3 p4 p5 p6 p7 x f = _ by unfold gL_drug; rw [if_pos hz])) hB hS dL_drug_31 (Nat.le_of_ble_eq_true rfl) (Nat.le_of_ble_eq_true rfl)

def gL_more (p1 : Int32) (p2 : Int32) (p3 : Int32) (p4 : Int32) (p5 : Int32) (p6 : Int32) (x : PS) (f : Nat → Int64) : (PS × (Nat → Int64)) × Int32 := if (fX10_more p1 p2 p3 p4 p5 p6 x).1 = 0 then (((fX10_more p1 p2 p3 p4 p5 p6 x).2.1, f), 0) else (if (fX10_more p1 p2 p3 p4 p5 p6 x).1 = 1 then (((fX10_more p1 p2 p3 p4 p5 p6 x).2.1, f), 1) else (if (fX10_more p1 p2 p3 p4 p5 p6 x).1 = 2 then (((fX10_more p1 p2 p3 p4 p5 p6 x).2.1, f), 2) else (((fX10_more p1 p2 p3 p4 p5 p6 x).2.1, f), 3)))
set_option maxHeartbeats 4000000 in
set_option maxRecDepth 100000 in
theorem mL_more (l : Launch) (hl9 : l.stackTraces = false) (E : eE) (bb oa sz : Nat) (hoa : ¬ cA bb oa) (x : PS) (f : Nat → Int64) (p1 : Int32) (p2 : Int32) (p3 : Int32) (p4 : Int32) (p5 : Int32) (p6 : Int32) (hok : okP x) : vx_Met l yL_more wsL_more ({ frames := 8, cells := 2, slots := 12, locals := 139 }) (lPre E bb oa sz (x, f) [.ref (bb + 0), .int (p1), .int (p2), .int (p3), .int (p4), .int (p5), .int (p6)]) (xQi E (lW E bb oa) (0, gL_more p1 p2 p3 p4 p5 p6 x f) (lA bb oa sz)) (fun _ _ _ => False) 2 12 (lA bb oa sz) := by
  refine vx_ofWH (cc := cL_more) (maxL := 8) (ret := (some .int)) (hh := [(0, 13, 16, 13), (0, 13, 20, 15), (0, 13, 24, 17)]) (by decide) rfl ?_
  intro p e s m args below meth c s₁ B hml hv
  obtain ⟨rfl, hsz, hB, hK, hxs, hNc⟩ := hv
  subst hsz
  have hx := B.exec
  have hb := B.bytes
  have hr := B.returns
  have hts := atoms_spec (ws := wsL_more) B.pre
  have hown : s.vm.findClass RL = some m.cls := findClass_of_methodNamed B.named
  have hlocks := B.notSynchronized
  have htab := vx_table B (x := yL_more) (hts _ List.mem_cons_self)
  have hS : va_S (lA bb oa s.heap.size) s.heap s.heap [] := va_S.rf
  have hl := lv_entry ([.ref (bb + 0), .int (p1), .int (p2), .int (p3), .int (p4), .int (p5), .int (p6)]) (n := 8) (Nat.le_of_ble_eq_true rfl)
  rw [lg_entry_eq]
  generalize (lg_sl ([.ref (bb + 0), .int (p1), .int (p2), .int (p3), .int (p4), .int (p5), .int (p6)]) ++ List.replicate (8 - (lg_sl ([.ref (bb + 0), .int (p1), .int (p2), .int (p3), .int (p4), .int (p5), .int (p6)])).length) Slot.unset).toArray = ls at hl ⊢
  have hl : lv_has ls 8 [(0, .ref (bb + 0)), (1, .int (p1)), (2, .int (p2)), (3, .int (p3)), (4, .int (p4)), (5, .int (p5)), (6, .int (p6))] := hl
  refine lv_aload_n hx hb dL_more_0 rfl (lv_at hl 0 rfl) ?_
  refine lv_iload_n hx hb dL_more_1 rfl (lv_at hl 1 rfl) ?_
  refine lv_iload_n hx hb dL_more_2 rfl (lv_at hl 2 rfl) ?_
  refine lv_iload_n hx hb dL_more_3 rfl (lv_at hl 3 rfl) ?_
  refine lv_iload hx hb dL_more_4 (lv_at hl 4 rfl) ?_
  refine lv_iload hx hb dL_more_6 (lv_at hl 5 rfl) ?_
  refine lv_iload hx hb dL_more_8 (lv_at hl 6 rfl) ?_
  refine lx_cv (rest := []) ⟨hx, hb, hml, hown, hts⟩ (mX10_more l hl9 E bb _ x p1 p2 p3 p4 p5 p6 hok) (cwV 6 hts gL_more_X10_more rfl rfl rfl (by decide +kernel) ⟨(Nat.le_of_ble_eq_true rfl), (Nat.le_of_ble_eq_true rfl)⟩) hB hoa hK hxs (fx_recv hK (pw_P (o := 0) hB.1 (by decide)) rfl) rfl hl.1 rfl (Nat.le_of_ble_eq_true rfl) dL_more_10 ⟨(Nat.le_of_ble_eq_true rfl), (Nat.le_of_ble_eq_true rfl)⟩ hS (fun X ce q9 H locs hX hcode hB hS hce hcv hcl => ?_) (fun H locs hz hB hS => ?_)
  · rcases xEs_cases hX with rfl | rfl | rfl
    · refine wx_catch (nm := "java/lang/IndexOutOfBoundsException") hown [] ⟨0, 13, 16, 13⟩ [⟨0, 13, 20, 15⟩, ⟨0, 13, 24, 17⟩] (htab.trans rfl) (fun z hz => absurd hz List.not_mem_nil) (by decide) (by decide) (hts (.classLink RL 13 "java/lang/IndexOutOfBoundsException") (by decide +kernel)) (xS_cast hxs hX) hce hcv hcl ?_
      refine lv_astore (lv' := [(7, .ref q9), (0, .ref (bb + 0)), (1, .int (p1)), (2, .int (p2)), (3, .int (p3)), (4, .int (p4)), (5, .int (p5)), (6, .int (p6))]) hx hb dL_more_16 hl (by decide) rfl (fun ls hl => ?_)
      refine lv_iconst (v := 1) hx hb dL_more_18 (by decide) ?_
      exact xx_iret hx hb hr rfl hlocks hK (congrArg (Prod.mk 0) (show gL_more p1 p2 p3 p4 p5 p6 x f = _ by unfold gL_more; rw [if_neg (show ¬ (fX10_more p1 p2 p3 p4 p5 p6 x).1 = 0 by rw [hcode, xc_1]; decide), if_pos (show (fX10_more p1 p2 p3 p4 p5 p6 x).1 = 1 by rw [hcode, xc_1])])) hB hS dL_more_19 (Nat.le_of_ble_eq_true rfl) (Nat.le_of_ble_eq_true rfl)
    · refine wx_catch (nm := "java/lang/IllegalArgumentException") hown [⟨0, 13, 16, 13⟩] ⟨0, 13, 20, 15⟩ [⟨0, 13, 24, 17⟩] (htab.trans rfl) (fun z hz => by
      simp only [List.mem_cons, List.not_mem_nil, or_false] at hz
      rcases hz with rfl
      · exact ⟨by decide, by decide, "java/lang/IndexOutOfBoundsException", hts (.classLink RL 13 "java/lang/IndexOutOfBoundsException") (by decide +kernel), hNc.1⟩) (by decide) (by decide) (hts (.classLink RL 15 "java/lang/IllegalArgumentException") (by decide +kernel)) (xS_cast hxs hX) hce hcv hcl ?_
      refine lv_astore (lv' := [(7, .ref q9), (0, .ref (bb + 0)), (1, .int (p1)), (2, .int (p2)), (3, .int (p3)), (4, .int (p4)), (5, .int (p5)), (6, .int (p6))]) hx hb dL_more_20 hl (by decide) rfl (fun ls hl => ?_)
      refine lv_iconst (v := 2) hx hb dL_more_22 (by decide) ?_
      exact xx_iret hx hb hr rfl hlocks hK (congrArg (Prod.mk 0) (show gL_more p1 p2 p3 p4 p5 p6 x f = _ by unfold gL_more; rw [if_neg (show ¬ (fX10_more p1 p2 p3 p4 p5 p6 x).1 = 0 by rw [hcode, xc_2]; decide), if_neg (show ¬ (fX10_more p1 p2 p3 p4 p5 p6 x).1 = 1 by rw [hcode, xc_2]; decide), if_pos (show (fX10_more p1 p2 p3 p4 p5 p6 x).1 = 2 by rw [hcode, xc_2])])) hB hS dL_more_23 (Nat.le_of_ble_eq_true rfl) (Nat.le_of_ble_eq_true rfl)
    · refine wx_catch (nm := "java/lang/IllegalStateException") hown [⟨0, 13, 16, 13⟩, ⟨0, 13, 20, 15⟩] ⟨0, 13, 24, 17⟩ [] (htab.trans rfl) (fun z hz => by
      simp only [List.mem_cons, List.not_mem_nil, or_false] at hz
      rcases hz with rfl | rfl
      · exact ⟨by decide, by decide, "java/lang/IndexOutOfBoundsException", hts (.classLink RL 13 "java/lang/IndexOutOfBoundsException") (by decide +kernel), hNc.2.1⟩
      · exact ⟨by decide, by decide, "java/lang/IllegalArgumentException", hts (.classLink RL 15 "java/lang/IllegalArgumentException") (by decide +kernel), hNc.2.2⟩) (by decide) (by decide) (hts (.classLink RL 17 "java/lang/IllegalStateException") (by decide +kernel)) (xS_cast hxs hX) hce hcv hcl ?_
      refine lv_astore (lv' := [(7, .ref q9), (0, .ref (bb + 0)), (1, .int (p1)), (2, .int (p2)), (3, .int (p3)), (4, .int (p4)), (5, .int (p5)), (6, .int (p6))]) hx hb dL_more_24 hl (by decide) rfl (fun ls hl => ?_)
      refine lv_iconst (v := 3) hx hb dL_more_26 (by decide) ?_
      exact xx_iret hx hb hr rfl hlocks hK (congrArg (Prod.mk 0) (show gL_more p1 p2 p3 p4 p5 p6 x f = _ by unfold gL_more; rw [if_neg (show ¬ (fX10_more p1 p2 p3 p4 p5 p6 x).1 = 0 by rw [hcode, xc_3]; decide), if_neg (show ¬ (fX10_more p1 p2 p3 p4 p5 p6 x).1 = 1 by rw [hcode, xc_3]; decide), if_neg (show ¬ (fX10_more p1 p2 p3 p4 p5 p6 x).1 = 2 by rw [hcode, xc_3]; decide)])) hB hS dL_more_27 (Nat.le_of_ble_eq_true rfl) (Nat.le_of_ble_eq_true rfl)
  · refine lv_goto (tgt := 28) hx hb dL_more_13 (by decide) ?_
    refine lv_iconst (v := 0) hx hb dL_more_28 (by decide) ?_
    exact xx_iret hx hb hr rfl hlocks hK (congrArg (Prod.mk 0) (show gL_more p1 p2 p3 p4 p5 p6 x f = _ by unfold gL_more; rw [if_pos hz])) hB hS dL_more_29 (Nat.le_of_ble_eq_true rfl) (Nat.le_of_ble_eq_true rfl)

def gL_key (p1 : Int32) (x : PS) (f : Nat → Int64) : (PS × (Nat → Int64)) × Int32 := if (fX10_key p1 x).1 = 0 then (((fX10_key p1 x).2.1, vp_updL f 0 (fX10_key p1 x).2.2.toInt64), 0) else (((fX10_key p1 x).2.1, f), 1)
set_option maxHeartbeats 4000000 in
set_option maxRecDepth 100000 in
theorem mL_key (l : Launch) (hl9 : l.stackTraces = false) (E : eE) (bb oa sz : Nat) (hoa : ¬ cA bb oa) (x : PS) (f : Nat → Int64) (p1 : Int32) (hok : okP x) (hch : vp_in (x.1 0 6) 3) (hcod : (fX10_key p1 x).1 = 0 ∨ (fX10_key p1 x).1 = 2) : vx_Met l yL_key wsL_key ({ frames := 7, cells := 1, slots := 6, locals := 142 }) (lPre E bb oa sz (x, f) [.ref (bb + 0), .int (p1), .ref oa]) (xQi E (lW E bb oa) (0, gL_key p1 x f) (lA bb oa sz)) (fun _ _ _ => False) 1 6 (lA bb oa sz) := by
  refine vx_ofWH (cc := cL_key) (maxL := 4) (ret := (some .int)) (hh := [(0, 9, 12, 15)]) (by decide) rfl ?_
  intro p e s m args below meth c s₁ B hml hv
  obtain ⟨rfl, hsz, hB, hK, hxs, hNc⟩ := hv
  subst hsz
  have hx := B.exec
  have hb := B.bytes
  have hr := B.returns
  have hts := atoms_spec (ws := wsL_key) B.pre
  have hown : s.vm.findClass RL = some m.cls := findClass_of_methodNamed B.named
  have hlocks := B.notSynchronized
  have htab := vx_table B (x := yL_key) (hts _ List.mem_cons_self)
  have hS : va_S (lA bb oa s.heap.size) s.heap s.heap [] := va_S.rf
  have hl := lv_entry ([.ref (bb + 0), .int (p1), .ref oa]) (n := 4) (Nat.le_of_ble_eq_true rfl)
  rw [lg_entry_eq]
  generalize (lg_sl ([.ref (bb + 0), .int (p1), .ref oa]) ++ List.replicate (4 - (lg_sl ([.ref (bb + 0), .int (p1), .ref oa])).length) Slot.unset).toArray = ls at hl ⊢
  have hl : lv_has ls 4 [(0, .ref (bb + 0)), (1, .int (p1)), (2, .ref oa)] := hl
  refine lv_aload_n hx hb dL_key_0 rfl (lv_at hl 2 rfl) ?_
  refine lv_iconst (v := 0) hx hb dL_key_1 (by decide) ?_
  refine lv_aload_n hx hb dL_key_2 rfl (lv_at hl 0 rfl) ?_
  refine lv_iload_n hx hb dL_key_3 rfl (lv_at hl 1 rfl) ?_
  refine lx_ci (rest := [.int 0, .ref oa]) ⟨hx, hb, hml, hown, hts⟩ (mX10_key l hl9 E bb _ x p1 hok hch) (cwV 1 hts gL_key_X10_key rfl rfl rfl (by decide +kernel) ⟨(Nat.le_of_ble_eq_true rfl), (Nat.le_of_ble_eq_true rfl)⟩) hB hoa hK hxs (fx_recv hK (pw_P (o := 0) hB.1 (by decide)) rfl) rfl hl.1 rfl (Nat.le_of_ble_eq_true rfl) dL_key_4 ⟨(Nat.le_of_ble_eq_true rfl), (Nat.le_of_ble_eq_true rfl)⟩ hS (fun X ce q9 H locs hX hcode hB hS hce hcv hcl => ?_) (fun H locs hz hB hS => ?_)
  · rcases xEs_cases hX with rfl | rfl | rfl
    · exact absurd hcode (by rw [xc_1]; rcases hcod with h | h <;> rw [h] <;> decide)
    · refine wx_catch (nm := "java/lang/IllegalArgumentException") hown [] ⟨0, 9, 12, 15⟩ [] (htab.trans rfl) (fun z hz => absurd hz List.not_mem_nil) (by decide) (by decide) (hts (.classLink RL 15 "java/lang/IllegalArgumentException") (by decide +kernel)) (xS_cast hxs hX) hce hcv hcl ?_
      refine lv_astore_n (lv' := [(3, .ref q9), (0, .ref (bb + 0)), (1, .int (p1)), (2, .ref oa)]) hx hb dL_key_12 rfl hl (by decide) rfl (fun ls hl => ?_)
      refine lv_iconst (v := 1) hx hb dL_key_13 (by decide) ?_
      exact xx_iret hx hb hr rfl hlocks hK (congrArg (Prod.mk 0) (show gL_key p1 x f = _ by unfold gL_key; rw [if_neg (show ¬ (fX10_key p1 x).1 = 0 by rw [hcode, xc_2]; decide)])) hB hS dL_key_14 (Nat.le_of_ble_eq_true rfl) (Nat.le_of_ble_eq_true rfl)
    · exact absurd hcode (by rw [xc_3]; rcases hcod with h | h <;> rw [h] <;> decide)
  · refine lv_i2l (v := (fX10_key p1 x).2.2.toInt64) hx hb dL_key_7 rfl ?_
    refine lx_lst hx hb hK hB hoa hS dL_key_8 (fun H locs hB hS => ?_)
    refine lv_goto (tgt := 15) hx hb dL_key_9 (by decide) ?_
    refine lv_iconst (v := 0) hx hb dL_key_15 (by decide) ?_
    exact xx_iret hx hb hr rfl hlocks hK (congrArg (Prod.mk 0) (show gL_key p1 x f = _ by unfold gL_key; rw [if_pos hz])) hB hS dL_key_16 (Nat.le_of_ble_eq_true rfl) (Nat.le_of_ble_eq_true rfl)

def gL_ticks (p1 : Int32) (x : PS) (f : Nat → Int64) : (PS × (Nat → Int64)) × Int32 := if (fX10_ticks p1 x).1 = 0 then (((fX10_ticks p1 x).2.1, vp_updL f 0 (fX10_ticks p1 x).2.2.toInt64), 0) else (((fX10_ticks p1 x).2.1, f), 1)
set_option maxHeartbeats 4000000 in
set_option maxRecDepth 100000 in
theorem mL_ticks (l : Launch) (hl9 : l.stackTraces = false) (E : eE) (bb oa sz : Nat) (hoa : ¬ cA bb oa) (x : PS) (f : Nat → Int64) (p1 : Int32) (hok : okP x) (hcod : (fX10_ticks p1 x).1 = 0 ∨ (fX10_ticks p1 x).1 = 2) : vx_Met l yL_ticks wsL_ticks ({ frames := 7, cells := 1, slots := 6, locals := 164 }) (lPre E bb oa sz (x, f) [.ref (bb + 0), .int (p1), .ref oa]) (xQi E (lW E bb oa) (0, gL_ticks p1 x f) (lA bb oa sz)) (fun _ _ _ => False) 1 6 (lA bb oa sz) := by
  refine vx_ofWH (cc := cL_ticks) (maxL := 4) (ret := (some .int)) (hh := [(0, 9, 12, 15)]) (by decide) rfl ?_
  intro p e s m args below meth c s₁ B hml hv
  obtain ⟨rfl, hsz, hB, hK, hxs, hNc⟩ := hv
  subst hsz
  have hx := B.exec
  have hb := B.bytes
  have hr := B.returns
  have hts := atoms_spec (ws := wsL_ticks) B.pre
  have hown : s.vm.findClass RL = some m.cls := findClass_of_methodNamed B.named
  have hlocks := B.notSynchronized
  have htab := vx_table B (x := yL_ticks) (hts _ List.mem_cons_self)
  have hS : va_S (lA bb oa s.heap.size) s.heap s.heap [] := va_S.rf
  have hl := lv_entry ([.ref (bb + 0), .int (p1), .ref oa]) (n := 4) (Nat.le_of_ble_eq_true rfl)
  rw [lg_entry_eq]
  generalize (lg_sl ([.ref (bb + 0), .int (p1), .ref oa]) ++ List.replicate (4 - (lg_sl ([.ref (bb + 0), .int (p1), .ref oa])).length) Slot.unset).toArray = ls at hl ⊢
  have hl : lv_has ls 4 [(0, .ref (bb + 0)), (1, .int (p1)), (2, .ref oa)] := hl
  refine lv_aload_n hx hb dL_ticks_0 rfl (lv_at hl 2 rfl) ?_
  refine lv_iconst (v := 0) hx hb dL_ticks_1 (by decide) ?_
  refine lv_aload_n hx hb dL_ticks_2 rfl (lv_at hl 0 rfl) ?_
  refine lv_iload_n hx hb dL_ticks_3 rfl (lv_at hl 1 rfl) ?_
  refine lx_ci (rest := [.int 0, .ref oa]) ⟨hx, hb, hml, hown, hts⟩ (mX10_ticks l hl9 E bb _ x p1 hok) (cwV 1 hts gL_ticks_X10_ticks rfl rfl rfl (by decide +kernel) ⟨(Nat.le_of_ble_eq_true rfl), (Nat.le_of_ble_eq_true rfl)⟩) hB hoa hK hxs (fx_recv hK (pw_P (o := 0) hB.1 (by decide)) rfl) rfl hl.1 rfl (Nat.le_of_ble_eq_true rfl) dL_ticks_4 ⟨(Nat.le_of_ble_eq_true rfl), (Nat.le_of_ble_eq_true rfl)⟩ hS (fun X ce q9 H locs hX hcode hB hS hce hcv hcl => ?_) (fun H locs hz hB hS => ?_)
  · rcases xEs_cases hX with rfl | rfl | rfl
    · exact absurd hcode (by rw [xc_1]; rcases hcod with h | h <;> rw [h] <;> decide)
    · refine wx_catch (nm := "java/lang/IllegalArgumentException") hown [] ⟨0, 9, 12, 15⟩ [] (htab.trans rfl) (fun z hz => absurd hz List.not_mem_nil) (by decide) (by decide) (hts (.classLink RL 15 "java/lang/IllegalArgumentException") (by decide +kernel)) (xS_cast hxs hX) hce hcv hcl ?_
      refine lv_astore_n (lv' := [(3, .ref q9), (0, .ref (bb + 0)), (1, .int (p1)), (2, .ref oa)]) hx hb dL_ticks_12 rfl hl (by decide) rfl (fun ls hl => ?_)
      refine lv_iconst (v := 1) hx hb dL_ticks_13 (by decide) ?_
      exact xx_iret hx hb hr rfl hlocks hK (congrArg (Prod.mk 0) (show gL_ticks p1 x f = _ by unfold gL_ticks; rw [if_neg (show ¬ (fX10_ticks p1 x).1 = 0 by rw [hcode, xc_2]; decide)])) hB hS dL_ticks_14 (Nat.le_of_ble_eq_true rfl) (Nat.le_of_ble_eq_true rfl)
    · exact absurd hcode (by rw [xc_3]; rcases hcod with h | h <;> rw [h] <;> decide)
  · refine lv_i2l (v := (fX10_ticks p1 x).2.2.toInt64) hx hb dL_ticks_7 rfl ?_
    refine lx_lst hx hb hK hB hoa hS dL_ticks_8 (fun H locs hB hS => ?_)
    refine lv_goto (tgt := 15) hx hb dL_ticks_9 (by decide) ?_
    refine lv_iconst (v := 0) hx hb dL_ticks_15 (by decide) ?_
    exact xx_iret hx hb hr rfl hlocks hK (congrArg (Prod.mk 0) (show gL_ticks p1 x f = _ by unfold gL_ticks; rw [if_pos hz])) hB hS dL_ticks_16 (Nat.le_of_ble_eq_true rfl) (Nat.le_of_ble_eq_true rfl)

def gL_flow (p1 : Int32) (p2 : Int32) (x : PS) (f : Nat → Int64) : (PS × (Nat → Int64)) × Int32 := if (fX10_flow p1 p2 x).1 = 0 then (((fX10_flow p1 p2 x).2.1, vp_updL f 0 (fX10_flow p1 p2 x).2.2.toInt64), 0) else (if (fX10_flow p1 p2 x).1 = 1 then (((fX10_flow p1 p2 x).2.1, f), 1) else (((fX10_flow p1 p2 x).2.1, f), 2))
set_option maxHeartbeats 4000000 in
set_option maxRecDepth 100000 in
theorem mL_flow (l : Launch) (hl9 : l.stackTraces = false) (E : eE) (bb oa sz : Nat) (hoa : ¬ cA bb oa) (x : PS) (f : Nat → Int64) (p1 : Int32) (p2 : Int32) (hcod : (fX10_flow p1 p2 x).1 = 0 ∨ (fX10_flow p1 p2 x).1 = 1 ∨ (fX10_flow p1 p2 x).1 = 2) : vx_Met l yL_flow wsL_flow ({ frames := 8, cells := 2, slots := 12, locals := 135 }) (lPre E bb oa sz (x, f) [.ref (bb + 0), .int (p1), .int (p2), .ref oa]) (xQi E (lW E bb oa) (0, gL_flow p1 p2 x f) (lA bb oa sz)) (fun _ _ _ => False) 2 12 (lA bb oa sz) := by
  refine vx_ofWH (cc := cL_flow) (maxL := 5) (ret := (some .int)) (hh := [(0, 10, 13, 13), (0, 10, 17, 15)]) (by decide) rfl ?_
  intro p e s m args below meth c s₁ B hml hv
  obtain ⟨rfl, hsz, hB, hK, hxs, hNc⟩ := hv
  subst hsz
  have hx := B.exec
  have hb := B.bytes
  have hr := B.returns
  have hts := atoms_spec (ws := wsL_flow) B.pre
  have hown : s.vm.findClass RL = some m.cls := findClass_of_methodNamed B.named
  have hlocks := B.notSynchronized
  have htab := vx_table B (x := yL_flow) (hts _ List.mem_cons_self)
  have hS : va_S (lA bb oa s.heap.size) s.heap s.heap [] := va_S.rf
  have hl := lv_entry ([.ref (bb + 0), .int (p1), .int (p2), .ref oa]) (n := 5) (Nat.le_of_ble_eq_true rfl)
  rw [lg_entry_eq]
  generalize (lg_sl ([.ref (bb + 0), .int (p1), .int (p2), .ref oa]) ++ List.replicate (5 - (lg_sl ([.ref (bb + 0), .int (p1), .int (p2), .ref oa])).length) Slot.unset).toArray = ls at hl ⊢
  have hl : lv_has ls 5 [(0, .ref (bb + 0)), (1, .int (p1)), (2, .int (p2)), (3, .ref oa)] := hl
  refine lv_aload_n hx hb dL_flow_0 rfl (lv_at hl 3 rfl) ?_
  refine lv_iconst (v := 0) hx hb dL_flow_1 (by decide) ?_
  refine lv_aload_n hx hb dL_flow_2 rfl (lv_at hl 0 rfl) ?_
  refine lv_iload_n hx hb dL_flow_3 rfl (lv_at hl 1 rfl) ?_
  refine lv_iload_n hx hb dL_flow_4 rfl (lv_at hl 2 rfl) ?_
  refine lx_ci (rest := [.int 0, .ref oa]) ⟨hx, hb, hml, hown, hts⟩ (mX10_flow l hl9 E bb _ x p1 p2) (cwV 2 hts gL_flow_X10_flow rfl rfl rfl (by decide +kernel) ⟨(Nat.le_of_ble_eq_true rfl), (Nat.le_of_ble_eq_true rfl)⟩) hB hoa hK hxs (fx_recv hK (pw_P (o := 0) hB.1 (by decide)) rfl) rfl hl.1 rfl (Nat.le_of_ble_eq_true rfl) dL_flow_5 ⟨(Nat.le_of_ble_eq_true rfl), (Nat.le_of_ble_eq_true rfl)⟩ hS (fun X ce q9 H locs hX hcode hB hS hce hcv hcl => ?_) (fun H locs hz hB hS => ?_)
  · rcases xEs_cases hX with rfl | rfl | rfl
    · refine wx_catch (nm := "java/lang/IndexOutOfBoundsException") hown [] ⟨0, 10, 13, 13⟩ [⟨0, 10, 17, 15⟩] (htab.trans rfl) (fun z hz => absurd hz List.not_mem_nil) (by decide) (by decide) (hts (.classLink RL 13 "java/lang/IndexOutOfBoundsException") (by decide +kernel)) (xS_cast hxs hX) hce hcv hcl ?_
      refine lv_astore (lv' := [(4, .ref q9), (0, .ref (bb + 0)), (1, .int (p1)), (2, .int (p2)), (3, .ref oa)]) hx hb dL_flow_13 hl (by decide) rfl (fun ls hl => ?_)
      refine lv_iconst (v := 1) hx hb dL_flow_15 (by decide) ?_
      exact xx_iret hx hb hr rfl hlocks hK (congrArg (Prod.mk 0) (show gL_flow p1 p2 x f = _ by unfold gL_flow; rw [if_neg (show ¬ (fX10_flow p1 p2 x).1 = 0 by rw [hcode, xc_1]; decide), if_pos (show (fX10_flow p1 p2 x).1 = 1 by rw [hcode, xc_1])])) hB hS dL_flow_16 (Nat.le_of_ble_eq_true rfl) (Nat.le_of_ble_eq_true rfl)
    · refine wx_catch (nm := "java/lang/IllegalArgumentException") hown [⟨0, 10, 13, 13⟩] ⟨0, 10, 17, 15⟩ [] (htab.trans rfl) (fun z hz => by
      simp only [List.mem_cons, List.not_mem_nil, or_false] at hz
      rcases hz with rfl
      · exact ⟨by decide, by decide, "java/lang/IndexOutOfBoundsException", hts (.classLink RL 13 "java/lang/IndexOutOfBoundsException") (by decide +kernel), hNc.1⟩) (by decide) (by decide) (hts (.classLink RL 15 "java/lang/IllegalArgumentException") (by decide +kernel)) (xS_cast hxs hX) hce hcv hcl ?_
      refine lv_astore (lv' := [(4, .ref q9), (0, .ref (bb + 0)), (1, .int (p1)), (2, .int (p2)), (3, .ref oa)]) hx hb dL_flow_17 hl (by decide) rfl (fun ls hl => ?_)
      refine lv_iconst (v := 2) hx hb dL_flow_19 (by decide) ?_
      exact xx_iret hx hb hr rfl hlocks hK (congrArg (Prod.mk 0) (show gL_flow p1 p2 x f = _ by unfold gL_flow; rw [if_neg (show ¬ (fX10_flow p1 p2 x).1 = 0 by rw [hcode, xc_2]; decide), if_neg (show ¬ (fX10_flow p1 p2 x).1 = 1 by rw [hcode, xc_2]; decide)])) hB hS dL_flow_20 (Nat.le_of_ble_eq_true rfl) (Nat.le_of_ble_eq_true rfl)
    · exact absurd hcode (by rw [xc_3]; rcases hcod with h | h | h <;> rw [h] <;> decide)
  · refine lv_i2l (v := (fX10_flow p1 p2 x).2.2.toInt64) hx hb dL_flow_8 rfl ?_
    refine lx_lst hx hb hK hB hoa hS dL_flow_9 (fun H locs hB hS => ?_)
    refine lv_goto (tgt := 21) hx hb dL_flow_10 (by decide) ?_
    refine lv_iconst (v := 0) hx hb dL_flow_21 (by decide) ?_
    exact xx_iret hx hb hr rfl hlocks hK (congrArg (Prod.mk 0) (show gL_flow p1 p2 x f = _ by unfold gL_flow; rw [if_pos hz])) hB hS dL_flow_22 (Nat.le_of_ble_eq_true rfl) (Nat.le_of_ble_eq_true rfl)

def gL_air (p1 : Int32) (p2 : Int32) (x : PS) (f : Nat → Int64) : (PS × (Nat → Int64)) × Int32 := if (fX10_air p1 p2 x).1 = 0 then (((fX10_air p1 p2 x).2.1, vp_updL f 0 (if (fX10_air p1 p2 x).2.2 = 0 then 0 else 1)), 0) else (((fX10_air p1 p2 x).2.1, f), 1)
set_option maxHeartbeats 4000000 in
set_option maxRecDepth 100000 in
theorem mL_air (l : Launch) (hl9 : l.stackTraces = false) (E : eE) (bb oa sz : Nat) (hoa : ¬ cA bb oa) (x : PS) (f : Nat → Int64) (p1 : Int32) (p2 : Int32) (hp : p2 = 0 ∨ p2 = 1) (hbo : ∀ n, n < 3 → x.2.2.1 n 9 5 = 0 ∨ x.2.2.1 n 9 5 = 1) (hcod : (fX10_air p1 p2 x).1 = 0 ∨ (fX10_air p1 p2 x).1 = 1) : vx_Met l yL_air wsL_air ({ frames := 8, cells := 1, slots := 6, locals := 135 }) (lPre E bb oa sz (x, f) [.ref (bb + 0), .int (p1), .int (p2), .ref oa]) (xQi E (lW E bb oa) (0, gL_air p1 p2 x f) (lA bb oa sz)) (fun _ _ _ => False) 1 6 (lA bb oa sz) := by
  refine vx_ofWH (cc := cL_air) (maxL := 5) (ret := (some .int)) (hh := [(0, 17, 20, 13)]) (by decide) rfl ?_
  intro p e s m args below meth c s₁ B hml hv
  obtain ⟨rfl, hsz, hB, hK, hxs, hNc⟩ := hv
  subst hsz
  have hx := B.exec
  have hb := B.bytes
  have hr := B.returns
  have hts := atoms_spec (ws := wsL_air) B.pre
  have hown : s.vm.findClass RL = some m.cls := findClass_of_methodNamed B.named
  have hlocks := B.notSynchronized
  have htab := vx_table B (x := yL_air) (hts _ List.mem_cons_self)
  have hS : va_S (lA bb oa s.heap.size) s.heap s.heap [] := va_S.rf
  have hl := lv_entry ([.ref (bb + 0), .int (p1), .int (p2), .ref oa]) (n := 5) (Nat.le_of_ble_eq_true rfl)
  rw [lg_entry_eq]
  generalize (lg_sl ([.ref (bb + 0), .int (p1), .int (p2), .ref oa]) ++ List.replicate (5 - (lg_sl ([.ref (bb + 0), .int (p1), .int (p2), .ref oa])).length) Slot.unset).toArray = ls at hl ⊢
  have hl : lv_has ls 5 [(0, .ref (bb + 0)), (1, .int (p1)), (2, .int (p2)), (3, .ref oa)] := hl
  refine lv_aload_n hx hb dL_air_0 rfl (lv_at hl 3 rfl) ?_
  refine lv_iconst (v := 0) hx hb dL_air_1 (by decide) ?_
  refine lv_aload_n hx hb dL_air_2 rfl (lv_at hl 0 rfl) ?_
  refine lv_iload_n hx hb dL_air_3 rfl (lv_at hl 1 rfl) ?_
  refine lv_iload_n hx hb dL_air_4 rfl (lv_at hl 2 rfl) ?_
  refine lx_ci (rest := [.int 0, .ref oa]) ⟨hx, hb, hml, hown, hts⟩ (mX10_air l hl9 E bb _ x p1 p2 hp hbo) (cwV 2 hts gL_air_X10_air rfl rfl rfl (by decide +kernel) ⟨(Nat.le_of_ble_eq_true rfl), (Nat.le_of_ble_eq_true rfl)⟩) hB hoa hK hxs (fx_recv hK (pw_P (o := 0) hB.1 (by decide)) rfl) rfl hl.1 rfl (Nat.le_of_ble_eq_true rfl) dL_air_5 ⟨(Nat.le_of_ble_eq_true rfl), (Nat.le_of_ble_eq_true rfl)⟩ hS (fun X ce q9 H locs hX hcode hB hS hce hcv hcl => ?_) (fun H locs hz hB hS => ?_)
  · rcases xEs_cases hX with rfl | rfl | rfl
    · refine wx_catch (nm := "java/lang/IndexOutOfBoundsException") hown [] ⟨0, 17, 20, 13⟩ [] (htab.trans rfl) (fun z hz => absurd hz List.not_mem_nil) (by decide) (by decide) (hts (.classLink RL 13 "java/lang/IndexOutOfBoundsException") (by decide +kernel)) (xS_cast hxs hX) hce hcv hcl ?_
      refine lv_astore (lv' := [(4, .ref q9), (0, .ref (bb + 0)), (1, .int (p1)), (2, .int (p2)), (3, .ref oa)]) hx hb dL_air_20 hl (by decide) rfl (fun ls hl => ?_)
      refine lv_iconst (v := 1) hx hb dL_air_22 (by decide) ?_
      exact xx_iret hx hb hr rfl hlocks hK (congrArg (Prod.mk 0) (show gL_air p1 p2 x f = _ by unfold gL_air; rw [if_neg (show ¬ (fX10_air p1 p2 x).1 = 0 by rw [hcode, xc_1]; decide)])) hB hS dL_air_23 (Nat.le_of_ble_eq_true rfl) (Nat.le_of_ble_eq_true rfl)
    · exact absurd hcode (by rw [xc_2]; rcases hcod with h | h <;> rw [h] <;> decide)
    · exact absurd hcode (by rw [xc_3]; rcases hcod with h | h <;> rw [h] <;> decide)
  · refine lv_if_eq (tgt := 15) hx hb dL_air_8 (by decide) (fun c9 => ?_) (fun c9 => ?_)
    · refine lv_lconst (v := 0) hx hb dL_air_15 (by decide) ?_
      refine lx_lst hx hb hK hB hoa hS dL_air_16 (fun H locs hB hS => ?_)
      refine lv_goto (tgt := 24) hx hb dL_air_17 (by decide) ?_
      refine lv_iconst (v := 0) hx hb dL_air_24 (by decide) ?_
      exact xx_iret hx hb hr rfl hlocks hK (congrArg (Prod.mk 0) (show gL_air p1 p2 x f = _ by unfold gL_air; rw [if_pos hz, if_pos c9])) hB hS dL_air_25 (Nat.le_of_ble_eq_true rfl) (Nat.le_of_ble_eq_true rfl)
    · refine lv_lconst (v := 1) hx hb dL_air_11 (by decide) ?_
      refine lv_goto (tgt := 16) hx hb dL_air_12 (by decide) ?_
      refine lx_lst hx hb hK hB hoa hS dL_air_16 (fun H locs hB hS => ?_)
      refine lv_goto (tgt := 24) hx hb dL_air_17 (by decide) ?_
      refine lv_iconst (v := 0) hx hb dL_air_24 (by decide) ?_
      exact xx_iret hx hb hr rfl hlocks hK (congrArg (Prod.mk 0) (show gL_air p1 p2 x f = _ by unfold gL_air; rw [if_pos hz, if_neg c9])) hB hS dL_air_25 (Nat.le_of_ble_eq_true rfl) (Nat.le_of_ble_eq_true rfl)

def gL_door (p1 : Int32) (p2 : Int32) (x : PS) (f : Nat → Int64) : (PS × (Nat → Int64)) × Int32 := if (fX10_door p1 p2 x).1 = 0 then (((fX10_door p1 p2 x).2.1, vp_updL f 0 (if (fX10_door p1 p2 x).2.2 = 0 then 0 else 1)), 0) else (((fX10_door p1 p2 x).2.1, f), 1)
set_option maxHeartbeats 4000000 in
set_option maxRecDepth 100000 in
theorem mL_door (l : Launch) (hl9 : l.stackTraces = false) (E : eE) (bb oa sz : Nat) (hoa : ¬ cA bb oa) (x : PS) (f : Nat → Int64) (p1 : Int32) (p2 : Int32) (hp : p2 = 0 ∨ p2 = 1) (hbo : ∀ n, n < 3 → x.2.2.1 n 9 6 = 0 ∨ x.2.2.1 n 9 6 = 1) (hcod : (fX10_door p1 p2 x).1 = 0 ∨ (fX10_door p1 p2 x).1 = 1) : vx_Met l yL_door wsL_door ({ frames := 8, cells := 1, slots := 6, locals := 135 }) (lPre E bb oa sz (x, f) [.ref (bb + 0), .int (p1), .int (p2), .ref oa]) (xQi E (lW E bb oa) (0, gL_door p1 p2 x f) (lA bb oa sz)) (fun _ _ _ => False) 1 6 (lA bb oa sz) := by
  refine vx_ofWH (cc := cL_door) (maxL := 5) (ret := (some .int)) (hh := [(0, 17, 20, 13)]) (by decide) rfl ?_
  intro p e s m args below meth c s₁ B hml hv
  obtain ⟨rfl, hsz, hB, hK, hxs, hNc⟩ := hv
  subst hsz
  have hx := B.exec
  have hb := B.bytes
  have hr := B.returns
  have hts := atoms_spec (ws := wsL_door) B.pre
  have hown : s.vm.findClass RL = some m.cls := findClass_of_methodNamed B.named
  have hlocks := B.notSynchronized
  have htab := vx_table B (x := yL_door) (hts _ List.mem_cons_self)
  have hS : va_S (lA bb oa s.heap.size) s.heap s.heap [] := va_S.rf
  have hl := lv_entry ([.ref (bb + 0), .int (p1), .int (p2), .ref oa]) (n := 5) (Nat.le_of_ble_eq_true rfl)
  rw [lg_entry_eq]
  generalize (lg_sl ([.ref (bb + 0), .int (p1), .int (p2), .ref oa]) ++ List.replicate (5 - (lg_sl ([.ref (bb + 0), .int (p1), .int (p2), .ref oa])).length) Slot.unset).toArray = ls at hl ⊢
  have hl : lv_has ls 5 [(0, .ref (bb + 0)), (1, .int (p1)), (2, .int (p2)), (3, .ref oa)] := hl
  refine lv_aload_n hx hb dL_door_0 rfl (lv_at hl 3 rfl) ?_
  refine lv_iconst (v := 0) hx hb dL_door_1 (by decide) ?_
  refine lv_aload_n hx hb dL_door_2 rfl (lv_at hl 0 rfl) ?_
  refine lv_iload_n hx hb dL_door_3 rfl (lv_at hl 1 rfl) ?_
  refine lv_iload_n hx hb dL_door_4 rfl (lv_at hl 2 rfl) ?_
  refine lx_ci (rest := [.int 0, .ref oa]) ⟨hx, hb, hml, hown, hts⟩ (mX10_door l hl9 E bb _ x p1 p2 hp hbo) (cwV 2 hts gL_door_X10_door rfl rfl rfl (by decide +kernel) ⟨(Nat.le_of_ble_eq_true rfl), (Nat.le_of_ble_eq_true rfl)⟩) hB hoa hK hxs (fx_recv hK (pw_P (o := 0) hB.1 (by decide)) rfl) rfl hl.1 rfl (Nat.le_of_ble_eq_true rfl) dL_door_5 ⟨(Nat.le_of_ble_eq_true rfl), (Nat.le_of_ble_eq_true rfl)⟩ hS (fun X ce q9 H locs hX hcode hB hS hce hcv hcl => ?_) (fun H locs hz hB hS => ?_)
  · rcases xEs_cases hX with rfl | rfl | rfl
    · refine wx_catch (nm := "java/lang/IndexOutOfBoundsException") hown [] ⟨0, 17, 20, 13⟩ [] (htab.trans rfl) (fun z hz => absurd hz List.not_mem_nil) (by decide) (by decide) (hts (.classLink RL 13 "java/lang/IndexOutOfBoundsException") (by decide +kernel)) (xS_cast hxs hX) hce hcv hcl ?_
      refine lv_astore (lv' := [(4, .ref q9), (0, .ref (bb + 0)), (1, .int (p1)), (2, .int (p2)), (3, .ref oa)]) hx hb dL_door_20 hl (by decide) rfl (fun ls hl => ?_)
      refine lv_iconst (v := 1) hx hb dL_door_22 (by decide) ?_
      exact xx_iret hx hb hr rfl hlocks hK (congrArg (Prod.mk 0) (show gL_door p1 p2 x f = _ by unfold gL_door; rw [if_neg (show ¬ (fX10_door p1 p2 x).1 = 0 by rw [hcode, xc_1]; decide)])) hB hS dL_door_23 (Nat.le_of_ble_eq_true rfl) (Nat.le_of_ble_eq_true rfl)
    · exact absurd hcode (by rw [xc_2]; rcases hcod with h | h <;> rw [h] <;> decide)
    · exact absurd hcode (by rw [xc_3]; rcases hcod with h | h <;> rw [h] <;> decide)
  · refine lv_if_eq (tgt := 15) hx hb dL_door_8 (by decide) (fun c9 => ?_) (fun c9 => ?_)
    · refine lv_lconst (v := 0) hx hb dL_door_15 (by decide) ?_
      refine lx_lst hx hb hK hB hoa hS dL_door_16 (fun H locs hB hS => ?_)
      refine lv_goto (tgt := 24) hx hb dL_door_17 (by decide) ?_
      refine lv_iconst (v := 0) hx hb dL_door_24 (by decide) ?_
      exact xx_iret hx hb hr rfl hlocks hK (congrArg (Prod.mk 0) (show gL_door p1 p2 x f = _ by unfold gL_door; rw [if_pos hz, if_pos c9])) hB hS dL_door_25 (Nat.le_of_ble_eq_true rfl) (Nat.le_of_ble_eq_true rfl)
    · refine lv_lconst (v := 1) hx hb dL_door_11 (by decide) ?_
      refine lv_goto (tgt := 16) hx hb dL_door_12 (by decide) ?_
      refine lx_lst hx hb hK hB hoa hS dL_door_16 (fun H locs hB hS => ?_)
      refine lv_goto (tgt := 24) hx hb dL_door_17 (by decide) ?_
      refine lv_iconst (v := 0) hx hb dL_door_24 (by decide) ?_
      exact xx_iret hx hb hr rfl hlocks hK (congrArg (Prod.mk 0) (show gL_door p1 p2 x f = _ by unfold gL_door; rw [if_pos hz, if_neg c9])) hB hS dL_door_25 (Nat.le_of_ble_eq_true rfl) (Nat.le_of_ble_eq_true rfl)

def gL_about (p1 : Int32) (x : PS) (f : Nat → Int64) : (PS × (Nat → Int64)) × Int32 := if (fX10_about p1 x).1 = 0 then (((fX10_about p1 x).2.1, vp_updL f 0 (fX10_about p1 x).2.2.toInt64), 0) else (((fX10_about p1 x).2.1, f), 1)
set_option maxHeartbeats 4000000 in
set_option maxRecDepth 100000 in
theorem mL_about (l : Launch) (hl9 : l.stackTraces = false) (E : eE) (bb oa sz : Nat) (hoa : ¬ cA bb oa) (x : PS) (f : Nat → Int64) (p1 : Int32) (hcod : (fX10_about p1 x).1 = 0 ∨ (fX10_about p1 x).1 = 1) : vx_Met l yL_about wsL_about ({ frames := 7, cells := 1, slots := 6, locals := 111 }) (lPre E bb oa sz (x, f) [.ref (bb + 0), .int (p1), .ref oa]) (xQi E (lW E bb oa) (0, gL_about p1 x f) (lA bb oa sz)) (fun _ _ _ => False) 1 6 (lA bb oa sz) := by
  refine vx_ofWH (cc := cL_about) (maxL := 4) (ret := (some .int)) (hh := [(0, 9, 12, 13)]) (by decide) rfl ?_
  intro p e s m args below meth c s₁ B hml hv
  obtain ⟨rfl, hsz, hB, hK, hxs, hNc⟩ := hv
  subst hsz
  have hx := B.exec
  have hb := B.bytes
  have hr := B.returns
  have hts := atoms_spec (ws := wsL_about) B.pre
  have hown : s.vm.findClass RL = some m.cls := findClass_of_methodNamed B.named
  have hlocks := B.notSynchronized
  have htab := vx_table B (x := yL_about) (hts _ List.mem_cons_self)
  have hS : va_S (lA bb oa s.heap.size) s.heap s.heap [] := va_S.rf
  have hl := lv_entry ([.ref (bb + 0), .int (p1), .ref oa]) (n := 4) (Nat.le_of_ble_eq_true rfl)
  rw [lg_entry_eq]
  generalize (lg_sl ([.ref (bb + 0), .int (p1), .ref oa]) ++ List.replicate (4 - (lg_sl ([.ref (bb + 0), .int (p1), .ref oa])).length) Slot.unset).toArray = ls at hl ⊢
  have hl : lv_has ls 4 [(0, .ref (bb + 0)), (1, .int (p1)), (2, .ref oa)] := hl
  refine lv_aload_n hx hb dL_about_0 rfl (lv_at hl 2 rfl) ?_
  refine lv_iconst (v := 0) hx hb dL_about_1 (by decide) ?_
  refine lv_aload_n hx hb dL_about_2 rfl (lv_at hl 0 rfl) ?_
  refine lv_iload_n hx hb dL_about_3 rfl (lv_at hl 1 rfl) ?_
  refine lx_ci (rest := [.int 0, .ref oa]) ⟨hx, hb, hml, hown, hts⟩ (mX10_about l hl9 E bb _ x p1) (cwV 1 hts gL_about_X10_about rfl rfl rfl (by decide +kernel) ⟨(Nat.le_of_ble_eq_true rfl), (Nat.le_of_ble_eq_true rfl)⟩) hB hoa hK hxs (fx_recv hK (pw_P (o := 0) hB.1 (by decide)) rfl) rfl hl.1 rfl (Nat.le_of_ble_eq_true rfl) dL_about_4 ⟨(Nat.le_of_ble_eq_true rfl), (Nat.le_of_ble_eq_true rfl)⟩ hS (fun X ce q9 H locs hX hcode hB hS hce hcv hcl => ?_) (fun H locs hz hB hS => ?_)
  · rcases xEs_cases hX with rfl | rfl | rfl
    · refine wx_catch (nm := "java/lang/IndexOutOfBoundsException") hown [] ⟨0, 9, 12, 13⟩ [] (htab.trans rfl) (fun z hz => absurd hz List.not_mem_nil) (by decide) (by decide) (hts (.classLink RL 13 "java/lang/IndexOutOfBoundsException") (by decide +kernel)) (xS_cast hxs hX) hce hcv hcl ?_
      refine lv_astore_n (lv' := [(3, .ref q9), (0, .ref (bb + 0)), (1, .int (p1)), (2, .ref oa)]) hx hb dL_about_12 rfl hl (by decide) rfl (fun ls hl => ?_)
      refine lv_iconst (v := 1) hx hb dL_about_13 (by decide) ?_
      exact xx_iret hx hb hr rfl hlocks hK (congrArg (Prod.mk 0) (show gL_about p1 x f = _ by unfold gL_about; rw [if_neg (show ¬ (fX10_about p1 x).1 = 0 by rw [hcode, xc_1]; decide)])) hB hS dL_about_14 (Nat.le_of_ble_eq_true rfl) (Nat.le_of_ble_eq_true rfl)
    · exact absurd hcode (by rw [xc_2]; rcases hcod with h | h <;> rw [h] <;> decide)
    · exact absurd hcode (by rw [xc_3]; rcases hcod with h | h <;> rw [h] <;> decide)
  · refine lv_i2l (v := (fX10_about p1 x).2.2.toInt64) hx hb dL_about_7 rfl ?_
    refine lx_lst hx hb hK hB hoa hS dL_about_8 (fun H locs hB hS => ?_)
    refine lv_goto (tgt := 15) hx hb dL_about_9 (by decide) ?_
    refine lv_iconst (v := 0) hx hb dL_about_15 (by decide) ?_
    exact xx_iret hx hb hr rfl hlocks hK (congrArg (Prod.mk 0) (show gL_about p1 x f = _ by unfold gL_about; rw [if_pos hz])) hB hS dL_about_16 (Nat.le_of_ble_eq_true rfl) (Nat.le_of_ble_eq_true rfl)

def gL_channel (p1 : Int32) (p2 : Int32) (x : PS) (f : Nat → Int64) : (PS × (Nat → Int64)) × Int32 := if (fX10_channel p1 p2 x).1 = 0 then (((fX10_channel p1 p2 x).2.1, vp_updL f 0 (fX10_channel p1 p2 x).2.2.toInt64), 0) else (((fX10_channel p1 p2 x).2.1, f), 1)
set_option maxHeartbeats 4000000 in
set_option maxRecDepth 100000 in
theorem mL_channel (l : Launch) (hl9 : l.stackTraces = false) (E : eE) (bb oa sz : Nat) (hoa : ¬ cA bb oa) (x : PS) (f : Nat → Int64) (p1 : Int32) (p2 : Int32) (hok : okP x) (hcod : (fX10_channel p1 p2 x).1 = 0 ∨ (fX10_channel p1 p2 x).1 = 1) : vx_Met l yL_channel wsL_channel ({ frames := 8, cells := 2, slots := 12, locals := 134 }) (lPre E bb oa sz (x, f) [.ref (bb + 0), .int (p1), .int (p2), .ref oa]) (xQi E (lW E bb oa) (0, gL_channel p1 p2 x f) (lA bb oa sz)) (fun _ _ _ => False) 2 12 (lA bb oa sz) := by
  refine vx_ofWH (cc := cL_channel) (maxL := 5) (ret := (some .int)) (hh := [(0, 10, 13, 13)]) (by decide) rfl ?_
  intro p e s m args below meth c s₁ B hml hv
  obtain ⟨rfl, hsz, hB, hK, hxs, hNc⟩ := hv
  subst hsz
  have hx := B.exec
  have hb := B.bytes
  have hr := B.returns
  have hts := atoms_spec (ws := wsL_channel) B.pre
  have hown : s.vm.findClass RL = some m.cls := findClass_of_methodNamed B.named
  have hlocks := B.notSynchronized
  have htab := vx_table B (x := yL_channel) (hts _ List.mem_cons_self)
  have hS : va_S (lA bb oa s.heap.size) s.heap s.heap [] := va_S.rf
  have hl := lv_entry ([.ref (bb + 0), .int (p1), .int (p2), .ref oa]) (n := 5) (Nat.le_of_ble_eq_true rfl)
  rw [lg_entry_eq]
  generalize (lg_sl ([.ref (bb + 0), .int (p1), .int (p2), .ref oa]) ++ List.replicate (5 - (lg_sl ([.ref (bb + 0), .int (p1), .int (p2), .ref oa])).length) Slot.unset).toArray = ls at hl ⊢
  have hl : lv_has ls 5 [(0, .ref (bb + 0)), (1, .int (p1)), (2, .int (p2)), (3, .ref oa)] := hl
  refine lv_aload_n hx hb dL_channel_0 rfl (lv_at hl 3 rfl) ?_
  refine lv_iconst (v := 0) hx hb dL_channel_1 (by decide) ?_
  refine lv_aload_n hx hb dL_channel_2 rfl (lv_at hl 0 rfl) ?_
  refine lv_iload_n hx hb dL_channel_3 rfl (lv_at hl 1 rfl) ?_
  refine lv_iload_n hx hb dL_channel_4 rfl (lv_at hl 2 rfl) ?_
  refine lx_ci (rest := [.int 0, .ref oa]) ⟨hx, hb, hml, hown, hts⟩ (mX10_channel l hl9 E bb _ x p1 p2 hok) (cwV 2 hts gL_channel_X10_channel rfl rfl rfl (by decide +kernel) ⟨(Nat.le_of_ble_eq_true rfl), (Nat.le_of_ble_eq_true rfl)⟩) hB hoa hK hxs (fx_recv hK (pw_P (o := 0) hB.1 (by decide)) rfl) rfl hl.1 rfl (Nat.le_of_ble_eq_true rfl) dL_channel_5 ⟨(Nat.le_of_ble_eq_true rfl), (Nat.le_of_ble_eq_true rfl)⟩ hS (fun X ce q9 H locs hX hcode hB hS hce hcv hcl => ?_) (fun H locs hz hB hS => ?_)
  · rcases xEs_cases hX with rfl | rfl | rfl
    · refine wx_catch (nm := "java/lang/IndexOutOfBoundsException") hown [] ⟨0, 10, 13, 13⟩ [] (htab.trans rfl) (fun z hz => absurd hz List.not_mem_nil) (by decide) (by decide) (hts (.classLink RL 13 "java/lang/IndexOutOfBoundsException") (by decide +kernel)) (xS_cast hxs hX) hce hcv hcl ?_
      refine lv_astore (lv' := [(4, .ref q9), (0, .ref (bb + 0)), (1, .int (p1)), (2, .int (p2)), (3, .ref oa)]) hx hb dL_channel_13 hl (by decide) rfl (fun ls hl => ?_)
      refine lv_iconst (v := 1) hx hb dL_channel_15 (by decide) ?_
      exact xx_iret hx hb hr rfl hlocks hK (congrArg (Prod.mk 0) (show gL_channel p1 p2 x f = _ by unfold gL_channel; rw [if_neg (show ¬ (fX10_channel p1 p2 x).1 = 0 by rw [hcode, xc_1]; decide)])) hB hS dL_channel_16 (Nat.le_of_ble_eq_true rfl) (Nat.le_of_ble_eq_true rfl)
    · exact absurd hcode (by rw [xc_2]; rcases hcod with h | h <;> rw [h] <;> decide)
    · exact absurd hcode (by rw [xc_3]; rcases hcod with h | h <;> rw [h] <;> decide)
  · refine lv_i2l (v := (fX10_channel p1 p2 x).2.2.toInt64) hx hb dL_channel_8 rfl ?_
    refine lx_lst hx hb hK hB hoa hS dL_channel_9 (fun H locs hB hS => ?_)
    refine lv_goto (tgt := 17) hx hb dL_channel_10 (by decide) ?_
    refine lv_iconst (v := 0) hx hb dL_channel_17 (by decide) ?_
    exact xx_iret hx hb hr rfl hlocks hK (congrArg (Prod.mk 0) (show gL_channel p1 p2 x f = _ by unfold gL_channel; rw [if_pos hz])) hB hS dL_channel_18 (Nat.le_of_ble_eq_true rfl) (Nat.le_of_ble_eq_true rfl)

def gL_entry (p1 : Int32) (x : PS) (f : Nat → Int64) : (PS × (Nat → Int64)) × Int32 := if (fX10_entry p1 x).1 = 0 then (((fX10_entry p1 x).2.1, vp_updL f 0 (fX10_entry p1 x).2.2.toInt64), 0) else (((fX10_entry p1 x).2.1, f), 1)
set_option maxHeartbeats 4000000 in
set_option maxRecDepth 100000 in
theorem mL_entry (l : Launch) (hl9 : l.stackTraces = false) (E : eE) (bb oa sz : Nat) (hoa : ¬ cA bb oa) (x : PS) (f : Nat → Int64) (p1 : Int32) (hok : okP x) (hch : vp_in (x.1 0 6) 3) (hcod : (fX10_entry p1 x).1 = 0 ∨ (fX10_entry p1 x).1 = 1) : vx_Met l yL_entry wsL_entry ({ frames := 7, cells := 1, slots := 6, locals := 112 }) (lPre E bb oa sz (x, f) [.ref (bb + 0), .int (p1), .ref oa]) (xQi E (lW E bb oa) (0, gL_entry p1 x f) (lA bb oa sz)) (fun _ _ _ => False) 1 6 (lA bb oa sz) := by
  refine vx_ofWH (cc := cL_entry) (maxL := 4) (ret := (some .int)) (hh := [(0, 9, 12, 13)]) (by decide) rfl ?_
  intro p e s m args below meth c s₁ B hml hv
  obtain ⟨rfl, hsz, hB, hK, hxs, hNc⟩ := hv
  subst hsz
  have hx := B.exec
  have hb := B.bytes
  have hr := B.returns
  have hts := atoms_spec (ws := wsL_entry) B.pre
  have hown : s.vm.findClass RL = some m.cls := findClass_of_methodNamed B.named
  have hlocks := B.notSynchronized
  have htab := vx_table B (x := yL_entry) (hts _ List.mem_cons_self)
  have hS : va_S (lA bb oa s.heap.size) s.heap s.heap [] := va_S.rf
  have hl := lv_entry ([.ref (bb + 0), .int (p1), .ref oa]) (n := 4) (Nat.le_of_ble_eq_true rfl)
  rw [lg_entry_eq]
  generalize (lg_sl ([.ref (bb + 0), .int (p1), .ref oa]) ++ List.replicate (4 - (lg_sl ([.ref (bb + 0), .int (p1), .ref oa])).length) Slot.unset).toArray = ls at hl ⊢
  have hl : lv_has ls 4 [(0, .ref (bb + 0)), (1, .int (p1)), (2, .ref oa)] := hl
  refine lv_aload_n hx hb dL_entry_0 rfl (lv_at hl 2 rfl) ?_
  refine lv_iconst (v := 0) hx hb dL_entry_1 (by decide) ?_
  refine lv_aload_n hx hb dL_entry_2 rfl (lv_at hl 0 rfl) ?_
  refine lv_iload_n hx hb dL_entry_3 rfl (lv_at hl 1 rfl) ?_
  refine lx_ci (rest := [.int 0, .ref oa]) ⟨hx, hb, hml, hown, hts⟩ (mX10_entry l hl9 E bb _ x p1 hok hch) (cwV 1 hts gL_entry_X10_entry rfl rfl rfl (by decide +kernel) ⟨(Nat.le_of_ble_eq_true rfl), (Nat.le_of_ble_eq_true rfl)⟩) hB hoa hK hxs (fx_recv hK (pw_P (o := 0) hB.1 (by decide)) rfl) rfl hl.1 rfl (Nat.le_of_ble_eq_true rfl) dL_entry_4 ⟨(Nat.le_of_ble_eq_true rfl), (Nat.le_of_ble_eq_true rfl)⟩ hS (fun X ce q9 H locs hX hcode hB hS hce hcv hcl => ?_) (fun H locs hz hB hS => ?_)
  · rcases xEs_cases hX with rfl | rfl | rfl
    · refine wx_catch (nm := "java/lang/IndexOutOfBoundsException") hown [] ⟨0, 9, 12, 13⟩ [] (htab.trans rfl) (fun z hz => absurd hz List.not_mem_nil) (by decide) (by decide) (hts (.classLink RL 13 "java/lang/IndexOutOfBoundsException") (by decide +kernel)) (xS_cast hxs hX) hce hcv hcl ?_
      refine lv_astore_n (lv' := [(3, .ref q9), (0, .ref (bb + 0)), (1, .int (p1)), (2, .ref oa)]) hx hb dL_entry_12 rfl hl (by decide) rfl (fun ls hl => ?_)
      refine lv_iconst (v := 1) hx hb dL_entry_13 (by decide) ?_
      exact xx_iret hx hb hr rfl hlocks hK (congrArg (Prod.mk 0) (show gL_entry p1 x f = _ by unfold gL_entry; rw [if_neg (show ¬ (fX10_entry p1 x).1 = 0 by rw [hcode, xc_1]; decide)])) hB hS dL_entry_14 (Nat.le_of_ble_eq_true rfl) (Nat.le_of_ble_eq_true rfl)
    · exact absurd hcode (by rw [xc_2]; rcases hcod with h | h <;> rw [h] <;> decide)
    · exact absurd hcode (by rw [xc_3]; rcases hcod with h | h <;> rw [h] <;> decide)
  · refine lv_i2l (v := (fX10_entry p1 x).2.2.toInt64) hx hb dL_entry_7 rfl ?_
    refine lx_lst hx hb hK hB hoa hS dL_entry_8 (fun H locs hB hS => ?_)
    refine lv_goto (tgt := 15) hx hb dL_entry_9 (by decide) ?_
    refine lv_iconst (v := 0) hx hb dL_entry_15 (by decide) ?_
    exact xx_iret hx hb hr rfl hlocks hK (congrArg (Prod.mk 0) (show gL_entry p1 x f = _ by unfold gL_entry; rw [if_pos hz])) hB hS dL_entry_16 (Nat.le_of_ble_eq_true rfl) (Nat.le_of_ble_eq_true rfl)

def gL_rate (p1 : Int32) (p2 : Int32) (p3 : Int32) (x : PS) (f : Nat → Int64) : (PS × (Nat → Int64)) × Int32 := if (fX10_rate p1 p2 p3 x).1 = 0 then (((fX10_rate p1 p2 p3 x).2.1, vp_updL f 0 (fX10_rate p1 p2 p3 x).2.2.toInt64), 0) else (if (fX10_rate p1 p2 p3 x).1 = 1 then (((fX10_rate p1 p2 p3 x).2.1, f), 1) else (((fX10_rate p1 p2 p3 x).2.1, f), 2))
set_option maxHeartbeats 4000000 in
set_option maxRecDepth 100000 in
theorem mL_rate (l : Launch) (hl9 : l.stackTraces = false) (E : eE) (bb oa sz : Nat) (hoa : ¬ cA bb oa) (x : PS) (f : Nat → Int64) (p1 : Int32) (p2 : Int32) (p3 : Int32) (hcod : (fX10_rate p1 p2 p3 x).1 = 0 ∨ (fX10_rate p1 p2 p3 x).1 = 1 ∨ (fX10_rate p1 p2 p3 x).1 = 2) : vx_Met l yL_rate wsL_rate ({ frames := 8, cells := 2, slots := 12, locals := 135 }) (lPre E bb oa sz (x, f) [.ref (bb + 0), .int (p1), .int (p2), .int (p3), .ref oa]) (xQi E (lW E bb oa) (0, gL_rate p1 p2 p3 x f) (lA bb oa sz)) (fun _ _ _ => False) 2 12 (lA bb oa sz) := by
  refine vx_ofWH (cc := cL_rate) (maxL := 6) (ret := (some .int)) (hh := [(0, 12, 15, 13), (0, 12, 19, 15)]) (by decide) rfl ?_
  intro p e s m args below meth c s₁ B hml hv
  obtain ⟨rfl, hsz, hB, hK, hxs, hNc⟩ := hv
  subst hsz
  have hx := B.exec
  have hb := B.bytes
  have hr := B.returns
  have hts := atoms_spec (ws := wsL_rate) B.pre
  have hown : s.vm.findClass RL = some m.cls := findClass_of_methodNamed B.named
  have hlocks := B.notSynchronized
  have htab := vx_table B (x := yL_rate) (hts _ List.mem_cons_self)
  have hS : va_S (lA bb oa s.heap.size) s.heap s.heap [] := va_S.rf
  have hl := lv_entry ([.ref (bb + 0), .int (p1), .int (p2), .int (p3), .ref oa]) (n := 6) (Nat.le_of_ble_eq_true rfl)
  rw [lg_entry_eq]
  generalize (lg_sl ([.ref (bb + 0), .int (p1), .int (p2), .int (p3), .ref oa]) ++ List.replicate (6 - (lg_sl ([.ref (bb + 0), .int (p1), .int (p2), .int (p3), .ref oa])).length) Slot.unset).toArray = ls at hl ⊢
  have hl : lv_has ls 6 [(0, .ref (bb + 0)), (1, .int (p1)), (2, .int (p2)), (3, .int (p3)), (4, .ref oa)] := hl
  refine lv_aload hx hb dL_rate_0 (lv_at hl 4 rfl) ?_
  refine lv_iconst (v := 0) hx hb dL_rate_2 (by decide) ?_
  refine lv_aload_n hx hb dL_rate_3 rfl (lv_at hl 0 rfl) ?_
  refine lv_iload_n hx hb dL_rate_4 rfl (lv_at hl 1 rfl) ?_
  refine lv_iload_n hx hb dL_rate_5 rfl (lv_at hl 2 rfl) ?_
  refine lv_iload_n hx hb dL_rate_6 rfl (lv_at hl 3 rfl) ?_
  refine lx_ci (rest := [.int 0, .ref oa]) ⟨hx, hb, hml, hown, hts⟩ (mX10_rate l hl9 E bb _ x p1 p2 p3) (cwV 3 hts gL_rate_X10_rate rfl rfl rfl (by decide +kernel) ⟨(Nat.le_of_ble_eq_true rfl), (Nat.le_of_ble_eq_true rfl)⟩) hB hoa hK hxs (fx_recv hK (pw_P (o := 0) hB.1 (by decide)) rfl) rfl hl.1 rfl (Nat.le_of_ble_eq_true rfl) dL_rate_7 ⟨(Nat.le_of_ble_eq_true rfl), (Nat.le_of_ble_eq_true rfl)⟩ hS (fun X ce q9 H locs hX hcode hB hS hce hcv hcl => ?_) (fun H locs hz hB hS => ?_)
  · rcases xEs_cases hX with rfl | rfl | rfl
    · refine wx_catch (nm := "java/lang/IndexOutOfBoundsException") hown [] ⟨0, 12, 15, 13⟩ [⟨0, 12, 19, 15⟩] (htab.trans rfl) (fun z hz => absurd hz List.not_mem_nil) (by decide) (by decide) (hts (.classLink RL 13 "java/lang/IndexOutOfBoundsException") (by decide +kernel)) (xS_cast hxs hX) hce hcv hcl ?_
      refine lv_astore (lv' := [(5, .ref q9), (0, .ref (bb + 0)), (1, .int (p1)), (2, .int (p2)), (3, .int (p3)), (4, .ref oa)]) hx hb dL_rate_15 hl (by decide) rfl (fun ls hl => ?_)
      refine lv_iconst (v := 1) hx hb dL_rate_17 (by decide) ?_
      exact xx_iret hx hb hr rfl hlocks hK (congrArg (Prod.mk 0) (show gL_rate p1 p2 p3 x f = _ by unfold gL_rate; rw [if_neg (show ¬ (fX10_rate p1 p2 p3 x).1 = 0 by rw [hcode, xc_1]; decide), if_pos (show (fX10_rate p1 p2 p3 x).1 = 1 by rw [hcode, xc_1])])) hB hS dL_rate_18 (Nat.le_of_ble_eq_true rfl) (Nat.le_of_ble_eq_true rfl)
    · refine wx_catch (nm := "java/lang/IllegalArgumentException") hown [⟨0, 12, 15, 13⟩] ⟨0, 12, 19, 15⟩ [] (htab.trans rfl) (fun z hz => by
      simp only [List.mem_cons, List.not_mem_nil, or_false] at hz
      rcases hz with rfl
      · exact ⟨by decide, by decide, "java/lang/IndexOutOfBoundsException", hts (.classLink RL 13 "java/lang/IndexOutOfBoundsException") (by decide +kernel), hNc.1⟩) (by decide) (by decide) (hts (.classLink RL 15 "java/lang/IllegalArgumentException") (by decide +kernel)) (xS_cast hxs hX) hce hcv hcl ?_
      refine lv_astore (lv' := [(5, .ref q9), (0, .ref (bb + 0)), (1, .int (p1)), (2, .int (p2)), (3, .int (p3)), (4, .ref oa)]) hx hb dL_rate_19 hl (by decide) rfl (fun ls hl => ?_)
      refine lv_iconst (v := 2) hx hb dL_rate_21 (by decide) ?_
      exact xx_iret hx hb hr rfl hlocks hK (congrArg (Prod.mk 0) (show gL_rate p1 p2 p3 x f = _ by unfold gL_rate; rw [if_neg (show ¬ (fX10_rate p1 p2 p3 x).1 = 0 by rw [hcode, xc_2]; decide), if_neg (show ¬ (fX10_rate p1 p2 p3 x).1 = 1 by rw [hcode, xc_2]; decide)])) hB hS dL_rate_22 (Nat.le_of_ble_eq_true rfl) (Nat.le_of_ble_eq_true rfl)
    · exact absurd hcode (by rw [xc_3]; rcases hcod with h | h | h <;> rw [h] <;> decide)
  · refine lv_i2l (v := (fX10_rate p1 p2 p3 x).2.2.toInt64) hx hb dL_rate_10 rfl ?_
    refine lx_lst hx hb hK hB hoa hS dL_rate_11 (fun H locs hB hS => ?_)
    refine lv_goto (tgt := 23) hx hb dL_rate_12 (by decide) ?_
    refine lv_iconst (v := 0) hx hb dL_rate_23 (by decide) ?_
    exact xx_iret hx hb hr rfl hlocks hK (congrArg (Prod.mk 0) (show gL_rate p1 p2 p3 x f = _ by unfold gL_rate; rw [if_pos hz])) hB hS dL_rate_24 (Nat.le_of_ble_eq_true rfl) (Nat.le_of_ble_eq_true rfl)

def gL_log (p1 : Int32) (p2 : Int32) (x : PS) (f : Nat → Int64) : (PS × (Nat → Int64)) × Int32 := if (fX10_log p1 p2 x).1 = 0 then (((fX10_log p1 p2 x).2.1, vp_updL f 0 (fX10_log p1 p2 x).2.2.toInt64), 0) else (((fX10_log p1 p2 x).2.1, f), 1)
set_option maxHeartbeats 4000000 in
set_option maxRecDepth 100000 in
theorem mL_log (l : Launch) (hl9 : l.stackTraces = false) (E : eE) (bb oa sz : Nat) (hoa : ¬ cA bb oa) (x : PS) (f : Nat → Int64) (p1 : Int32) (p2 : Int32) (hcod : (fX10_log p1 p2 x).1 = 0 ∨ (fX10_log p1 p2 x).1 = 1) : vx_Met l yL_log wsL_log ({ frames := 7, cells := 1, slots := 6, locals := 112 }) (lPre E bb oa sz (x, f) [.ref (bb + 0), .int (p1), .int (p2), .ref oa]) (xQi E (lW E bb oa) (0, gL_log p1 p2 x f) (lA bb oa sz)) (fun _ _ _ => False) 1 6 (lA bb oa sz) := by
  refine vx_ofWH (cc := cL_log) (maxL := 5) (ret := (some .int)) (hh := [(0, 10, 13, 13)]) (by decide) rfl ?_
  intro p e s m args below meth c s₁ B hml hv
  obtain ⟨rfl, hsz, hB, hK, hxs, hNc⟩ := hv
  subst hsz
  have hx := B.exec
  have hb := B.bytes
  have hr := B.returns
  have hts := atoms_spec (ws := wsL_log) B.pre
  have hown : s.vm.findClass RL = some m.cls := findClass_of_methodNamed B.named
  have hlocks := B.notSynchronized
  have htab := vx_table B (x := yL_log) (hts _ List.mem_cons_self)
  have hS : va_S (lA bb oa s.heap.size) s.heap s.heap [] := va_S.rf
  have hl := lv_entry ([.ref (bb + 0), .int (p1), .int (p2), .ref oa]) (n := 5) (Nat.le_of_ble_eq_true rfl)
  rw [lg_entry_eq]
  generalize (lg_sl ([.ref (bb + 0), .int (p1), .int (p2), .ref oa]) ++ List.replicate (5 - (lg_sl ([.ref (bb + 0), .int (p1), .int (p2), .ref oa])).length) Slot.unset).toArray = ls at hl ⊢
  have hl : lv_has ls 5 [(0, .ref (bb + 0)), (1, .int (p1)), (2, .int (p2)), (3, .ref oa)] := hl
  refine lv_aload_n hx hb dL_log_0 rfl (lv_at hl 3 rfl) ?_
  refine lv_iconst (v := 0) hx hb dL_log_1 (by decide) ?_
  refine lv_aload_n hx hb dL_log_2 rfl (lv_at hl 0 rfl) ?_
  refine lv_iload_n hx hb dL_log_3 rfl (lv_at hl 1 rfl) ?_
  refine lv_iload_n hx hb dL_log_4 rfl (lv_at hl 2 rfl) ?_
  refine lx_ci (rest := [.int 0, .ref oa]) ⟨hx, hb, hml, hown, hts⟩ (mX10_log l hl9 E bb _ x p1 p2) (cwV 2 hts gL_log_X10_log rfl rfl rfl (by decide +kernel) ⟨(Nat.le_of_ble_eq_true rfl), (Nat.le_of_ble_eq_true rfl)⟩) hB hoa hK hxs (fx_recv hK (pw_P (o := 0) hB.1 (by decide)) rfl) rfl hl.1 rfl (Nat.le_of_ble_eq_true rfl) dL_log_5 ⟨(Nat.le_of_ble_eq_true rfl), (Nat.le_of_ble_eq_true rfl)⟩ hS (fun X ce q9 H locs hX hcode hB hS hce hcv hcl => ?_) (fun H locs hz hB hS => ?_)
  · rcases xEs_cases hX with rfl | rfl | rfl
    · refine wx_catch (nm := "java/lang/IndexOutOfBoundsException") hown [] ⟨0, 10, 13, 13⟩ [] (htab.trans rfl) (fun z hz => absurd hz List.not_mem_nil) (by decide) (by decide) (hts (.classLink RL 13 "java/lang/IndexOutOfBoundsException") (by decide +kernel)) (xS_cast hxs hX) hce hcv hcl ?_
      refine lv_astore (lv' := [(4, .ref q9), (0, .ref (bb + 0)), (1, .int (p1)), (2, .int (p2)), (3, .ref oa)]) hx hb dL_log_13 hl (by decide) rfl (fun ls hl => ?_)
      refine lv_iconst (v := 1) hx hb dL_log_15 (by decide) ?_
      exact xx_iret hx hb hr rfl hlocks hK (congrArg (Prod.mk 0) (show gL_log p1 p2 x f = _ by unfold gL_log; rw [if_neg (show ¬ (fX10_log p1 p2 x).1 = 0 by rw [hcode, xc_1]; decide)])) hB hS dL_log_16 (Nat.le_of_ble_eq_true rfl) (Nat.le_of_ble_eq_true rfl)
    · exact absurd hcode (by rw [xc_2]; rcases hcod with h | h <;> rw [h] <;> decide)
    · exact absurd hcode (by rw [xc_3]; rcases hcod with h | h <;> rw [h] <;> decide)
  · refine lv_i2l (v := (fX10_log p1 p2 x).2.2.toInt64) hx hb dL_log_8 rfl ?_
    refine lx_lst hx hb hK hB hoa hS dL_log_9 (fun H locs hB hS => ?_)
    refine lv_goto (tgt := 17) hx hb dL_log_10 (by decide) ?_
    refine lv_iconst (v := 0) hx hb dL_log_17 (by decide) ?_
    exact xx_iret hx hb hr rfl hlocks hK (congrArg (Prod.mk 0) (show gL_log p1 p2 x f = _ by unfold gL_log; rw [if_pos hz])) hB hS dL_log_18 (Nat.le_of_ble_eq_true rfl) (Nat.le_of_ble_eq_true rfl)
