/-! switches -/
theorem sw_ne {x : Int32} {k : Int} (K : Int32) (hK : K.toInt = k) (h : ¬ x = K) : x.toInt ≠ k := fun q => h (Int32.toInt_inj.mp (q.trans hK.symm))
theorem gx_tab {p : Program} {l : Launch} {e : Env} {R : Room} {s : State} {m : MethodId} {args : Array Value} {below : List Frame} {meth : Method} {c : Code} {H : Heap} {locs : List Loc} {cells slots : Nat} {Q : State → Prop} {cc : ByteArray} {pc : Nat} {ls : Array Slot} {rest : List Value} (hexec : p.tables.exec = Jvm.exec) (hb : c.code = cc) {x K : Int32} (hxK : x = K) {dflt lo hi : Int} {offs : Array Int} {len : Nat} {off : Int} {tgt : Nat} (hdg : decode cc pc = .ok (.tableswitch dflt lo hi offs, len)) (h1 : ¬ K.toInt < lo) (h2 : ¬ hi < K.toInt) (ho : offs[(K.toInt - lo).toNat]? = some off) (ht : (pc : Int) + off = (tgt : Int))
    (k : W p l e R s m args below meth c H locs cells slots Q (F0 m tgt ls rest)) : W p l e R s m args below meth c H locs cells slots Q (F0 m pc ls (.int x :: rest)) := by
  subst hxK
  exact lv_tableIn hexec hb hdg h1 h2 ho ht k
