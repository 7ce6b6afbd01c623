/-! ends and values that this claim wants of the class -/
section KR3
variable {p : Program} {l : Launch} {e : Env} {R : Room} {s : State} {m : MethodId} {args : Array Value} {below : List Frame} {meth : Method} {c : Code} {H : Heap} {cells slots : Nat} {cc : ByteArray}
theorem kr_vret (hexec : p.tables.exec = Jvm.exec) (hb : c.code = cc) (hr : meth.sig.returnType = none) (hlocks : meth.locks = false) (hH : H = s.heap) {pc : Nat} {ls : Array Slot} (hdg : decode cc pc = .ok (.return_, 1)) : W p l e R s m args below meth c H [] cells slots (MQ below (kr (.returned none)) args s cells slots (fun _ => False)) (F0 m pc ls []) :=
  W.vret hexec hb hr (fun t ht _ => ⟨rfl, ht.trans hH⟩) (fun _ h => absurd h List.not_mem_nil) hdg hlocks
end KR3
theorem vl_2 {q : Nat} {v : Int32} (hq : q < 3) (h : isValB (nI q) v = true) : ¬ v < lsA q ∧ ¬ msA q < v := by
  rw [isVal_q hq, Bool.and_eq_true, Bool.not_eq_true', Bool.not_eq_true', decide_eq_false_iff_not, decide_eq_false_iff_not] at h
  exact h
