/-! the law's own methods around a call that may throw -/
theorem kx_ofWH {l : Launch} {y : MethodName} {ws ws' : List Cond} {rm : Room} {Pc : Array Value → State → Prop} {Qc : Array Value → State → Outcome → State → Prop} {mc ms : Nat} {free : Addr → Prop} {cc : ByteArray} {maxL : Nat} {ret : Option FieldType} {hh : List (Nat × Nat × Nat × Nat)}
    (hy : plainName y.cls = true) (hw : ws = Cond.codeWith y cc maxL ret hh :: ws')
    (body : ∀ p e s m args below meth c s₁, BodyLoose p l y (headSpec ws rm) cc maxL ret e s m args below meth c s₁ → c.maxLocals = maxL → c.exceptionTable.toList = tableOf hh → Pc args s →
      W p l e (headSpec ws rm).room s m args below meth c s.heap [] 0 0 (MQ below Qc args s mc ms free) (entryFrame m args maxL)) : Met l y ws rm Pc Qc mc ms free := by
  refine MetFree.of_bodyS (code := cc) (maxLocals := maxL) (ret := ret) hy ?_ ?_
  · intro args s m h hn
    obtain ⟨m9, meth, c, hn9, h1, h2, h3, h4, -, h5, h6, -⟩ := Cond.codeWith_spec (atoms_spec (ws := ws) h _ (by rw [hw]; exact List.mem_cons_self))
    cases hn.symm.trans hn9
    exact ⟨meth, c, h1, h2, h3, h4, h5, h6⟩
  · intro p e s m args below meth c s₁ B hml hP _
    have hh0 : s₁.heap = s.heap := by rw [B.state]; rfl
    have ht := vx_table (x := y) B (atoms_spec (ws := ws) B.pre _ (by rw [hw]; exact List.mem_cons_self))
    obtain ⟨t, a1, o, b1, b2, b3⟩ := body p e s m args below meth c s₁ B hml ht hP s₁ hh0 (Stand.of_body B)
    exact ⟨t, o, a1, b1, b2, ⟨b3.1, b3.2⟩⟩
def kqw (D : va_G) (w0 : va_W) (T : Nat) (w1 wx : va_W) : Array Value → State → Outcome → State → Prop := fun a st oc t => (T = 0 ∧ kq D w0 w1 (.returned (some (.int (nI 0)))) a st oc t) ∨ ((T ≠ 0 ∧ T ≤ 2) ∧ kq D w0 wx (.returned (some (.int (nI T)))) a st oc t)
section KWW
variable {p : Program} {l : Launch} {e : Env} {R : Room} {s : State} {m : MethodId} {args : Array Value} {below : List Frame} {meth : Method} {c : Code} {H H0 : Heap} {locs : List Loc} {cells slots : Nat} {Q : State → Prop}
variable {cc : ByteArray} {pc : Nat} {ls : Array Slot} {rest : List Value} {D : va_G} {cl : List vw_C} {ws w0 w1 wx : va_W} {tys : List (ClassId × FieldType)} {A : Nat → Prop} {T mc ms : Nat} {q : Addr}
theorem kx_last (hexec : p.tables.exec = Jvm.exec) (hb : c.code = cc) (hK : va_K D cl tys s) (hP : va_P D cl ws H) (hD : va_D A ws) (hS : va_S A H0 H locs) (q0 t0 : Nat) {cA : ClassId} {n : Nat} {f : Nat → Int64} (ha : ws[q0]? = some (q, .inl (cA, n, .inr (.inl f)))) (ht : tys[t0]? = some (cA, .long)) {x : Nat} {v : Int64} (h : x < n) (hn : n < 2 ^ 31) (hdg : decode cc pc = .ok (.lastore, 1))
    (kk : ∀ (H1 : Heap) (locs1 : List Loc), va_P D cl (ws.set q0 (q, .inl (cA, n, .inr (.inl (vp_updL f x v))))) H1 → va_D A (ws.set q0 (q, .inl (cA, n, .inr (.inl (vp_updL f x v))))) → va_S A H0 H1 locs1 → W p l e R s m args below meth c H1 locs1 cells slots Q (F0 m (pc + 1) ls rest)) : W p l e R s m args below meth c H locs cells slots Q (F0 m pc ls (.long v :: .int (nI x) :: .ref q :: rest)) :=
  va_last hexec hb hK hP hD hS q0 t0 ha ht (vp_in_nI h hn) hdg (by rw [nI_clamp (show x < 2 ^ 31 by omega)]; exact kk)
theorem kx_lald (hexec : p.tables.exec = Jvm.exec) (hb : c.code = cc) (hK : va_K D cl tys s) (hP : va_P D cl ws H) (q0 t0 : Nat) {cA : ClassId} {n : Nat} {f : Nat → Int64} (ha : ws[q0]? = some (q, .inl (cA, n, .inr (.inl f)))) (ht : tys[t0]? = some (cA, .long)) {x : Nat} (h : x < n) (hn : n < 2 ^ 31) (hdg : decode cc pc = .ok (.laload, 1))
    (kk : W p l e R s m args below meth c H locs cells slots Q (F0 m (pc + 1) ls (.long (f x) :: rest))) : W p l e R s m args below meth c H locs cells slots Q (F0 m pc ls (.int (nI x) :: .ref q :: rest)) :=
  va_lald hexec hb hK hP q0 t0 ha ht (vp_in_nI h hn) hdg (by rw [nI_clamp (show x < 2 ^ 31 by omega)]; exact kk)
theorem kqw_0 (hexec : p.tables.exec = Jvm.exec) (hb : c.code = cc) (hr : meth.sig.returnType = some .int) (hlocks : meth.locks = false) (hT : T = 0) (hP : va_P D vwCl w1 H) (hD : va_D (kA w0) w1) (hS : va_S (kA w0) s.heap H locs) (hm : cells ≤ mc ∧ slots ≤ ms) {pc : Nat} {ls : Array Slot} (hdg : decode cc pc = .ok (.ireturn, 1)) : W p l e R s m args below meth c H locs cells slots (MQ below (kqw D w0 T w1 wx) args s mc ms (kA w0)) (F0 m pc ls [.int (nI 0)]) :=
  W.widen hm.1 hm.2 (W.iret hexec hb hr (fun t ht _ => Or.inl ⟨hT, rfl, by rw [ht]; exact hP, hD, hS.F ht⟩) hS.2.2 hdg hlocks)
theorem kqw_n {n : Nat} (hexec : p.tables.exec = Jvm.exec) (hb : c.code = cc) (hr : meth.sig.returnType = some .int) (hlocks : meth.locks = false) (hT : T = n) (hn : n ≠ 0 ∧ n ≤ 2) (hP : va_P D vwCl wx H) (hD : va_D (kA w0) wx) (hS : va_S (kA w0) s.heap H locs) (hm : cells ≤ mc ∧ slots ≤ ms) {pc : Nat} {ls : Array Slot} (hdg : decode cc pc = .ok (.ireturn, 1)) : W p l e R s m args below meth c H locs cells slots (MQ below (kqw D w0 T w1 wx) args s mc ms (kA w0)) (F0 m pc ls [.int (nI n)]) :=
  W.widen hm.1 hm.2 (W.iret hexec hb hr (fun t ht _ => Or.inr ⟨by rw [hT]; exact hn, by rw [hT], by rw [ht]; exact hP, hD, hS.F ht⟩) hS.2.2 hdg hlocks)
variable {y : MethodName} {bytes : ByteArray} {maxL nL n index : Nat} {ret : Option FieldType} {wds : List Cond} {rm : Room} {Ts : List Cond} {own : String} {As st0 : List Value} {wc wr : va_W} {tc : List (ClassId × FieldType)} {zy : Nat → Nat} {hh : List (Nat × Nat × Nat × Nat)}
/-- the law calls such a method of its own -/
theorem kww (S : CallFix p m c cc nL s args Ts own) (hM : Met l y wds rm (kwx zy As D wc tc) (kqw D wc T w1 wx) mc ms (kA wc)) (cw : vx_CSW R s args own index y bytes maxL ret hh wds rm mc ms n) (hP : va_P D vwCl ws H) (hD : va_D A ws) (hK : va_K D vwCl tc s) (hS : va_S A s.heap H locs) (hX0 : hX zy A s s.heap) (hF : xF s) (isC isR : List Nat)
    (hC0 : isC.filterMap (fun i => ws[i]?) = wc) (hC : isC.map (fun i => ws[i]?) = wc.map some) (hR : isR.map (fun i => ws[i]?) = wr.map some) (hnC : va_nd isC = true) (hnR : va_nd isR = true) (hdis : ∀ i ∈ isR, i ∉ isC)
    (hn : As.length = n) (hz : ls.size = nL) (hst : st0 = As.reverse ++ rest) (hW : (rest.map fun v => v.category).sum ≤ 8) (hdg : decode cc pc = .ok (.invokestatic index, 3)) (hf : cells + mc ≤ R.cells ∧ slots + ms ≤ R.slots)
    (k0 : ∀ (H1 : Heap) (locs1 : List Loc), T = 0 → va_P D vwCl (wr ++ w1) H1 → va_D A (wr ++ w1) → va_S A s.heap H1 locs1 → W p l e R s m args below meth c H1 locs1 (cells + mc) (slots + ms) Q (F0 m (pc + 3) ls (.int (nI 0) :: rest)))
    (kn : ∀ (H1 : Heap) (locs1 : List Loc), (T ≠ 0 ∧ T ≤ 2) → va_P D vwCl (wr ++ wx) H1 → va_D A (wr ++ wx) → va_S A s.heap H1 locs1 → W p l e R s m args below meth c H1 locs1 (cells + mc) (slots + ms) Q (F0 m (pc + 3) ls (.int (nI T) :: rest))) : W p l e R s m args below meth c H locs cells slots Q (F0 m pc ls st0) := by
  have hX1 : hX zy (kA wc) s H := (hX0.kept (fun a ha hn => hS.2.1 a ha hn)).narrow (kA_sub hD isC hC)
  have hrun := vx_runSW (H := H) (below := below) (meth := meth) (e := e) (locs := locs) (cells := cells) (slots := slots) (g := F0 m pc ls st0) (rest := rest) S hM cw ⟨kwx_blind, fun U hU hWm => ⟨⟨rfl, by rw [hU]; exact hP.sub isC hC0, va_K.moved hWm.alike hK, (hD.sub isC hnC hC).weaken (fun _ _ _ _ => trivial)⟩, by rw [hU]; exact hX1.moved hWm.alike, hF.warm hWm⟩⟩ rfl hn hz hst (lv_room hW) hdg hf
  intro T9 hT9 X
  obtain ⟨v', st₀, t, T', L, h0, X', hL, e1, -, hq, st⟩ := hrun T9 hT9 X
  rcases hq with ⟨hT0, hv, hP1, hD1, hF1, hF2⟩ | ⟨hT0, hv, hP1, hD1, hF1, hF2⟩
  · cases hv
    rw [h0] at hF1 hF2
    obtain ⟨g1, g2⟩ := kj hP hD isC isR hC hR hnR hdis hF2 hP1 hD1
    obtain ⟨t2, a1, b1⟩ := k0 t.heap _ hT0 g1 g2 (kS hS (kA_sub hD isC hC) hF1 hF2 hL) T' e1 X'
    exact ⟨t2, st t2 a1, b1⟩
  · cases hv
    rw [h0] at hF1 hF2
    obtain ⟨g1, g2⟩ := kj hP hD isC isR hC hR hnR hdis hF2 hP1 hD1
    obtain ⟨t2, a1, b1⟩ := kn t.heap _ hT0 g1 g2 (kS hS (kA_sub hD isC hC) hF1 hF2 hL) T' e1 X'
    exact ⟨t2, st t2 a1, b1⟩
end KWW
