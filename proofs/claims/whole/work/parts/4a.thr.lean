/-! methods of the face that throw: what they want of the start, how they return, how they throw, how they are called -/
abbrev eIA : String := "java/lang/IllegalArgumentException"
abbrev eIS : String := "java/lang/IllegalStateException"
abbrev eIO : String := "java/lang/IndexOutOfBoundsException"
abbrev xNm : List String := ["java/lang/RuntimeException", "java/lang/Exception"]
def xB : List Cond := [.declares (Bundle.initS "java/lang/RuntimeException"), .declares (Bundle.initS "java/lang/Exception"), .declares (Bundle.initS "java/lang/Throwable"), .castable eIA eIA, .castable eIS eIS, .castable eIO eIO]
theorem xb_IA : ∀ w ∈ (vx_atS RX4 42 eIA xNm).filter (fun w => !goodWord w), w ∈ xB := by decide +kernel
theorem xb_IS : ∀ w ∈ (vx_atS RX4 61 eIS xNm).filter (fun w => !goodWord w), w ∈ xB := by decide +kernel
theorem xb_IO : ∀ w ∈ (vx_atS RX4 267 eIO xNm).filter (fun w => !goodWord w), w ∈ xB := by decide +kernel
theorem xg_IA : ∀ w ∈ Cond.classLink RX4 38 eIA :: Cond.initialized eIA :: vx_atS RX4 42 eIA xNm, vx_ot w = true := by decide +kernel
theorem xg_IS : ∀ w ∈ Cond.classLink RX4 57 eIS :: Cond.initialized eIS :: vx_atS RX4 61 eIS xNm, vx_ot w = true := by decide +kernel
theorem xg_IO : ∀ w ∈ Cond.classLink RX4 263 eIO :: Cond.initialized eIO :: vx_atS RX4 267 eIO xNm, vx_ot w = true := by decide +kernel
theorem xn_fit : ∀ n ∈ xNm, Bundle.fit n = true := by decide +kernel
theorem xf_IA : Bundle.fit eIA = true := by decide +kernel
theorem xf_IS : Bundle.fit eIS = true := by decide +kernel
theorem xf_IO : Bundle.fit eIO = true := by decide +kernel
def xTx : List (Nat × String) := [(40, "distance is not 1 to 999"), (49, "seats is not 1 to 12"), (59, "there are 10 rows, or one has this distance"), (83, "side is not -12 to 12"), (85, "half is not 0 to 5"), (91, "there are 4 columns"), (111, "value is out of the setting's range"), (124, "the seat is taken"), (134, "the seat is free"), (142, "many is not 1 to 12"), (151, "there are not so many free seats side by side"), (162, "code is not 33 to 126"), (167, "the buffer has 60 characters"), (180, "the buffer is not complete rows as a text"), (197, "there is no saved state"), (218, "place is below 0"), (265, "there is no such row"), (271, "there is no such seat"), (273, "there is no such column"), (275, "there is no such setting"), (277, "height is not 0 to 999"), (279, "there is no such property")]
def xF (U : State) : Prop := (∀ w ∈ xB, w.before #[] U = true) ∧ (∀ q ∈ xTx, ∃ sa : Nat, vk_R RX4 q.1 q.2 sa U) ∧ va_Nc eIS eIA U ∧ va_Nc eIA eIO U ∧ va_Nc eIS eIO U
theorem xB_al {s U : State} (hal : s.vm.Alike U.vm) (h : ∀ w ∈ xB, w.before #[] s = true) : ∀ w ∈ xB, w.before #[] U = true := by
  intro w hw
  have h1 := h w hw
  have key : w.before #[] (s.setVm U.vm) = true → w.onTables = true → w.before #[] U = true := fun h2 h3 => va_tabs h3 (u := s.setVm U.vm) rfl h2
  simp only [xB, List.mem_cons, List.not_mem_nil, or_false] at hw
  rcases hw with rfl | rfl | rfl | rfl | rfl | rfl
  · exact key ((Cond.declares_setVm hal _).trans h1) rfl
  · exact key ((Cond.declares_setVm hal _).trans h1) rfl
  · exact key ((Cond.declares_setVm hal _).trans h1) rfl
  · exact key ((Cond.castable_setVm hal _ _).trans h1) rfl
  · exact key ((Cond.castable_setVm hal _ _).trans h1) rfl
  · exact key ((Cond.castable_setVm hal _ _).trans h1) rfl
theorem xF.warm {s U : State} (hW : s.WarmedH U.vm) (h : xF s) : xF U :=
  ⟨xB_al hW.alike h.1, fun q hq => by obtain ⟨sa, h2⟩ := h.2.1 q hq; exact ⟨sa, vk_R.warm hW h2⟩, va_Nc.moved hW.alike h.2.2.1, va_Nc.moved hW.alike h.2.2.2.1, va_Nc.moved hW.alike h.2.2.2.2⟩
theorem xF.at {s : State} (h : xF s) {w : Cond} (hw : w ∈ xB) (ht : w.onTables = true) (args : Array Value) : w.before args s = true := va_tabs ht rfl (h.1 w hw)
theorem xB_ot : ∀ w ∈ xB, w.onTables = true := by decide +kernel
theorem xat {args : Array Value} {s : State} {L : List Cond} (hF : xF s) (h2 : ∀ w ∈ L.filter (fun w => !goodWord w), w ∈ xB) (h1 : ∀ w ∈ L.filter goodWord, w.before args s = true) : ∀ w ∈ L, w.before args s = true :=
  vx_hat (B := xB) h1 h2 (fun w hw => hF.at hw (xB_ot w hw) args)
def hX (y : Nat → Nat) (A : Nat → Prop) (U : State) (H : Heap) : Prop := zZ y A U H ∧ vx_Zq Bundle.tN "UNASSIGNED_STACK" Bundle.steD A U H ∧ vx_Zq Bundle.tN "SUPPRESSED_SENTINEL" Bundle.listD A U H
theorem hX.moved {y : Nat → Nat} {A : Nat → Prop} {u U : State} {H : Heap} (hvm : u.vm.Alike U.vm) (h : hX y A u H) : hX y A U H := ⟨h.1.moved hvm, vx_Zq.moved hvm h.2.1, vx_Zq.moved hvm h.2.2⟩
theorem hX.kept {y : Nat → Nat} {A : Nat → Prop} {U : State} {H H1 : Heap} (h : hX y A U H) (hq : ∀ a : Nat, a < H.size → ¬ A a → H1[a]? = H[a]?) : hX y A U H1 := ⟨h.1.kept hq, h.2.1.kept hq, h.2.2.kept hq⟩
theorem hX.narrow {y : Nat → Nat} {A B : Nat → Prop} {U : State} {H : Heap} (h : hX y A U H) (hAB : ∀ q, B q → A q) : hX y B U H := ⟨h.1.narrow hAB, h.2.1.narrow hAB, h.2.2.narrow hAB⟩
def kwx (y : Nat → Nat) (av : List Value) (D : va_G) (ws : va_W) (tys : List (ClassId × FieldType)) : Array Value → State → Prop := fun v U => kw av D ws tys v U ∧ hX y (kA ws) U U.heap ∧ xF U
theorem kwx_blind {y : Nat → Nat} {av : List Value} {D : va_G} {ws : va_W} {tys : List (ClassId × FieldType)} : FrameBlind (kwx y av D ws tys) := fun a U g mk q => ⟨kw_blind a U g mk q.1, hX.moved (u := U) (U := U.calling g mk a) (Vm.Alike.refl U.vm) q.2.1, xF.warm (s := U) (U := U.calling g mk a) (State.WarmedH.refl U) q.2.2⟩
/-- which exception -/
def xE (e1 e2 : String) (T : Nat) (E : String) : Prop := (T = 1 ∧ E = e1) ∨ (T = 2 ∧ E = e2)
theorem xE_1 {e1 e2 E : String} {b : Bool} (h : xE e1 e2 (if b = true then 0 else 1) E) : b = false ∧ E = e1 := by
  cases b with
  | true => rcases h with ⟨h, -⟩ | ⟨h, -⟩ <;> simp at h
  | false =>
    rcases h with ⟨-, h⟩ | ⟨h, -⟩
    · exact ⟨rfl, h⟩
    · simp at h
theorem t0_t {b : Bool} (h : (if b = true then 0 else 1 : Nat) = 0) : b = true := by
  cases b with
  | true => rfl
  | false => simp at h
def kqx (D : va_G) (w0 : va_W) (T : Nat) (w1 : va_W) (o : Outcome) : Array Value → State → Outcome → State → Prop := fun a st oc t => T = 0 ∧ kq D w0 w1 o a st oc t
def kX (D : va_G) (w0 : va_W) (e1 e2 : String) (T : Nat) (wx : va_W) : String → State → State → Prop := fun E st t => xE e1 e2 T E ∧ va_P D vwCl wx t.heap ∧ va_D (kA w0) wx ∧ va_F (kA w0) st t
section KXX
variable {p : Program} {l : Launch} {e : Env} {R : Room} {s : State} {m : MethodId} {args : Array Value} {below : List Frame} {meth : Method} {c : Code} {H : Heap} {locs : List Loc} {cells slots : Nat} {Q : State → Prop}
variable {cc : ByteArray} {pc : Nat} {ls : Array Slot} {rest : List Value} {D : va_G} {ws : va_W} {A : Nat → Prop}
variable {y : MethodName} {bytes : ByteArray} {maxL nL n index mc ms : Nat} {ret : Option FieldType} {wds : List Cond} {rm : Room} {Ts : List Cond} {own C : String} {b : Addr} {As st0 : List Value} {wc wr w1 wx w0 : va_W} {tc : List (ClassId × FieldType)} {v : Option Value} {zy : Nat → Nat} {e1 e2 : String} {T : Nat}
theorem kxV (S : CallFix p m c cc nL s args Ts own) (hM : vx_Met l y wds rm (kwx zy (.ref b :: As) D wc tc) (kqx D wc T w1 (.returned v)) (kX D wc e1 e2 T wx) mc ms (kA wc)) (cw : CallW R s args own C index y bytes maxL ret wds rm mc ms n) (hP : va_P D vwCl ws H) (hD : va_D A ws) (hK : va_K D vwCl tc s) (hS : va_S A s.heap H locs) (hX0 : hX zy A s s.heap) (hF : xF s) (isC isR : List Nat)
    (hC0 : isC.filterMap (fun i => ws[i]?) = wc) (hC : isC.map (fun i => ws[i]?) = wc.map some) (hR : isR.map (fun i => ws[i]?) = wr.map some) (hnC : va_nd isC = true) (hnR : va_nd isR = true) (hdis : ∀ i ∈ isR, i ∉ isC) (hr : ∃ cell : Cell, H[b]? = some cell ∧ cell.vm.isStatics = false ∧ s.vm.findClass C = some cell.cls)
    (hn : As.length = n) (hz : ls.size = nL) (hst : st0 = As.reverse ++ .ref b :: rest) (hW : (rest.map fun v => v.category).sum ≤ 8) (hdg : decode cc pc = .ok (.invokevirtual index, 3)) (hf : cells + mc ≤ R.cells ∧ slots + ms ≤ R.slots)
    (kx : ∀ (E : String) (ce : Cell) (q9 : Addr) (H1 : Heap) (locs1 : List Loc), xE e1 e2 T E → va_P D vwCl (wr ++ wx) H1 → va_D A (wr ++ wx) → va_S A s.heap H1 locs1 → H1[q9]? = some ce → ce.vm = .none → s.vm.findClass E = some ce.cls → vx_W p l e R s m args below meth c H1 locs1 (cells + mc) (slots + ms) Q (F0 m pc ls rest) q9)
    (kk : ∀ (H1 : Heap) (locs1 : List Loc), T = 0 → va_P D vwCl (wr ++ w1) H1 → va_D A (wr ++ w1) → va_S A s.heap H1 locs1 → W p l e R s m args below meth c H1 locs1 (cells + mc) (slots + ms) Q (F0 m (pc + 3) ls (v.toList ++ rest))) : W p l e R s m args below meth c H locs cells slots Q (F0 m pc ls st0) := by
  have hX1 : hX zy (kA wc) s H := (hX0.kept (fun a ha hn => hS.2.1 a ha hn)).narrow (kA_sub hD isC hC)
  have hrun := vx_runV (H := H) (below := below) (meth := meth) (e := e) (locs := locs) (cells := cells) (slots := slots) (g := F0 m pc ls st0) (rest := rest) S hM cw ⟨kwx_blind, hr, fun U hU hWm => ⟨⟨rfl, by rw [hU]; exact hP.sub isC hC0, va_K.moved hWm.alike hK, (hD.sub isC hnC hC).weaken (fun _ _ _ _ => trivial)⟩, by rw [hU]; exact hX1.moved hWm.alike, hF.warm hWm⟩⟩ rfl hn hz hst (lv_room hW) hdg hf
  intro T9 hT9 X
  rcases hrun T9 hT9 X with ⟨v', st₀, t, T', L, h0, X', hL, e1', -, ⟨hT0, hv, hP1, hD1, hF1, hF2⟩, st⟩ | ⟨q, st₀, t, T', L, E, ce, h0, X', hL, e1', -, ⟨hE, hP1, hD1, hF1, hF2⟩, hce, hcv, hcl, st⟩
  · cases hv
    rw [h0] at hF1 hF2
    obtain ⟨g1, g2⟩ := kj hP hD isC isR hC hR hnR hdis hF2 hP1 hD1
    obtain ⟨t2, a1, b1⟩ := kk t.heap _ hT0 g1 g2 (kS hS (kA_sub hD isC hC) hF1 hF2 hL) T' e1' X'
    exact ⟨t2, st t2 a1, b1⟩
  · rw [h0] at hF1 hF2
    obtain ⟨g1, g2⟩ := kj hP hD isC isR hC hR hnR hdis hF2 hP1 hD1
    obtain ⟨t2, a1, b1⟩ := kx E ce q t.heap _ hE g1 g2 (kS hS (kA_sub hD isC hC) hF1 hF2 hL) hce hcv hcl T' e1' X'
    exact ⟨t2, st.trans a1, b1⟩
theorem kxS (S : CallFix p m c cc nL s args Ts own) (hM : vx_Met l y wds rm (kwx zy As D wc tc) (kqx D wc T w1 (.returned v)) (kX D wc e1 e2 T wx) mc ms (kA wc)) (cw : CallB R s args own index y bytes maxL ret wds rm mc ms n ∧ (Cond.static y).before args s = true) (hP : va_P D vwCl ws H) (hD : va_D A ws) (hK : va_K D vwCl tc s) (hS : va_S A s.heap H locs) (hX0 : hX zy A s s.heap) (hF : xF s) (isC isR : List Nat)
    (hC0 : isC.filterMap (fun i => ws[i]?) = wc) (hC : isC.map (fun i => ws[i]?) = wc.map some) (hR : isR.map (fun i => ws[i]?) = wr.map some) (hnC : va_nd isC = true) (hnR : va_nd isR = true) (hdis : ∀ i ∈ isR, i ∉ isC)
    (hn : As.length = n) (hz : ls.size = nL) (hst : st0 = As.reverse ++ rest) (hW : (rest.map fun v => v.category).sum ≤ 8) (hdg : decode cc pc = .ok (.invokestatic index, 3)) (hf : cells + mc ≤ R.cells ∧ slots + ms ≤ R.slots)
    (kx : ∀ (E : String) (ce : Cell) (q9 : Addr) (H1 : Heap) (locs1 : List Loc), xE e1 e2 T E → va_P D vwCl (wr ++ wx) H1 → va_D A (wr ++ wx) → va_S A s.heap H1 locs1 → H1[q9]? = some ce → ce.vm = .none → s.vm.findClass E = some ce.cls → vx_W p l e R s m args below meth c H1 locs1 (cells + mc) (slots + ms) Q (F0 m pc ls rest) q9)
    (kk : ∀ (H1 : Heap) (locs1 : List Loc), T = 0 → va_P D vwCl (wr ++ w1) H1 → va_D A (wr ++ w1) → va_S A s.heap H1 locs1 → W p l e R s m args below meth c H1 locs1 (cells + mc) (slots + ms) Q (F0 m (pc + 3) ls (v.toList ++ rest))) : W p l e R s m args below meth c H locs cells slots Q (F0 m pc ls st0) := by
  have hX1 : hX zy (kA wc) s H := (hX0.kept (fun a ha hn => hS.2.1 a ha hn)).narrow (kA_sub hD isC hC)
  have hrun := vx_runS (H := H) (below := below) (meth := meth) (e := e) (locs := locs) (cells := cells) (slots := slots) (g := F0 m pc ls st0) (rest := rest) S hM cw ⟨kwx_blind, fun U hU hWm => ⟨⟨rfl, by rw [hU]; exact hP.sub isC hC0, va_K.moved hWm.alike hK, (hD.sub isC hnC hC).weaken (fun _ _ _ _ => trivial)⟩, by rw [hU]; exact hX1.moved hWm.alike, hF.warm hWm⟩⟩ rfl hn hz hst (lv_room hW) hdg hf
  intro T9 hT9 X
  rcases hrun T9 hT9 X with ⟨v', st₀, t, T', L, h0, X', hL, e1', -, ⟨hT0, hv, hP1, hD1, hF1, hF2⟩, st⟩ | ⟨q, st₀, t, T', L, E, ce, h0, X', hL, e1', -, ⟨hE, hP1, hD1, hF1, hF2⟩, hce, hcv, hcl, st⟩
  · cases hv
    rw [h0] at hF1 hF2
    obtain ⟨g1, g2⟩ := kj hP hD isC isR hC hR hnR hdis hF2 hP1 hD1
    obtain ⟨t2, a1, b1⟩ := kk t.heap _ hT0 g1 g2 (kS hS (kA_sub hD isC hC) hF1 hF2 hL) T' e1' X'
    exact ⟨t2, st t2 a1, b1⟩
  · rw [h0] at hF1 hF2
    obtain ⟨g1, g2⟩ := kj hP hD isC isR hC hR hnR hdis hF2 hP1 hD1
    obtain ⟨t2, a1, b1⟩ := kx E ce q t.heap _ hE g1 g2 (kS hS (kA_sub hD isC hC) hF1 hF2 hL) hce hcv hcl T' e1' X'
    exact ⟨t2, st.trans a1, b1⟩
variable {Qc : Array Value → State → Outcome → State → Prop} {XC : String → State → State → Prop} {free : Addr → Prop}
theorem kxO {E : String} {ce : Cell} {q9 : Addr} (hxt : ∀ x ∈ c.exceptionTable.toList, False) (hlocks : meth.locks = false) (hE : xE e1 e2 T E) (hP : va_P D vwCl wx H) (hD : va_D (kA w0) wx) (hS : va_S (kA w0) s.heap H locs) (hcell : H[q9]? = some ce) (hv : ce.vm = .none) (hcl : s.vm.findClass E = some ce.cls) (hc : cells ≤ mc) (hs : slots ≤ ms) :
    vx_W p l e R s m args below meth c H locs cells slots (vx_MQ below Qc (kX D w0 e1 e2 T wx) args s mc ms (kA w0)) (F0 m pc ls rest) q9 :=
  vx_out (fun x hx => (hxt x hx).elim) hlocks hcell hv hcl (fun t ht _ => ⟨hE, by rw [ht]; exact hP, hD, hS.F ht⟩) hS.2.2 hc hs
theorem kxTh {H1 : Heap} {cls : String} (hE : xE e1 e2 T cls) (hP : va_P D vwCl wx H) (hD : va_D (kA w0) wx) (hS : va_S (kA w0) s.heap H locs) : ∀ t : State, s.vm.Alike t.vm → H.size ≤ t.heap.size → (∀ q : Nat, q < H.size → t.heap[q]? = H[q]?) → kX D w0 e1 e2 T wx cls s t := by
  intro t _ hz hk
  refine ⟨hE, fun k q hq => (hP k q hq).kept (hk q.1 (hP k q hq).lt), hD, Nat.le_trans hS.1 hz, fun q h1 h2 => ?_⟩
  rw [hk q (Nat.lt_of_lt_of_le h1 hS.1)]
  exact hS.2.1 q h1 h2
theorem kxT {cls text : String} {ik is ic : Nat} (hexec : p.tables.exec = Jvm.exec) (hb : c.code = cc) (hl : l.stackTraces = false) (hown : s.vm.findClass RX4 = some m.cls) (hcls : Bundle.fit cls = true)
    (hk : (Cond.classLink RX4 ik cls).before args s = true) (hini : (Cond.initialized cls).before args s = true) (hF : xF s) (htx : (is, text) ∈ xTx) (hat : ∀ w ∈ vx_atS RX4 ic cls xNm, w.before args s = true)
    (hgood : ∀ w ∈ Cond.classLink RX4 ik cls :: Cond.initialized cls :: vx_atS RX4 ic cls xNm, vx_ot w = true) (hX0 : hX zy (kA w0) s s.heap) (hsize : ls.size = c.maxLocals)
    (d0 : decode cc pc = .ok (.new ik, 3)) (d3 : decode cc (pc + 3) = .ok (.dup, 1)) (d4 : decode cc (pc + 4) = .ok (.ldc is, 2)) (d6 : decode cc (pc + 6) = .ok (.invokespecial ic, 3)) (d9 : decode cc (pc + 9) = .ok (.athrow, 1))
    (hxt : ∀ x ∈ c.exceptionTable.toList, False) (hR : 5 < R.frames ∧ (rest.map fun v => v.category).sum + 82 ≤ R.locals ∧ cells + 1 ≤ R.cells ∧ slots + 6 ≤ R.slots) (hlocks : meth.locks = false)
    (hE : xE e1 e2 T cls) (hP : va_P D vwCl wx H) (hD : va_D (kA w0) wx) (hS : va_S (kA w0) s.heap H locs) (hm : cells + 1 ≤ mc ∧ slots + 6 ≤ ms) :
    W p l e R s m args below meth c H locs cells slots (vx_MQ below Qc (kX D w0 e1 e2 T wx) args s mc ms (kA w0)) (F0 m pc ls rest) := by
  obtain ⟨sa, hstr⟩ := hF.2.1 _ htx
  exact vx_throwS hexec hb hl hown hcls xn_fit hk hini hstr hat hgood hX0.2.1 hX0.2.2 hS hsize d0 d3 d4 d6 d9 (fun x hx => (hxt x hx).elim) hR.1 hR.2.1 hR.2.2.1 hR.2.2.2 hlocks (kxTh (H1 := H) hE hP hD hS) hS.2.2 hm.1 hm.2
theorem kxTW {cls text : String} {ik is ic : Nat} (hexec : p.tables.exec = Jvm.exec) (hb : c.code = cc) (hl : l.stackTraces = false) (hown : s.vm.findClass RX4 = some m.cls) (hcls : Bundle.fit cls = true)
    (hk : (Cond.classLink RX4 ik cls).before args s = true) (hini : (Cond.initialized cls).before args s = true) (hF : xF s) (htx : (is, text) ∈ xTx) (hat : ∀ w ∈ vx_atS RX4 ic cls xNm, w.before args s = true)
    (hgood : ∀ w ∈ Cond.classLink RX4 ik cls :: Cond.initialized cls :: vx_atS RX4 ic cls xNm, vx_ot w = true) (hX0 : hX zy (kA w0) s s.heap) (hsize : ls.size = c.maxLocals)
    (d0 : decode cc pc = .ok (.new ik, 3)) (d3 : decode cc (pc + 3) = .ok (.dup, 1)) (d4 : decode cc (pc + 4) = .ok (.ldc_w is, 3)) (d7 : decode cc (pc + 7) = .ok (.invokespecial ic, 3)) (d10 : decode cc (pc + 10) = .ok (.athrow, 1))
    (hxt : ∀ x ∈ c.exceptionTable.toList, False) (hR : 5 < R.frames ∧ (rest.map fun v => v.category).sum + 82 ≤ R.locals ∧ cells + 1 ≤ R.cells ∧ slots + 6 ≤ R.slots) (hlocks : meth.locks = false)
    (hE : xE e1 e2 T cls) (hP : va_P D vwCl wx H) (hD : va_D (kA w0) wx) (hS : va_S (kA w0) s.heap H locs) (hm : cells + 1 ≤ mc ∧ slots + 6 ≤ ms) :
    W p l e R s m args below meth c H locs cells slots (vx_MQ below Qc (kX D w0 e1 e2 T wx) args s mc ms (kA w0)) (F0 m pc ls rest) := by
  obtain ⟨sa, hstr⟩ := hF.2.1 _ htx
  exact vx_throwSW hexec hb hl hown hcls xn_fit hk hini hstr hat hgood hX0.2.1 hX0.2.2 hS hsize d0 d3 d4 d7 d10 (fun x hx => (hxt x hx).elim) hR.1 hR.2.1 hR.2.2.1 hR.2.2.2 hlocks (kxTh (H1 := H) hE hP hD hS) hS.2.2 hm.1 hm.2
theorem kX_iret (hexec : p.tables.exec = Jvm.exec) (hb : c.code = cc) (hr : meth.sig.returnType = some .int) (hlocks : meth.locks = false) {v v' : Int32} (hT : T = 0) (E : v = v') (hP : va_P D vwCl w1 H) (hD : va_D (kA w0) w1) (hS : va_S (kA w0) s.heap H locs) (hm : cells ≤ mc ∧ slots ≤ ms) {pc : Nat} {ls : Array Slot} (hdg : decode cc pc = .ok (.ireturn, 1)) : W p l e R s m args below meth c H locs cells slots (vx_MQ below (kqx D w0 T w1 (.returned (some (.int v')))) XC args s mc ms (kA w0)) (F0 m pc ls [.int v]) :=
  vx_ret (W.widen hm.1 hm.2 (W.iret hexec hb hr (fun t ht _ => ⟨hT, by rw [E], by rw [ht]; exact hP, hD, hS.F ht⟩) hS.2.2 hdg hlocks))
theorem kX_vret (hexec : p.tables.exec = Jvm.exec) (hb : c.code = cc) (hr : meth.sig.returnType = none) (hlocks : meth.locks = false) (hT : T = 0) (hP : va_P D vwCl w1 H) (hD : va_D (kA w0) w1) (hS : va_S (kA w0) s.heap H locs) (hm : cells ≤ mc ∧ slots ≤ ms) {pc : Nat} {ls : Array Slot} (hdg : decode cc pc = .ok (.return_, 1)) : W p l e R s m args below meth c H locs cells slots (vx_MQ below (kqx D w0 T w1 (.returned none)) XC args s mc ms (kA w0)) (F0 m pc ls []) :=
  vx_ret (W.widen hm.1 hm.2 (W.vret hexec hb hr (fun t ht _ => ⟨hT, rfl, by rw [ht]; exact hP, hD, hS.F ht⟩) hS.2.2 hdg hlocks))
end KXX
theorem lt_pred {n : Nat} (hn : n ≤ 1000) (v : Int32) : (nI n - nI 1 < v) ↔ nI n ≤ v := by
  have h1 : (nI n).toInt = n := nI_toInt (by omega)
  have h2 : (nI 1).toInt = 1 := by decide
  have h3 : (nI n - nI 1).toInt = (n : Int) - 1 := by rw [ti_sub (by omega) (by omega), h1, h2]
  rw [Int32.lt_iff_toInt_lt, Int32.le_iff_toInt_le, h1, h3]
  omega
theorem wthn0 {n : Nat} (hn : n ≤ 1000) (v : Int32) : wthn v (nI 0) (nI n - nI 1) = (!decide (v < 0) && !decide (nI n ≤ v)) := by
  unfold wthn
  rw [decide_eq_decide.mpr (lt_pred hn v)]
  rfl
