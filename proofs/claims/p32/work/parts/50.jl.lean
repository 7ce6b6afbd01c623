/-! how the law's methods are called, how they end -/
section JL
variable {p : Program} {l : Launch} {e : Env} {R : Room} {s : State} {m : MethodId} {args : Array Value} {below : List Frame} {meth : Method} {c : Code} {H H0 : Heap} {locs : List Loc} {cells slots : Nat} {Q : State → Prop}
variable {cc : ByteArray} {pc : Nat} {ls : Array Slot} {rest : List Value} {D : va_G} {cl : List vw_C} {ws : va_W} {tys : List (ClassId × FieldType)} {A : Nat → Prop}
variable {y : MethodName} {bytes : ByteArray} {maxL nL n index : Nat} {ret : Option FieldType} {wds : List Cond} {rm : Room} {Ts : List Cond} {own : String} {b : Addr} {As st0 : List Value} {tc : List (ClassId × FieldType)} {v : Option Value} {zy : Nat → Nat}
def lcI (x y : Int64) : Int32 := if x > y then 1 else if x == y then 0 else -1
theorem kx_lcmp (hexec : p.tables.exec = Jvm.exec) (hb : c.code = cc) {x y : Int64} (hdg : decode cc pc = .ok (.lcmp, 1))
    (k : W p l e R s m args below meth c H locs cells slots Q (F0 m (pc + 1) ls (.int (lcI x y) :: rest))) : W p l e R s m args below meth c H locs cells slots Q (F0 m pc ls (.long y :: .long x :: rest)) := by
  intro T hT X
  obtain ⟨t, a, b⟩ := k T hT X
  refine ⟨t, ?_, b⟩
  jvm_step X.here [X.here.top, hexec, hb, hdg]
  by_cases h1 : y < x
  · rw [if_pos h1]
    have h3 : lcI x y = 1 := by unfold lcI; exact if_pos h1
    rw [h3] at a; exact a
  · rw [if_neg h1]
    by_cases h2 : x = y
    · rw [if_pos h2]
      have h3 : lcI x y = 0 := by unfold lcI; rw [if_neg h1, if_pos (by simp [h2])]
      rw [h3] at a; exact a
    · rw [if_neg h2]
      have h3 : lcI x y = -1 := by unfold lcI; rw [if_neg h1, if_neg (by simp [h2])]
      rw [h3] at a; exact a
/-- a road that is reached from two places, with the world told -/
theorem kx_joinW {Pj : Prop} {ws1 : va_W} {pj : Nat} (h1 : Pj → ∀ (H1 : Heap) (locs1 : List Loc), va_P D cl ws1 H1 → va_D A ws1 → va_S A H0 H1 locs1 → W p l e R s m args below meth c H1 locs1 cells slots Q (F0 m pj ls []))
    (h2 : (Pj → ∀ (H1 : Heap) (locs1 : List Loc), va_P D cl ws1 H1 → va_D A ws1 → va_S A H0 H1 locs1 → W p l e R s m args below meth c H1 locs1 cells slots Q (F0 m pj ls [])) → W p l e R s m args below meth c H locs cells slots Q (F0 m pc ls st0)) : W p l e R s m args below meth c H locs cells slots Q (F0 m pc ls st0) := h2 h1
/-- the script's cell -/
def cellV (L : Nat) (xs : Nat → Int32) (k : Nat) : Int32 := if k < L then xs k else 1804289383 * nI (k + 521)
def kcX (av : List Value) (sb L : Nat) (xs : Nat → Int32) : Array Value → State → Prop := fun v U => v = av.toArray ∧ va_X sb L xs U U.heap ∧ sb < U.heap.size
theorem kcX_blind {av : List Value} {sb L : Nat} {xs : Nat → Int32} : FrameBlind (kcX av sb L xs) := fun a U g mk q => by
  obtain ⟨q0, q1, q2⟩ := q
  exact ⟨q0, va_X.moved (u := U) (U := U.calling g mk a) (Vm.Alike.refl U.vm) q1, q2⟩
theorem kc_S {sb L : Nat} {xs : Nat → Int32} (S : CallFix p m c cc nL s args Ts own) (hM : Met l y wds rm (kcX As sb L xs) (kr (.returned v)) 0 0 (fun _ => False)) (cw : CallB R s args own index y bytes maxL ret wds rm 0 0 n ∧ (Cond.static y).before args s = true) (hX : va_X sb L xs s s.heap) (hbl : sb < s.heap.size) (hbA : ¬ A sb) (hS : va_S A s.heap H locs)
    (hn : As.length = n) (hz : ls.size = nL) (hst : st0 = As.reverse ++ rest) (hW : (rest.map fun v => v.category).sum ≤ 8) (hdg : decode cc pc = .ok (.invokestatic index, 3)) (hf : cells + 0 ≤ R.cells ∧ slots + 0 ≤ R.slots) (kk : W p l e R s m args below meth c H locs cells slots Q (F0 m (pc + 3) ls (v.toList ++ rest))) : W p l e R s m args below meth c H locs cells slots Q (F0 m pc ls st0) := by
  have hrun := va_runS (H := H) (below := below) (meth := meth) (e := e) (locs := locs) (cells := cells) (slots := slots) (g := F0 m pc ls st0) (rest := rest) S hM cw ⟨kcX_blind, fun U hU hWm => ⟨rfl, by rw [hU]; exact va_X.moved hWm.alike (va_X.kept hX (hS.2.1 sb hbl hbA)), by rw [hU]; exact Nat.lt_of_lt_of_le hbl hS.1⟩⟩ rfl hn hz hst (lv_room hW) hdg hf
  intro T hT X
  obtain ⟨v', st₀, t, T', L, h0, X', hL, e1, -, ⟨hv, hh⟩, st⟩ := hrun T hT X
  cases hv
  obtain ⟨t2, a1, b1⟩ := kk T' (by rw [e1, hh, h0]) (Stand.forget X' (fun q h => (hL q h).elim))
  exact ⟨t2, st t2 a1, b1⟩
/-- a method of the law that acts on the whole: what it wants, what it leaves -/
def jP (y : Nat → Nat) (A : Nat → Prop) (av : List Value) (D : va_G) (tys : List (ClassId × FieldType)) (J : Heap → Prop) : Array Value → State → Prop := fun v U => v = av.toArray ∧ va_K D vwCl tys U ∧ zZ y A U U.heap ∧ J U.heap
def jQ (A : Nat → Prop) (J : Heap → Prop) : Array Value → State → Outcome → State → Prop := fun _ st oc t => oc = .returned (some (.int (nI 1))) ∧ J t.heap ∧ va_F A st t
theorem jP_blind {av : List Value} {J : Heap → Prop} : FrameBlind (jP zy A av D tys J) := fun a U g mk q => by
  obtain ⟨q0, qK, qZ, qJ⟩ := q
  exact ⟨q0, va_K.moved (u := U) (U := U.calling g mk a) (Vm.Alike.refl U.vm) qK, zZ.moved (u := U) (U := U.calling g mk a) (Vm.Alike.refl U.vm) qZ, qJ⟩
theorem kSA {H1 : Heap} {L : List Loc} (hS : va_S A H0 H locs) (hz : H.size ≤ H1.size) (hk : ∀ q : Nat, q < H.size → ¬ A q → H1[q]? = H[q]?) (hL : ∀ q ∈ L, A q.base) : va_S A H0 H1 (locs ++ L) := by
  refine ⟨Nat.le_trans hS.1 hz, fun q h1 h2 => ?_, fun x hx => ?_⟩
  · rw [hk q (Nat.lt_of_lt_of_le h1 hS.1) h2]
    exact hS.2.1 q h1 h2
  · rcases List.mem_append.mp hx with h | h
    · exact hS.2.2 x h
    · exact hL x h
theorem kL_S {J J1 : Heap → Prop} (S : CallFix p m c cc nL s args Ts own) (hM : Met l y wds rm (jP zy A As D tc J) (jQ A J1) 0 0 A) (cw : CallB R s args own index y bytes maxL ret wds rm 0 0 n ∧ (Cond.static y).before args s = true) (hK : va_K D vwCl tc s) (hZ : zZ zy A s s.heap) (hJ : J H) (hS : va_S A s.heap H locs)
    (hn : As.length = n) (hz : ls.size = nL) (hst : st0 = As.reverse ++ rest) (hW : (rest.map fun v => v.category).sum ≤ 8) (hdg : decode cc pc = .ok (.invokestatic index, 3)) (hf : cells + 0 ≤ R.cells ∧ slots + 0 ≤ R.slots) (kk : ∀ (H1 : Heap) (locs1 : List Loc), J1 H1 → va_S A s.heap H1 locs1 → W p l e R s m args below meth c H1 locs1 cells slots Q (F0 m (pc + 3) ls (.int (nI 1) :: rest))) : W p l e R s m args below meth c H locs cells slots Q (F0 m pc ls st0) := by
  have hrun := va_runS (H := H) (below := below) (meth := meth) (e := e) (locs := locs) (cells := cells) (slots := slots) (g := F0 m pc ls st0) (rest := rest) S hM cw ⟨jP_blind, fun U hU hWm => ⟨rfl, va_K.moved hWm.alike hK, by rw [hU]; exact (hZ.kept (fun a ha hn => hS.2.1 a ha hn)).moved hWm.alike, by rw [hU]; exact hJ⟩⟩ rfl hn hz hst (lv_room hW) hdg hf
  intro T hT X
  obtain ⟨v', st₀, t, T', L, h0, X', hL, e1, -, ⟨hv, hJ1, hF1, hF2⟩, st⟩ := hrun T hT X
  cases hv
  rw [h0] at hF1 hF2
  obtain ⟨t2, a1, b1⟩ := kk t.heap _ hJ1 (kSA hS hF1 hF2 hL) T' e1 X'
  exact ⟨t2, st t2 a1, b1⟩
theorem kL_zret {J : Heap → Prop} (hexec : p.tables.exec = Jvm.exec) (hb : c.code = cc) (hr : meth.sig.returnType = some .boolean) (hlocks : meth.locks = false) (hJ : J H) (hS : va_S A s.heap H locs) {pc : Nat} {ls : Array Slot} (hdg : decode cc pc = .ok (.ireturn, 1)) : W p l e R s m args below meth c H locs cells slots (MQ below (jQ A J) args s cells slots A) (F0 m pc ls [.int (nI 1)]) :=
  W.zret hexec hb hr rfl (fun t ht _ => ⟨rfl, by rw [ht]; exact hJ, hS.F ht⟩) hS.2.2 hdg hlocks
theorem kx_imul2 (hexec : p.tables.exec = Jvm.exec) (hb : c.code = cc) {x y v : Int32} (E : x * y = v) (hdg : decode cc pc = .ok (.imul, 1)) (k : W p l e R s m args below meth c H locs cells slots Q (F0 m (pc + 1) ls (.int v :: rest))) : W p l e R s m args below meth c H locs cells slots Q (F0 m pc ls (.int y :: .int x :: rest)) :=
  lv_imul hexec hb hdg (by rw [E]; exact k)
end JL
set_option maxHeartbeats 4000000 in
set_option maxRecDepth 100000 in
theorem c_L_cell (l : Launch) (sb L k : Nat) (xs : Nat → Int32) (hL : L ≤ 260) (hk : k < 1000) : Met l yL_cell wsL_cell ({ frames := 0, cells := 0, slots := 0, locals := 0 }) (kcX [.ref sb, .int (nI k)] sb L xs) (kr (.returned (some (.int (cellV L xs k))))) 0 0 (fun _ => False) := by
  refine Met.ofW (cc := cL_cell) (maxL := 2) (ret := (some .int)) (by decide) rfl ?_
  intro p e s m args below meth c s₁ B hml hv
  obtain ⟨rfl, hX, hbl⟩ := hv
  have hx := B.exec
  have hb := B.bytes
  have hrt := B.returns
  have hts := atoms_spec (ws := wsL_cell) B.pre
  have hown : s.vm.findClass RL = some m.cls := findClass_of_methodNamed B.named
  have hlocks := B.notSynchronized
  have hl := lv_entry ([.ref sb, .int (nI k)]) (n := 2) (Nat.le_of_ble_eq_true rfl)
  rw [lg_entry_eq]
  generalize (lg_sl ([.ref sb, .int (nI k)]) ++ List.replicate (2 - (lg_sl ([.ref sb, .int (nI k)])).length) Slot.unset).toArray = ls at hl ⊢
  have hl : lv_has ls 2 [(0, .ref sb), (1, .int (nI k))] := hl
  have hS : va_S (fun _ => False) s.heap s.heap [] := va_S.rf
  refine lv_iload_n hx hb dL_cell_0 rfl (lv_at hl 1 rfl) ?_
  refine lv_aload_n hx hb dL_cell_1 rfl (lv_at hl 0 rfl) ?_
  refine va_slen hx hb hX hbl (fun h => h) hS dL_cell_2 ?_
  refine kx_icmp_ge (tgt := 12) hx hb (by omega) (by omega) dL_cell_3 (by decide) (fun c1 => ?_) (fun c2 => ?_)
  · refine lv_ldc (v := 1804289383) hx hb hown (hts (.constant RL 7 1804289383) (List.mem_of_getElem? (i := 1) rfl)) dL_cell_12 ?_
    refine lv_iload_n hx hb dL_cell_14 rfl (lv_at hl 1 rfl) ?_
    refine lv_sipush (v := nI 521) hx hb dL_cell_15 (by decide) ?_
    refine kx_iadd hx hb dL_cell_18 ?_
    refine kx_imul2 hx hb (v := cellV L xs k) (by unfold cellV; rw [if_neg (by omega)]) dL_cell_19 ?_
    exact kr_iret hx hb hrt hlocks rfl rfl dL_cell_20
  · refine lv_aload_n hx hb dL_cell_6 rfl (lv_at hl 0 rfl) ?_
    refine lv_iload_n hx hb dL_cell_7 rfl (lv_at hl 1 rfl) ?_
    refine va_sld hx hb hX hbl (fun h => h) hS (vp_in_nI c2 (by omega)) dL_cell_8 ?_
    refine kx_top (show xs (nI k).toNatClampNeg = cellV L xs k from by rw [nI_clamp (by omega)]; unfold cellV; rw [if_pos c2]) ?_
    refine lv_goto (tgt := 20) hx hb dL_cell_9 (by decide) ?_
    exact kr_iret hx hb hrt hlocks rfl rfl dL_cell_20
