/-! from the start to the loop, the loop, the claim -/
/-! THE CLAIM OUT OF ONE WALK OF THE LAW'S BODY. Your part is whole_start (and what it stands on); all else here is the same for every law, but numbers. -/
def R_law : String := "HallSightsLaw"
def lw_P (b : Addr) (xs : List Int32) (args : Array Value) (s : State) : Prop := args = #[.ref b] ∧ s.IntsAt b xs ∧ xs.length ≤ 260 ∧ (Jvm.Cond.and given_1 narrow_1).before args s = true
def lw_Q (_ : Array Value) (s : State) (o : Outcome) (t : State) : Prop := o = .returned (some (.int 1)) ∧ Framed s o t [] 600130 7301080
def lw_Z (below : List Frame) (a : Array Value) (s : State) : State → Prop := fun t => ∃ o, t.status = .running ∧ Ended t below o ∧ lw_Q a s o t
/-- the law's own end, with 1 on the stack, nothing written that was there before, its room as the claim has it -/
theorem lw_ret {p : Program} {l : Launch} {e : Env} {s : State} {m : MethodId} {below : List Frame} {meth : Method} {c : Code} {b : Nat} (hx : p.tables.exec = Jvm.exec) (hb : c.code = code) (hr : meth.sig.returnType = ret) (hlocks : meth.locks = false) {pc : Nat} {H : Heap} {ls : Array Slot} (hdg : decode code pc = .ok (.ireturn, 1)) : W p l e room_1 s m #[Value.ref b] below meth c H [] 600130 7301080 (lw_Z below #[Value.ref b] s) (F0 m pc ls [.int 1]) := by
  intro T hT X
  obtain ⟨fs, hret, hrun, hended, hW, hframe⟩ := X.leave (v := some (.int 1)) (hlocks := hlocks) (fun h => by rw [hr] at h; cases h)
  have hmeth' : T.vm.method? m = some meth := X.method'
  refine ⟨T.setFrames fs, ?_, .returned (some (.int 1)), hrun, hended, rfl, ⟨_, rfl⟩, hW, hframe⟩
  jvm_step X.here [X.here.top, hx, hb, hdg, hmeth', hr, ret, narrow_b1]
  (try refine ⟨rfl, ?_⟩); (try refine ⟨rfl, ?_⟩)
  first | (intro acts; rw [hret _ acts rfl rfl rfl]) | rw [hret _ _ rfl rfl rfl]
  exact Steps.refl _
/-- what holds at the law's entry: the machine, the code, the tables' words (any of lw_tbl by 'hts w (by decide +kernel)'), the script of L ints xs at the cell b, what the Statement gives of the start (any of its parts by flat_of_before) -/
def lw_At (p : Program) (s : State) (m : MethodId) (meth : Method) (c : Code) (b L : Nat) (xs : Nat → Int32) : Prop :=
  p.tables.exec = Jvm.exec ∧ c.code = code ∧ meth.sig.returnType = ret ∧ c.maxLocals = 8 ∧ s.vm.findClass R_law = some m.cls ∧ (∀ w ∈ lw_tbl, w.before #[Value.ref b] s = true) ∧ va_X b L xs s s.heap ∧ b < s.heap.size ∧ meth.locks = false ∧ (Jvm.Cond.and given_1 narrow_1).before #[Value.ref b] s = true
theorem k_X4_initS : yX4_init.cls ≠ "java/lang/invoke/MethodHandle" ∧ yX4_init.cls ≠ "java/lang/invoke/VarHandle" ∧ (parseMethodDescriptor yX4_init.desc).map (fun d => d.parameters.length) = some 0 := by decide +kernel
theorem k_L_cellS : yL_cell.cls ≠ "java/lang/invoke/MethodHandle" ∧ yL_cell.cls ≠ "java/lang/invoke/VarHandle" ∧ (parseMethodDescriptor yL_cell.desc).map (fun d => d.parameters.length) = some 2 := by decide +kernel
theorem k_L_buildsS : yL_builds.cls ≠ "java/lang/invoke/MethodHandle" ∧ yL_builds.cls ≠ "java/lang/invoke/VarHandle" ∧ (parseMethodDescriptor yL_builds.desc).map (fun d => d.parameters.length) = some 6 := by decide +kernel
theorem k_L_sitsS : yL_sits.cls ≠ "java/lang/invoke/MethodHandle" ∧ yL_sits.cls ≠ "java/lang/invoke/VarHandle" ∧ (parseMethodDescriptor yL_sits.desc).map (fun d => d.parameters.length) = some 6 := by decide +kernel
theorem k_L_agreeS : yL_agree.cls ≠ "java/lang/invoke/MethodHandle" ∧ yL_agree.cls ≠ "java/lang/invoke/VarHandle" ∧ (parseMethodDescriptor yL_agree.desc).map (fun d => d.parameters.length) = some 4 := by decide +kernel
theorem st_K {s : State} {d0 d1 d2 d3 d4 : ClassId} {i0 i1 i2 i3 i4 : Nat → Nat} {cI cC cH : ClassId} (cL : ClassId) (k0 : u_Kn s RX0 TX0 10 d0 i0) (k1 : u_Kn s RX1 TX1 2 d1 i1) (k2 : u_Kn s RX2 TX2 5 d2 i2) (k3 : u_Kn s RX3 TX3 5 d3 i3) (k4 : u_Kn s RX4 TX4 5 d4 i4)
    (aI : ArrOfT s cI .int ∧ va_RA s cI .int) (aC : ArrOfT s cC .char ∧ va_RA s cC .char) (aH : ArrOfT s cH (.object RX0) ∧ va_RA s cH (.object RX0)) :
    va_K (fun k => ([d0, d1, d2, d3, d4] : List ClassId).getD k d0, fun k => ([i0, i1, i2, i3, i4] : List (Nat → Nat)).getD k i0) vwCl (kT cI cC cH cL) s := by
  refine ⟨fun k q h => ?_, fun k q h => ?_⟩
  · rcases k with _ | _ | _ | _ | _ | k
    · cases (show some (RX0, TX0, 10) = some q from h); exact k0
    · cases (show some (RX1, TX1, 2) = some q from h); exact k1
    · cases (show some (RX2, TX2, 5) = some q from h); exact k2
    · cases (show some (RX3, TX3, 5) = some q from h); exact k3
    · cases (show some (RX4, TX4, 5) = some q from h); exact k4
    · cases (show (none : Option vw_C) = some q from h)
  · rcases k with _ | _ | _ | k
    · cases (show some (cI, FieldType.int) = some q from h); exact aI
    · cases (show some (cC, FieldType.char) = some q from h); exact aC
    · cases (show some (cH, FieldType.object RX0) = some q from h); exact aH
    · cases (show (none : Option (ClassId × FieldType)) = some q from h)
set_option maxHeartbeats 8000000 in
set_option maxRecDepth 100000 in
theorem law_loop {p : Program} {l : Launch} {e : Env} {s : State} {m : MethodId} {below : List Frame} {meth : Method} {c : Code} {D : va_G} {cI cC cH cL : ClassId} {sb L : Nat} {xs : Nat → Int32} {y : Nat → Nat} {x bb v u o h t : Nat → Nat} {na ra ca : Nat} (hx : p.tables.exec = Jvm.exec) (hb : c.code = cL_law) (hml : c.maxLocals = 8) (hown : s.vm.findClass RL = some m.cls) (hts : ∀ w ∈ wsL_law, w.before #[Value.ref sb] s = true) (hXs : va_X sb L xs s s.heap) (hbl : sb < s.heap.size) (hbA : ¬ (fun q : Nat => s.heap.size ≤ q) sb) (hK : va_K D vwCl (kT cI cC cH cL) s) (hZ : zZ y (fun q : Nat => s.heap.size ≤ q) s s.heap) (hL : L ≤ 260) (hr : meth.sig.returnType = ret) (hlocks : meth.locks = false)
    (H : Heap) (locs : List Loc) (ls : Array Slot) (hJ : LJ false D cI cC cH x bb v u o h t na ra ca (fun q : Nat => s.heap.size ≤ q) H) (hS : va_S (fun q : Nat => s.heap.size ≤ q) s.heap H locs) (hl : lv_has ls 8 [(5, .int (nI 0)), (4, .ref ca), (3, .ref ra), (2, .ref na), (1, .ref (x 0)), (0, .ref sb)]) : W p l e room_1 s m #[Value.ref sb] below meth c H locs 200 3000 (lw_Z below #[Value.ref sb] s) (F0 m 42 ls []) := by
  refine kx_upW (fun k H locs ls => (LJ false D cI cC cH x bb v u o h t na ra ca (fun q : Nat => s.heap.size ≤ q) H ∧ va_S (fun q : Nat => s.heap.size ≤ q) s.heap H locs) ∧ lv_has ls 8 [(5, .int (nI k)), (4, .ref ca), (3, .ref ra), (2, .ref na), (1, .ref (x 0)), (0, .ref sb)]) 0 50 (by omega) H locs ls ⟨⟨hJ, hS⟩, hl⟩ ?_
  clear hJ hS hl
  intro ik H locs ls hikl hikh hp ih42
  obtain ⟨⟨⟨z, lk, pe, cn, rk, z2, lk2, pe2, cn2, rk2, kb, nk, q, ts, tn, tl, tt, tb, nf, rf, cf, ⟨⟨hV, hL0, hn, h6, hN, hO, hC⟩, -⟩, hP, hD⟩, hS⟩, hl⟩ := hp
  have hw := hV.1
  have hR10 := wf_R10 hw
  have hP : va_P D vwCl ([(x 0, .inr (4, [.ref (v 0), .ref (bb 0), .ref (o 0), .ref (h 0), .ref (t 0)]))] ++ (HW bb cI z ++ (SW v (bb 0) cI (bI lk) pe cn rk ++ (HW u cI z2 ++ (SW o (u 0) cI (bI lk2) pe2 cn2 rk2 ++ (KWz h kb cI cH (nI nk) (fun i => some (kb i 0)) (q 0) (q 1) (q 2) (q 3) (q 4) (q 5) ++ (TW t cC cI ts (nI tl) tn (nI tt) (bI tb) ++ ([(na, .inl (cI, 6, .inl nf))] ++ ([(ra, .inl (cI, 28, .inl rf))] ++ ([(ca, .inl (cI, 15, .inl cf))])))))))))) H := hP
  have hD : va_D (fun q : Nat => s.heap.size ≤ q) ([(x 0, .inr (4, [.ref (v 0), .ref (bb 0), .ref (o 0), .ref (h 0), .ref (t 0)]))] ++ (HW bb cI z ++ (SW v (bb 0) cI (bI lk) pe cn rk ++ (HW u cI z2 ++ (SW o (u 0) cI (bI lk2) pe2 cn2 rk2 ++ (KWz h kb cI cH (nI nk) (fun i => some (kb i 0)) (q 0) (q 1) (q 2) (q 3) (q 4) (q 5) ++ (TW t cC cI ts (nI tl) tn (nI tt) (bI tb) ++ ([(na, .inl (cI, 6, .inl nf))] ++ ([(ra, .inl (cI, 28, .inl rf))] ++ ([(ca, .inl (cI, 15, .inl cf))])))))))))) := hD
  refine lv_iload hx hb dL_law_42 (lv_at hl 0 rfl) ?_
  refine lv_bipush (v := nI 50) hx hb dL_law_44 (by decide) ?_
  refine kx_icmp_ge (tgt := 143) hx hb (by omega) (by omega) dL_law_46 (by decide) (fun c_46_0 => ?_) (fun c_46_1 => ?_)
  · refine lv_iconst (v := 1) hx hb dL_law_143 (by decide) ?_
    refine va_forget (fun q hq => hS.2.2 q hq) ?_
    refine W.widen (k := 600130) (n := 7301080) (Nat.le_of_ble_eq_true rfl) (Nat.le_of_ble_eq_true rfl) ?_
    exact lw_ret hx hb hr hlocks dL_law_144
  · refine lv_aload_n hx hb dL_law_49 rfl (lv_at hl 5 rfl) ?_
    refine lv_iconst (v := nI 2) hx hb dL_law_50 (by decide) ?_
    refine lv_iload hx hb dL_law_51 (lv_at hl 0 rfl) ?_
    refine kx_imul hx hb dL_law_53 ?_
    refine kc_S (As := [.ref sb, .int (nI (2 * ik))]) (rest := []) (own := RL) ⟨hx, hb, hml, hown, hts⟩ (c_L_cell l sb L (2 * ik) xs hL (by omega)) (va_cwS 2 hts gL_law_L_cell rfl rfl rfl k_L_cellS ⟨Nat.le_of_ble_eq_true rfl, Nat.le_of_ble_eq_true rfl⟩) hXs hbl hbA hS rfl hl.1 rfl (Nat.le_of_ble_eq_true rfl) dL_law_54 ⟨Nat.le_of_ble_eq_true rfl, Nat.le_of_ble_eq_true rfl⟩ ?_
    refine lv_istore (lv' := [(6, .int (cellV L xs (2 * ik))), (5, .int (nI ik)), (4, .ref ca), (3, .ref ra), (2, .ref na), (1, .ref (x 0)), (0, .ref sb)]) hx hb dL_law_57 hl (by decide) rfl (fun ls hl => ?_)
    refine lv_aload_n hx hb dL_law_59 rfl (lv_at hl 6 rfl) ?_
    refine lv_iconst (v := nI 2) hx hb dL_law_60 (by decide) ?_
    refine lv_iload hx hb dL_law_61 (lv_at hl 1 rfl) ?_
    refine kx_imul hx hb dL_law_63 ?_
    refine lv_iconst (v := nI 1) hx hb dL_law_64 (by decide) ?_
    refine kx_iadd hx hb dL_law_65 ?_
    refine kc_S (As := [.ref sb, .int (nI ((2 * ik) + 1))]) (rest := []) (own := RL) ⟨hx, hb, hml, hown, hts⟩ (c_L_cell l sb L ((2 * ik) + 1) xs hL (by omega)) (va_cwS 2 hts gL_law_L_cell rfl rfl rfl k_L_cellS ⟨Nat.le_of_ble_eq_true rfl, Nat.le_of_ble_eq_true rfl⟩) hXs hbl hbA hS rfl hl.1 rfl (Nat.le_of_ble_eq_true rfl) dL_law_66 ⟨Nat.le_of_ble_eq_true rfl, Nat.le_of_ble_eq_true rfl⟩ ?_
    refine lv_istore (lv' := [(7, .int (cellV L xs ((2 * ik) + 1))), (6, .int (cellV L xs (2 * ik))), (5, .int (nI ik)), (4, .ref ca), (3, .ref ra), (2, .ref na), (1, .ref (x 0)), (0, .ref sb)]) hx hb dL_law_69 hl (by decide) rfl (fun ls hl => ?_)
    refine kx_joinW (Pj := True) (ws1 := [(x 0, .inr (4, [.ref (v 0), .ref (bb 0), .ref (o 0), .ref (h 0), .ref (t 0)]))] ++ (HW bb cI z ++ (SW v (bb 0) cI (bI lk) pe cn rk ++ (HW u cI z2 ++ (SW o (u 0) cI (bI lk2) pe2 cn2 rk2 ++ (KWz h kb cI cH (nI nk) (fun i => some (kb i 0)) (q 0) (q 1) (q 2) (q 3) (q 4) (q 5) ++ (TW t cC cI ts (nI tl) tn (nI tt) (bI tb) ++ ([(na, .inl (cI, 6, .inl nf))] ++ ([(ra, .inl (cI, 28, .inl rf))] ++ ([(ca, .inl (cI, 15, .inl cf))])))))))))) (D := D) (cl := vwCl) (A := fun q : Nat => s.heap.size ≤ q) (H0 := s.heap) (pj := 91) (fun hj91 H locs hP hD hS => ?_) (fun J91 => ?_)
    · refine lv_aload_n hx hb dL_law_91 rfl (lv_at hl 6 rfl) ?_
      refine lv_iload hx hb dL_law_92 (lv_at hl 1 rfl) ?_
      refine lv_iload hx hb dL_law_94 (lv_at hl 0 rfl) ?_
      refine lv_aload_n hx hb dL_law_96 rfl (lv_at hl 5 rfl) ?_
      refine lv_aload_n hx hb dL_law_97 rfl (lv_at hl 4 rfl) ?_
      refine lv_aload hx hb dL_law_98 (lv_at hl 3 rfl) ?_
      refine kL_S (As := [.ref (x 0), .int (cellV L xs (2 * ik)), .int (cellV L xs ((2 * ik) + 1)), .ref na, .ref ra, .ref ca]) (rest := []) (own := RL) ⟨hx, hb, hml, hown, hts⟩ (c_L_builds l D cI cC cH cL y x bb v u o h t na ra ca (fun q : Nat => s.heap.size ≤ q) (cellV L xs (2 * ik)) (cellV L xs ((2 * ik) + 1))) (va_cwS 6 hts gL_law_L_builds rfl rfl rfl k_L_buildsS ⟨Nat.le_of_ble_eq_true rfl, Nat.le_of_ble_eq_true rfl⟩) hK hZ ⟨z, lk, pe, cn, rk, z2, lk2, pe2, cn2, rk2, kb, nk, q, ts, tn, tl, tt, tb, nf, rf, cf, ⟨⟨hV, hL0, hn, h6, hN, hO, hC⟩, fun h9 => (by cases h9)⟩, hP, hD⟩ hS rfl hl.1 rfl (Nat.le_of_ble_eq_true rfl) dL_law_100 ⟨Nat.le_of_ble_eq_true rfl, Nat.le_of_ble_eq_true rfl⟩ (fun H locs hJ hS => ?_)
      obtain ⟨z, lk, pe, cn, rk, z2, lk2, pe2, cn2, rk2, kb, nk, q, ts, tn, tl, tt, tb, nf, rf, cf, ⟨⟨hV, hL0, hn, h6, hN, hO, hC⟩, -⟩, hP, hD⟩ := hJ
      have hP : va_P D vwCl ([(x 0, .inr (4, [.ref (v 0), .ref (bb 0), .ref (o 0), .ref (h 0), .ref (t 0)]))] ++ (HW bb cI z ++ (SW v (bb 0) cI (bI lk) pe cn rk ++ (HW u cI z2 ++ (SW o (u 0) cI (bI lk2) pe2 cn2 rk2 ++ (KWz h kb cI cH (nI nk) (fun i => some (kb i 0)) (q 0) (q 1) (q 2) (q 3) (q 4) (q 5) ++ (TW t cC cI ts (nI tl) tn (nI tt) (bI tb) ++ ([(na, .inl (cI, 6, .inl nf))] ++ ([(ra, .inl (cI, 28, .inl rf))] ++ ([(ca, .inl (cI, 15, .inl cf))])))))))))) H := hP
      have hD : va_D (fun q : Nat => s.heap.size ≤ q) ([(x 0, .inr (4, [.ref (v 0), .ref (bb 0), .ref (o 0), .ref (h 0), .ref (t 0)]))] ++ (HW bb cI z ++ (SW v (bb 0) cI (bI lk) pe cn rk ++ (HW u cI z2 ++ (SW o (u 0) cI (bI lk2) pe2 cn2 rk2 ++ (KWz h kb cI cH (nI nk) (fun i => some (kb i 0)) (q 0) (q 1) (q 2) (q 3) (q 4) (q 5) ++ (TW t cC cI ts (nI tl) tn (nI tt) (bI tb) ++ ([(na, .inl (cI, 6, .inl nf))] ++ ([(ra, .inl (cI, 28, .inl rf))] ++ ([(ca, .inl (cI, 15, .inl cf))])))))))))) := hD
      have hw := hV.1
      have hR10 := wf_R10 hw
      refine kx_if_eq (tgt := 135) hx hb (by omega) dL_law_103 (by decide) (fun c => absurd c (by omega)) (fun c_103_2 => ?_)
      refine lv_goto (tgt := 124) hx hb dL_law_106 (by decide) ?_
      refine lv_aload_n hx hb dL_law_124 rfl (lv_at hl 6 rfl) ?_
      refine lv_aload_n hx hb dL_law_125 rfl (lv_at hl 5 rfl) ?_
      refine lv_aload_n hx hb dL_law_126 rfl (lv_at hl 4 rfl) ?_
      refine lv_aload hx hb dL_law_127 (lv_at hl 3 rfl) ?_
      refine kL_S (As := [.ref (x 0), .ref na, .ref ra, .ref ca]) (rest := []) (own := RL) ⟨hx, hb, hml, hown, hts⟩ (c_L_agree l D cI cC cH cL y x bb v u o h t na ra ca (fun q : Nat => s.heap.size ≤ q) ) (va_cwS 4 hts gL_law_L_agree rfl rfl rfl k_L_agreeS ⟨Nat.le_of_ble_eq_true rfl, Nat.le_of_ble_eq_true rfl⟩) hK hZ ⟨z, lk, pe, cn, rk, z2, lk2, pe2, cn2, rk2, kb, nk, q, ts, tn, tl, tt, tb, nf, rf, cf, ⟨⟨hV, hL0, hn, h6, hN, hO, hC⟩, fun h9 => (by cases h9)⟩, hP, hD⟩ hS rfl hl.1 rfl (Nat.le_of_ble_eq_true rfl) dL_law_129 ⟨Nat.le_of_ble_eq_true rfl, Nat.le_of_ble_eq_true rfl⟩ (fun H locs hJ hS => ?_)
      obtain ⟨z, lk, pe, cn, rk, z2, lk2, pe2, cn2, rk2, kb, nk, q, ts, tn, tl, tt, tb, nf, rf, cf, ⟨⟨hV, hL0, hn, h6, hN, hO, hC⟩, -⟩, hP, hD⟩ := hJ
      have hP : va_P D vwCl ([(x 0, .inr (4, [.ref (v 0), .ref (bb 0), .ref (o 0), .ref (h 0), .ref (t 0)]))] ++ (HW bb cI z ++ (SW v (bb 0) cI (bI lk) pe cn rk ++ (HW u cI z2 ++ (SW o (u 0) cI (bI lk2) pe2 cn2 rk2 ++ (KWz h kb cI cH (nI nk) (fun i => some (kb i 0)) (q 0) (q 1) (q 2) (q 3) (q 4) (q 5) ++ (TW t cC cI ts (nI tl) tn (nI tt) (bI tb) ++ ([(na, .inl (cI, 6, .inl nf))] ++ ([(ra, .inl (cI, 28, .inl rf))] ++ ([(ca, .inl (cI, 15, .inl cf))])))))))))) H := hP
      have hD : va_D (fun q : Nat => s.heap.size ≤ q) ([(x 0, .inr (4, [.ref (v 0), .ref (bb 0), .ref (o 0), .ref (h 0), .ref (t 0)]))] ++ (HW bb cI z ++ (SW v (bb 0) cI (bI lk) pe cn rk ++ (HW u cI z2 ++ (SW o (u 0) cI (bI lk2) pe2 cn2 rk2 ++ (KWz h kb cI cH (nI nk) (fun i => some (kb i 0)) (q 0) (q 1) (q 2) (q 3) (q 4) (q 5) ++ (TW t cC cI ts (nI tl) tn (nI tt) (bI tb) ++ ([(na, .inl (cI, 6, .inl nf))] ++ ([(ra, .inl (cI, 28, .inl rf))] ++ ([(ca, .inl (cI, 15, .inl cf))])))))))))) := hD
      have hw := hV.1
      have hR10 := wf_R10 hw
      refine kx_if_ne (tgt := 137) hx hb (by omega) dL_law_132 (by decide) (fun c_132_3 => ?_) (fun c => absurd c (by omega))
      refine lv_iinc (v := nI (ik + 1)) (lv' := [(5, .int (nI (ik + 1))), (7, .int (cellV L xs ((2 * ik) + 1))), (6, .int (cellV L xs (2 * ik))), (4, .ref ca), (3, .ref ra), (2, .ref na), (1, .ref (x 0)), (0, .ref sb)]) hx hb dL_law_137 hl (k := 2) rfl (kx_inc 1) (by decide) rfl (fun ls hl => ?_)
      refine lv_goto (tgt := 42) hx hb dL_law_140 (by decide) ?_
      exact ih42 _ _ _ (by omega) ⟨⟨⟨z, lk, pe, cn, rk, z2, lk2, pe2, cn2, rk2, kb, nk, q, ts, tn, tl, tt, tb, nf, rf, cf, ⟨⟨hV, hL0, hn, h6, hN, hO, hC⟩, fun h9 => (by cases h9)⟩, hP, hD⟩, hS⟩, (lv_sub hl [0, 3, 4, 5, 6, 7] rfl)⟩
    · refine lv_aload_n hx hb dL_law_71 rfl (lv_at hl 5 rfl) ?_
      refine kx_joinW (Pj := 0 < nR z) (ws1 := [(x 0, .inr (4, [.ref (v 0), .ref (bb 0), .ref (o 0), .ref (h 0), .ref (t 0)]))] ++ (HW bb cI z ++ (SW v (bb 0) cI (bI lk) pe cn rk ++ (HW u cI z2 ++ (SW o (u 0) cI (bI lk2) pe2 cn2 rk2 ++ (KWz h kb cI cH (nI nk) (fun i => some (kb i 0)) (q 0) (q 1) (q 2) (q 3) (q 4) (q 5) ++ (TW t cC cI ts (nI tl) tn (nI tt) (bI tb) ++ ([(na, .inl (cI, 6, .inl nf))] ++ ([(ra, .inl (cI, 28, .inl rf))] ++ ([(ca, .inl (cI, 15, .inl cf))])))))))))) (D := D) (cl := vwCl) (A := fun q : Nat => s.heap.size ≤ q) (H0 := s.heap) (pj := 109) (fun hj109 H locs hP hD hS => ?_) (fun J109 => ?_)
      · have hp1 : 0 < nR z := hj109
        refine lv_aload_n hx hb dL_law_109 rfl (lv_at hl 6 rfl) ?_
        refine lv_iload hx hb dL_law_110 (lv_at hl 1 rfl) ?_
        refine lv_iload hx hb dL_law_112 (lv_at hl 0 rfl) ?_
        refine lv_aload_n hx hb dL_law_114 rfl (lv_at hl 5 rfl) ?_
        refine lv_aload_n hx hb dL_law_115 rfl (lv_at hl 4 rfl) ?_
        refine lv_aload hx hb dL_law_116 (lv_at hl 3 rfl) ?_
        refine kL_S (As := [.ref (x 0), .int (cellV L xs (2 * ik)), .int (cellV L xs ((2 * ik) + 1)), .ref na, .ref ra, .ref ca]) (rest := []) (own := RL) ⟨hx, hb, hml, hown, hts⟩ (c_L_sits l D cI cC cH cL y x bb v u o h t na ra ca (fun q : Nat => s.heap.size ≤ q) (cellV L xs (2 * ik)) (cellV L xs ((2 * ik) + 1))) (va_cwS 6 hts gL_law_L_sits rfl rfl rfl k_L_sitsS ⟨Nat.le_of_ble_eq_true rfl, Nat.le_of_ble_eq_true rfl⟩) hK hZ ⟨z, lk, pe, cn, rk, z2, lk2, pe2, cn2, rk2, kb, nk, q, ts, tn, tl, tt, tb, nf, rf, cf, ⟨⟨hV, hL0, hn, h6, hN, hO, hC⟩, fun _ => hp1⟩, hP, hD⟩ hS rfl hl.1 rfl (Nat.le_of_ble_eq_true rfl) dL_law_118 ⟨Nat.le_of_ble_eq_true rfl, Nat.le_of_ble_eq_true rfl⟩ (fun H locs hJ hS => ?_)
        obtain ⟨z, lk, pe, cn, rk, z2, lk2, pe2, cn2, rk2, kb, nk, q, ts, tn, tl, tt, tb, nf, rf, cf, ⟨⟨hV, hL0, hn, h6, hN, hO, hC⟩, -⟩, hP, hD⟩ := hJ
        have hP : va_P D vwCl ([(x 0, .inr (4, [.ref (v 0), .ref (bb 0), .ref (o 0), .ref (h 0), .ref (t 0)]))] ++ (HW bb cI z ++ (SW v (bb 0) cI (bI lk) pe cn rk ++ (HW u cI z2 ++ (SW o (u 0) cI (bI lk2) pe2 cn2 rk2 ++ (KWz h kb cI cH (nI nk) (fun i => some (kb i 0)) (q 0) (q 1) (q 2) (q 3) (q 4) (q 5) ++ (TW t cC cI ts (nI tl) tn (nI tt) (bI tb) ++ ([(na, .inl (cI, 6, .inl nf))] ++ ([(ra, .inl (cI, 28, .inl rf))] ++ ([(ca, .inl (cI, 15, .inl cf))])))))))))) H := hP
        have hD : va_D (fun q : Nat => s.heap.size ≤ q) ([(x 0, .inr (4, [.ref (v 0), .ref (bb 0), .ref (o 0), .ref (h 0), .ref (t 0)]))] ++ (HW bb cI z ++ (SW v (bb 0) cI (bI lk) pe cn rk ++ (HW u cI z2 ++ (SW o (u 0) cI (bI lk2) pe2 cn2 rk2 ++ (KWz h kb cI cH (nI nk) (fun i => some (kb i 0)) (q 0) (q 1) (q 2) (q 3) (q 4) (q 5) ++ (TW t cC cI ts (nI tl) tn (nI tt) (bI tb) ++ ([(na, .inl (cI, 6, .inl nf))] ++ ([(ra, .inl (cI, 28, .inl rf))] ++ ([(ca, .inl (cI, 15, .inl cf))])))))))))) := hD
        have hw := hV.1
        have hR10 := wf_R10 hw
        refine kx_if_eq (tgt := 135) hx hb (by omega) dL_law_121 (by decide) (fun c => absurd c (by omega)) (fun c_121_4 => ?_)
        refine lv_aload_n hx hb dL_law_124 rfl (lv_at hl 6 rfl) ?_
        refine lv_aload_n hx hb dL_law_125 rfl (lv_at hl 5 rfl) ?_
        refine lv_aload_n hx hb dL_law_126 rfl (lv_at hl 4 rfl) ?_
        refine lv_aload hx hb dL_law_127 (lv_at hl 3 rfl) ?_
        refine kL_S (As := [.ref (x 0), .ref na, .ref ra, .ref ca]) (rest := []) (own := RL) ⟨hx, hb, hml, hown, hts⟩ (c_L_agree l D cI cC cH cL y x bb v u o h t na ra ca (fun q : Nat => s.heap.size ≤ q) ) (va_cwS 4 hts gL_law_L_agree rfl rfl rfl k_L_agreeS ⟨Nat.le_of_ble_eq_true rfl, Nat.le_of_ble_eq_true rfl⟩) hK hZ ⟨z, lk, pe, cn, rk, z2, lk2, pe2, cn2, rk2, kb, nk, q, ts, tn, tl, tt, tb, nf, rf, cf, ⟨⟨hV, hL0, hn, h6, hN, hO, hC⟩, fun h9 => (by cases h9)⟩, hP, hD⟩ hS rfl hl.1 rfl (Nat.le_of_ble_eq_true rfl) dL_law_129 ⟨Nat.le_of_ble_eq_true rfl, Nat.le_of_ble_eq_true rfl⟩ (fun H locs hJ hS => ?_)
        obtain ⟨z, lk, pe, cn, rk, z2, lk2, pe2, cn2, rk2, kb, nk, q, ts, tn, tl, tt, tb, nf, rf, cf, ⟨⟨hV, hL0, hn, h6, hN, hO, hC⟩, -⟩, hP, hD⟩ := hJ
        have hP : va_P D vwCl ([(x 0, .inr (4, [.ref (v 0), .ref (bb 0), .ref (o 0), .ref (h 0), .ref (t 0)]))] ++ (HW bb cI z ++ (SW v (bb 0) cI (bI lk) pe cn rk ++ (HW u cI z2 ++ (SW o (u 0) cI (bI lk2) pe2 cn2 rk2 ++ (KWz h kb cI cH (nI nk) (fun i => some (kb i 0)) (q 0) (q 1) (q 2) (q 3) (q 4) (q 5) ++ (TW t cC cI ts (nI tl) tn (nI tt) (bI tb) ++ ([(na, .inl (cI, 6, .inl nf))] ++ ([(ra, .inl (cI, 28, .inl rf))] ++ ([(ca, .inl (cI, 15, .inl cf))])))))))))) H := hP
        have hD : va_D (fun q : Nat => s.heap.size ≤ q) ([(x 0, .inr (4, [.ref (v 0), .ref (bb 0), .ref (o 0), .ref (h 0), .ref (t 0)]))] ++ (HW bb cI z ++ (SW v (bb 0) cI (bI lk) pe cn rk ++ (HW u cI z2 ++ (SW o (u 0) cI (bI lk2) pe2 cn2 rk2 ++ (KWz h kb cI cH (nI nk) (fun i => some (kb i 0)) (q 0) (q 1) (q 2) (q 3) (q 4) (q 5) ++ (TW t cC cI ts (nI tl) tn (nI tt) (bI tb) ++ ([(na, .inl (cI, 6, .inl nf))] ++ ([(ra, .inl (cI, 28, .inl rf))] ++ ([(ca, .inl (cI, 15, .inl cf))])))))))))) := hD
        have hw := hV.1
        have hR10 := wf_R10 hw
        refine kx_if_ne (tgt := 137) hx hb (by omega) dL_law_132 (by decide) (fun c_132_5 => ?_) (fun c => absurd c (by omega))
        refine lv_iinc (v := nI (ik + 1)) (lv' := [(5, .int (nI (ik + 1))), (7, .int (cellV L xs ((2 * ik) + 1))), (6, .int (cellV L xs (2 * ik))), (4, .ref ca), (3, .ref ra), (2, .ref na), (1, .ref (x 0)), (0, .ref sb)]) hx hb dL_law_137 hl (k := 2) rfl (kx_inc 1) (by decide) rfl (fun ls hl => ?_)
        refine lv_goto (tgt := 42) hx hb dL_law_140 (by decide) ?_
        exact ih42 _ _ _ (by omega) ⟨⟨⟨z, lk, pe, cn, rk, z2, lk2, pe2, cn2, rk2, kb, nk, q, ts, tn, tl, tt, tb, nf, rf, cf, ⟨⟨hV, hL0, hn, h6, hN, hO, hC⟩, fun h9 => (by cases h9)⟩, hP, hD⟩, hS⟩, (lv_sub hl [0, 3, 4, 5, 6, 7] rfl)⟩
      · refine lv_iconst (v := nI 0) hx hb dL_law_72 (by decide) ?_
        refine kx_iald hx hb hK hP 86 0 rfl rfl (by omega) (by decide) dL_law_73 ?_
        refine kx_top (show (nf 0 : Int32) = nI (nR z) from hN.1) ?_
        refine kx_if_eq (tgt := 91) hx hb (by omega) dL_law_74 (by decide) (fun c_74_6 => ?_) (fun c_74_7 => ?_)
        · exact J91 (by first | trivial | omega | assumption) _ _ hP hD hS
        · refine lv_iload hx hb dL_law_77 (lv_at hl 1 rfl) ?_
          refine lv_bipush (v := nI 20) hx hb dL_law_79 (by decide) ?_
          refine lv_ishr hx hb dL_law_81 ?_
          refine lv_bipush (v := nI 10) hx hb dL_law_82 (by decide) ?_
          refine kr_S (As := [.int ((cellV L xs (2 * ik)) >>> ((nI 20) &&& 31)), .int (nI 10)]) (rest := []) (own := RL) ⟨hx, hb, hml, hown, hts⟩ (c_L_at l D cI cC cH cL  ((cellV L xs (2 * ik)) >>> ((nI 20) &&& 31)) 10 (by first | assumption | omega) (by first | assumption | omega)) (va_cwS 2 hts gL_law_L_at rfl rfl rfl k_L_atS ⟨Nat.le_of_ble_eq_true rfl, Nat.le_of_ble_eq_true rfl⟩) (hP.sub (ws' := []) [] rfl) hK rfl hl.1 rfl (Nat.le_of_ble_eq_true rfl) dL_law_84 ⟨Nat.le_of_ble_eq_true rfl, Nat.le_of_ble_eq_true rfl⟩ ?_
          refine lv_iconst (v := nI 4) hx hb dL_law_87 (by decide) ?_
          have hb3 := atN_lt ((cellV L xs (2 * ik)) >>> ((nI 20) &&& 31)) (n := 10) (by omega)
          refine kx_icmp_ge (tgt := 109) hx hb (by omega) (by omega) dL_law_88 (by decide) (fun c_88_8 => ?_) (fun c_88_9 => ?_)
          · exact J109 (by first | trivial | omega | assumption) _ _ hP hD hS
          · exact J91 (by first | trivial | omega | assumption) _ _ hP hD hS
set_option maxHeartbeats 4000000 in
set_option maxRecDepth 100000 in
theorem whole_start {p : Program} {e : Env} {s : State} {m : MethodId} {below : List Frame} {meth : Method} {c : Code} (l : Launch) (hflags : l.flags = flags0) {b L : Nat} {xs : Nat → Int32} (hL : L ≤ 260) (C0 : lw_At p s m meth c b L xs) : W p l e room_1 s m #[Value.ref b] below meth c s.heap [] 0 0 (lw_Z below #[Value.ref b] s) (entryFrame m ([Value.ref b] : List Value).toArray 8) := by
  obtain ⟨hx, hb, hr, hml, hown0, hts0, hXs, hbl, hlocks, hgv⟩ := C0
  have hown : s.vm.findClass RL = some m.cls := hown0
  have hs := flat_of_before _ hgv
  have hts : ∀ w ∈ wsL_law, w.before #[Value.ref b] s = true := fun w h => hts0 w (wsL_law_in w h)
  obtain ⟨d0, i0, k0⟩ := u_known (C := RX0) (T := TX0) (N := 10) (n := 10) hts inlX0 (hts0 _ (tbl_in (List.mem_of_getElem? (i := 30) (by decide +kernel))))
  obtain ⟨d1, i1, k1⟩ := u_known (C := RX1) (T := TX1) (N := 2) (n := 2) hts inlX1 (hts0 _ (tbl_in (List.mem_of_getElem? (i := 98) (by decide +kernel))))
  obtain ⟨d2, i2, k2⟩ := u_known (C := RX2) (T := TX2) (N := 5) (n := 5) hts inlX2 (hts0 _ (tbl_in (List.mem_of_getElem? (i := 115) (by decide +kernel))))
  obtain ⟨d3, i3, k3⟩ := u_known (C := RX3) (T := TX3) (N := 5) (n := 5) hts inlX3 (hts0 _ (tbl_in (List.mem_of_getElem? (i := 24) (by decide +kernel))))
  obtain ⟨d4, i4, k4⟩ := u_known (C := RX4) (T := TX4) (N := 5) (n := 5) hts inlX4 (hts0 _ (tbl_in (List.mem_of_getElem? (i := 16) (by decide +kernel))))
  obtain ⟨cI, aI⟩ := arr_K (ty := .int) (hts0 _ (tbl_in (List.mem_of_getElem? (i := 77) (by decide +kernel))))
  obtain ⟨cC, aC⟩ := arr_K (ty := .char) (hts0 _ (tbl_in (List.mem_of_getElem? (i := 133) (by decide +kernel))))
  obtain ⟨cH, aH⟩ := arr_KO (st_N hts0).1
  obtain ⟨cL, hcL⟩ : ∃ q : ClassId, q = cI := ⟨_, rfl⟩
  have hN : xN s := st_N hts0
  have hA : ∀ q : Nat, s.heap.size ≤ q → (fun q : Nat => s.heap.size ≤ q) q := fun q h => h
  obtain ⟨y, hZ⟩ := st_Z (A := fun q : Nat => s.heap.size ≤ q) hts0 hs (fun a h => by omega)
  have hK := st_K cL k0 k1 k2 k3 k4 aI aC aH
  generalize hDe : ((fun k => ([d0, d1, d2, d3, d4] : List ClassId).getD k d0, fun k => ([i0, i1, i2, i3, i4] : List (Nat → Nat)).getD k i0) : va_G) = D at hK
  have hS : va_S (fun q : Nat => s.heap.size ≤ q) s.heap s.heap [] := va_S.rf
  have hP : va_P D vwCl [] s.heap := fun k q h => by simp at h
  have hD : va_D (fun q : Nat => s.heap.size ≤ q) [] := ⟨fun i j p q h => by simp at h, fun k q h => by simp at h⟩
  have hl := lv_entry [.ref b] (n := 8) (Nat.le_of_ble_eq_true rfl)
  rw [lg_entry_eq]
  generalize (lg_sl [.ref b] ++ List.replicate (8 - (lg_sl [.ref b]).length) Slot.unset).toArray = ls at hl ⊢
  have hl : lv_has ls 8 [(0, .ref b)] := hl
  refine va_new (ci := 4) (fs := [.null, .null, .null, .null, .null]) (C := RX4) (T := TX4) (N := 5) hx hb hts inlX4 tyX4 tyX4_ok hown (hts0 _ (tbl_in (List.mem_of_getElem? (i := 15) (by decide +kernel)))) (hts0 _ (tbl_in (List.mem_of_getElem? (i := 16) (by decide +kernel)))) (hts0 _ (tbl_in (List.mem_of_getElem? (i := 1) (by decide +kernel)))) hK hP hD hS hA rfl (fun j hj => by rcases (show j = 0 ∨ j = 1 ∨ j = 2 ∨ j = 3 ∨ j = 4 by omega) with rfl | rfl | rfl | rfl | rfl <;> rfl) (Nat.le_of_ble_eq_true rfl) (Nat.le_of_ble_eq_true rfl) dL_law_0 (fun q0_1 H hP hD hS => ?_)
  have hP : va_P D vwCl ([(q0_1, .inr (4, [.null, .null, .null, .null, .null]))]) H := hP
  have hD : va_D (fun q : Nat => s.heap.size ≤ q) ([(q0_1, .inr (4, [.null, .null, .null, .null, .null]))]) := hD
  refine W.widen (k := 1) (n := 5) (Nat.le_of_ble_eq_true rfl) (Nat.le_of_ble_eq_true rfl) ?_
  refine lv_dup hx hb dL_law_3 rfl ?_
  refine kc_I (As := []) (rest := [.ref q0_1]) (own := RL) ⟨hx, hb, hml, hown, hts⟩ (c_X4_init l D cI cC cH cL _ q0_1) (cwI 0 hts ggL_law_X4_init rfl rfl rfl (hts0 _ (tbl_in (List.mem_of_getElem? (i := 1) (by decide +kernel)))) (hts0 _ (tbl_in (List.mem_of_getElem? (i := 17) (by decide +kernel)))) (hts0 _ (tbl_in (List.mem_of_getElem? (i := 18) (by decide +kernel)))) rfl k_X4_initS ⟨Nat.le_of_ble_eq_true rfl, Nat.le_of_ble_eq_true rfl⟩) hP hD hK hN hS hA [0] [] rfl rfl (wr := []) rfl (by decide) (by decide) (by decide) rfl hl.1 rfl (Nat.le_of_ble_eq_true rfl) dL_law_4 ⟨Nat.le_of_ble_eq_true rfl, Nat.le_of_ble_eq_true rfl⟩ (fun w1 H locs hB hP hD hS => ?_)
  obtain ⟨x, bb, v, u, o, h, t, kb, rfl, rfl⟩ := hB
  have hl : lv_has ls 8 [(0, .ref b)] := hl
  have hP : va_P D vwCl ([(x 0, .inr (4, [.ref (v 0), .ref (bb 0), .ref (o 0), .ref (h 0), .ref (t 0)]))] ++ (HW bb cI z00 ++ (SW v (bb 0) cI (nI 0) zz0 zz0 zz0 ++ (HW u cI z00 ++ (SW o (u 0) cI (nI 0) zz0 zz0 zz0 ++ (KW h kb cI cH 0 (fun _ => z00) ++ TW t cC cI zz0 (nI 0) zz0 (nI 0) (nI 0))))))) H := hP
  have hD : va_D (fun q : Nat => s.heap.size ≤ q) ([(x 0, .inr (4, [.ref (v 0), .ref (bb 0), .ref (o 0), .ref (h 0), .ref (t 0)]))] ++ (HW bb cI z00 ++ (SW v (bb 0) cI (nI 0) zz0 zz0 zz0 ++ (HW u cI z00 ++ (SW o (u 0) cI (nI 0) zz0 zz0 zz0 ++ (KW h kb cI cH 0 (fun _ => z00) ++ TW t cC cI zz0 (nI 0) zz0 (nI 0) (nI 0))))))) := hD
  refine W.widen (k := 86) (n := 1389) (Nat.le_of_ble_eq_true rfl) (Nat.le_of_ble_eq_true rfl) ?_
  refine lv_astore_n (lv' := [(1, .ref (x 0)), (0, .ref b)]) hx hb dL_law_7 rfl hl (by decide) rfl (fun ls hl => ?_)
  refine lv_bipush (v := nI 6) hx hb dL_law_8 (by decide) ?_
  refine kx_newa (atype := .int) (ty := .int) (a0 := (6, .inl zz0)) hx hb (hts0 _ (tbl_in (List.mem_of_getElem? (i := 77) (by decide +kernel)))) rfl hK hP hD hS hA 0 rfl (fun h => h) rfl (nI_pos (by decide)) (nI_clamp (by decide)) (Nat.le_of_ble_eq_true rfl) (Nat.le_of_ble_eq_true rfl) (Nat.le_of_ble_eq_true rfl) dL_law_10 (fun q10_3 H hP hD hS => ?_)
  have hP : va_P D vwCl ([(x 0, .inr (4, [.ref (v 0), .ref (bb 0), .ref (o 0), .ref (h 0), .ref (t 0)]))] ++ (HW bb cI z00 ++ (SW v (bb 0) cI (nI 0) zz0 zz0 zz0 ++ (HW u cI z00 ++ (SW o (u 0) cI (nI 0) zz0 zz0 zz0 ++ (KW h kb cI cH 0 (fun _ => z00) ++ TW t cC cI zz0 (nI 0) zz0 (nI 0) (nI 0)))))) ++ ([(q10_3, .inl (cI, 6, .inl zz0))])) H := hP
  have hD : va_D (fun q : Nat => s.heap.size ≤ q) ([(x 0, .inr (4, [.ref (v 0), .ref (bb 0), .ref (o 0), .ref (h 0), .ref (t 0)]))] ++ (HW bb cI z00 ++ (SW v (bb 0) cI (nI 0) zz0 zz0 zz0 ++ (HW u cI z00 ++ (SW o (u 0) cI (nI 0) zz0 zz0 zz0 ++ (KW h kb cI cH 0 (fun _ => z00) ++ TW t cC cI zz0 (nI 0) zz0 (nI 0) (nI 0)))))) ++ ([(q10_3, .inl (cI, 6, .inl zz0))])) := hD
  refine W.widen (k := 87) (n := 1395) (Nat.le_of_ble_eq_true rfl) (Nat.le_of_ble_eq_true rfl) ?_
  refine lv_astore_n (lv' := [(2, .ref q10_3), (1, .ref (x 0)), (0, .ref b)]) hx hb dL_law_12 rfl hl (by decide) rfl (fun ls hl => ?_)
  refine lv_bipush (v := nI 28) hx hb dL_law_13 (by decide) ?_
  refine kx_newa (atype := .int) (ty := .int) (a0 := (28, .inl zz0)) hx hb (hts0 _ (tbl_in (List.mem_of_getElem? (i := 77) (by decide +kernel)))) rfl hK hP hD hS hA 0 rfl (fun h => h) rfl (nI_pos (by decide)) (nI_clamp (by decide)) (Nat.le_of_ble_eq_true rfl) (Nat.le_of_ble_eq_true rfl) (Nat.le_of_ble_eq_true rfl) dL_law_15 (fun q15_4 H hP hD hS => ?_)
  have hP : va_P D vwCl ([(x 0, .inr (4, [.ref (v 0), .ref (bb 0), .ref (o 0), .ref (h 0), .ref (t 0)]))] ++ (HW bb cI z00 ++ (SW v (bb 0) cI (nI 0) zz0 zz0 zz0 ++ (HW u cI z00 ++ (SW o (u 0) cI (nI 0) zz0 zz0 zz0 ++ (KW h kb cI cH 0 (fun _ => z00) ++ TW t cC cI zz0 (nI 0) zz0 (nI 0) (nI 0)))))) ++ ([(q10_3, .inl (cI, 6, .inl zz0))] ++ ([(q15_4, .inl (cI, 28, .inl zz0))]))) H := hP
  have hD : va_D (fun q : Nat => s.heap.size ≤ q) ([(x 0, .inr (4, [.ref (v 0), .ref (bb 0), .ref (o 0), .ref (h 0), .ref (t 0)]))] ++ (HW bb cI z00 ++ (SW v (bb 0) cI (nI 0) zz0 zz0 zz0 ++ (HW u cI z00 ++ (SW o (u 0) cI (nI 0) zz0 zz0 zz0 ++ (KW h kb cI cH 0 (fun _ => z00) ++ TW t cC cI zz0 (nI 0) zz0 (nI 0) (nI 0)))))) ++ ([(q10_3, .inl (cI, 6, .inl zz0))] ++ ([(q15_4, .inl (cI, 28, .inl zz0))]))) := hD
  refine W.widen (k := 88) (n := 1423) (Nat.le_of_ble_eq_true rfl) (Nat.le_of_ble_eq_true rfl) ?_
  refine lv_astore_n (lv' := [(3, .ref q15_4), (2, .ref q10_3), (1, .ref (x 0)), (0, .ref b)]) hx hb dL_law_17 rfl hl (by decide) rfl (fun ls hl => ?_)
  refine lv_bipush (v := nI 15) hx hb dL_law_18 (by decide) ?_
  refine kx_newa (atype := .int) (ty := .int) (a0 := (15, .inl zz0)) hx hb (hts0 _ (tbl_in (List.mem_of_getElem? (i := 77) (by decide +kernel)))) rfl hK hP hD hS hA 0 rfl (fun h => h) rfl (nI_pos (by decide)) (nI_clamp (by decide)) (Nat.le_of_ble_eq_true rfl) (Nat.le_of_ble_eq_true rfl) (Nat.le_of_ble_eq_true rfl) dL_law_20 (fun q20_5 H hP hD hS => ?_)
  have hP : va_P D vwCl ([(x 0, .inr (4, [.ref (v 0), .ref (bb 0), .ref (o 0), .ref (h 0), .ref (t 0)]))] ++ (HW bb cI z00 ++ (SW v (bb 0) cI (nI 0) zz0 zz0 zz0 ++ (HW u cI z00 ++ (SW o (u 0) cI (nI 0) zz0 zz0 zz0 ++ (KW h kb cI cH 0 (fun _ => z00) ++ TW t cC cI zz0 (nI 0) zz0 (nI 0) (nI 0)))))) ++ ([(q10_3, .inl (cI, 6, .inl zz0))] ++ ([(q15_4, .inl (cI, 28, .inl zz0))] ++ ([(q20_5, .inl (cI, 15, .inl zz0))])))) H := hP
  have hD : va_D (fun q : Nat => s.heap.size ≤ q) ([(x 0, .inr (4, [.ref (v 0), .ref (bb 0), .ref (o 0), .ref (h 0), .ref (t 0)]))] ++ (HW bb cI z00 ++ (SW v (bb 0) cI (nI 0) zz0 zz0 zz0 ++ (HW u cI z00 ++ (SW o (u 0) cI (nI 0) zz0 zz0 zz0 ++ (KW h kb cI cH 0 (fun _ => z00) ++ TW t cC cI zz0 (nI 0) zz0 (nI 0) (nI 0)))))) ++ ([(q10_3, .inl (cI, 6, .inl zz0))] ++ ([(q15_4, .inl (cI, 28, .inl zz0))] ++ ([(q20_5, .inl (cI, 15, .inl zz0))])))) := hD
  refine W.widen (k := 89) (n := 1438) (Nat.le_of_ble_eq_true rfl) (Nat.le_of_ble_eq_true rfl) ?_
  refine lv_astore (lv' := [(4, .ref q20_5), (3, .ref q15_4), (2, .ref q10_3), (1, .ref (x 0)), (0, .ref b)]) hx hb dL_law_22 hl (by decide) rfl (fun ls hl => ?_)
  refine lv_aload_n hx hb dL_law_24 rfl (lv_at hl 2 rfl) ?_
  refine lv_iconst (v := nI 3) hx hb dL_law_25 (by decide) ?_
  refine lv_bipush (v := nI 100) hx hb dL_law_26 (by decide) ?_
  refine kx_iast hx hb hK hP hD hS 86 0 rfl rfl (by omega) (by decide) dL_law_28 (fun H locs hP hD hS => ?_)
  have hP : va_P D vwCl ([(x 0, .inr (4, [.ref (v 0), .ref (bb 0), .ref (o 0), .ref (h 0), .ref (t 0)]))] ++ (HW bb cI z00 ++ (SW v (bb 0) cI (nI 0) zz0 zz0 zz0 ++ (HW u cI z00 ++ (SW o (u 0) cI (nI 0) zz0 zz0 zz0 ++ (KW h kb cI cH 0 (fun _ => z00) ++ TW t cC cI zz0 (nI 0) zz0 (nI 0) (nI 0)))))) ++ ([(q10_3, .inl (cI, 6, .inl (upd zz0 3 (nI 100))))] ++ ([(q15_4, .inl (cI, 28, .inl zz0))] ++ ([(q20_5, .inl (cI, 15, .inl zz0))])))) H := hP
  have hD : va_D (fun q : Nat => s.heap.size ≤ q) ([(x 0, .inr (4, [.ref (v 0), .ref (bb 0), .ref (o 0), .ref (h 0), .ref (t 0)]))] ++ (HW bb cI z00 ++ (SW v (bb 0) cI (nI 0) zz0 zz0 zz0 ++ (HW u cI z00 ++ (SW o (u 0) cI (nI 0) zz0 zz0 zz0 ++ (KW h kb cI cH 0 (fun _ => z00) ++ TW t cC cI zz0 (nI 0) zz0 (nI 0) (nI 0)))))) ++ ([(q10_3, .inl (cI, 6, .inl (upd zz0 3 (nI 100))))] ++ ([(q15_4, .inl (cI, 28, .inl zz0))] ++ ([(q20_5, .inl (cI, 15, .inl zz0))])))) := hD
  refine lv_aload_n hx hb dL_law_29 rfl (lv_at hl 2 rfl) ?_
  refine lv_iconst (v := nI 4) hx hb dL_law_30 (by decide) ?_
  refine lv_bipush (v := nI 120) hx hb dL_law_31 (by decide) ?_
  refine kx_iast hx hb hK hP hD hS 86 0 rfl rfl (by omega) (by decide) dL_law_33 (fun H locs hP hD hS => ?_)
  have hP : va_P D vwCl ([(x 0, .inr (4, [.ref (v 0), .ref (bb 0), .ref (o 0), .ref (h 0), .ref (t 0)]))] ++ (HW bb cI z00 ++ (SW v (bb 0) cI (nI 0) zz0 zz0 zz0 ++ (HW u cI z00 ++ (SW o (u 0) cI (nI 0) zz0 zz0 zz0 ++ (KW h kb cI cH 0 (fun _ => z00) ++ TW t cC cI zz0 (nI 0) zz0 (nI 0) (nI 0)))))) ++ ([(q10_3, .inl (cI, 6, .inl (upd (upd zz0 3 (nI 100)) 4 (nI 120))))] ++ ([(q15_4, .inl (cI, 28, .inl zz0))] ++ ([(q20_5, .inl (cI, 15, .inl zz0))])))) H := hP
  have hD : va_D (fun q : Nat => s.heap.size ≤ q) ([(x 0, .inr (4, [.ref (v 0), .ref (bb 0), .ref (o 0), .ref (h 0), .ref (t 0)]))] ++ (HW bb cI z00 ++ (SW v (bb 0) cI (nI 0) zz0 zz0 zz0 ++ (HW u cI z00 ++ (SW o (u 0) cI (nI 0) zz0 zz0 zz0 ++ (KW h kb cI cH 0 (fun _ => z00) ++ TW t cC cI zz0 (nI 0) zz0 (nI 0) (nI 0)))))) ++ ([(q10_3, .inl (cI, 6, .inl (upd (upd zz0 3 (nI 100)) 4 (nI 120))))] ++ ([(q15_4, .inl (cI, 28, .inl zz0))] ++ ([(q20_5, .inl (cI, 15, .inl zz0))])))) := hD
  refine lv_aload_n hx hb dL_law_34 rfl (lv_at hl 2 rfl) ?_
  refine lv_iconst (v := nI 5) hx hb dL_law_35 (by decide) ?_
  refine lv_bipush (v := nI 12) hx hb dL_law_36 (by decide) ?_
  refine kx_iast hx hb hK hP hD hS 86 0 rfl rfl (by omega) (by decide) dL_law_38 (fun H locs hP hD hS => ?_)
  have hP : va_P D vwCl ([(x 0, .inr (4, [.ref (v 0), .ref (bb 0), .ref (o 0), .ref (h 0), .ref (t 0)]))] ++ (HW bb cI z00 ++ (SW v (bb 0) cI (nI 0) zz0 zz0 zz0 ++ (HW u cI z00 ++ (SW o (u 0) cI (nI 0) zz0 zz0 zz0 ++ (KW h kb cI cH 0 (fun _ => z00) ++ TW t cC cI zz0 (nI 0) zz0 (nI 0) (nI 0)))))) ++ ([(q10_3, .inl (cI, 6, .inl (upd (upd (upd zz0 3 (nI 100)) 4 (nI 120)) 5 (nI 12))))] ++ ([(q15_4, .inl (cI, 28, .inl zz0))] ++ ([(q20_5, .inl (cI, 15, .inl zz0))])))) H := hP
  have hD : va_D (fun q : Nat => s.heap.size ≤ q) ([(x 0, .inr (4, [.ref (v 0), .ref (bb 0), .ref (o 0), .ref (h 0), .ref (t 0)]))] ++ (HW bb cI z00 ++ (SW v (bb 0) cI (nI 0) zz0 zz0 zz0 ++ (HW u cI z00 ++ (SW o (u 0) cI (nI 0) zz0 zz0 zz0 ++ (KW h kb cI cH 0 (fun _ => z00) ++ TW t cC cI zz0 (nI 0) zz0 (nI 0) (nI 0)))))) ++ ([(q10_3, .inl (cI, 6, .inl (upd (upd (upd zz0 3 (nI 100)) 4 (nI 120)) 5 (nI 12))))] ++ ([(q15_4, .inl (cI, 28, .inl zz0))] ++ ([(q20_5, .inl (cI, 15, .inl zz0))])))) := hD
  refine lv_iconst (v := nI 0) hx hb dL_law_39 (by decide) ?_
  refine lv_istore (lv' := [(5, .int (nI 0)), (4, .ref q20_5), (3, .ref q15_4), (2, .ref q10_3), (1, .ref (x 0)), (0, .ref b)]) hx hb dL_law_40 hl (by decide) rfl (fun ls hl => ?_)
  have hP : va_P D vwCl (LW3 x bb v u o h t q10_3 q15_4 q20_5 cI cC cH z00 false zz0 zz0 zz0 z00 false zz0 zz0 zz0 kb 0 (fun _ => z00) zz0 zz0 0 0 false (upd (upd (upd zz0 3 (nI 100)) 4 (nI 120)) 5 (nI 12)) zz0 zz0) H := hP.sub (0 :: 1 :: 2 :: 3 :: 4 :: 5 :: 6 :: 7 :: 8 :: 9 :: 10 :: 11 :: 12 :: 13 :: 14 :: 15 :: 16 :: 17 :: 18 :: 19 :: 20 :: 21 :: 22 :: 23 :: 24 :: 25 :: 26 :: 27 :: 28 :: 29 :: 30 :: 31 :: 32 :: 33 :: 34 :: 35 :: 36 :: 37 :: 38 :: 39 :: 40 :: 41 :: 42 :: 43 :: 44 :: 45 :: 46 :: 47 :: 48 :: 49 :: 50 :: 51 :: 52 :: 53 :: 54 :: 55 :: 56 :: 57 :: 58 :: 59 :: 60 :: 61 :: 62 :: 63 :: 64 :: 65 :: 66 :: 67 :: 68 :: 69 :: 70 :: 71 :: 72 :: 73 :: 74 :: 75 :: 76 :: 77 :: 78 :: 79 :: 80 :: 81 :: 82 :: 83 :: 84 :: 85 :: 86 :: 87 :: 88 :: []) rfl
  have hD : va_D (fun q : Nat => s.heap.size ≤ q) (LW3 x bb v u o h t q10_3 q15_4 q20_5 cI cC cH z00 false zz0 zz0 zz0 z00 false zz0 zz0 zz0 kb 0 (fun _ => z00) zz0 zz0 0 0 false (upd (upd (upd zz0 3 (nI 100)) 4 (nI 120)) 5 (nI 12)) zz0 zz0) := hD.sub (0 :: 1 :: 2 :: 3 :: 4 :: 5 :: 6 :: 7 :: 8 :: 9 :: 10 :: 11 :: 12 :: 13 :: 14 :: 15 :: 16 :: 17 :: 18 :: 19 :: 20 :: 21 :: 22 :: 23 :: 24 :: 25 :: 26 :: 27 :: 28 :: 29 :: 30 :: 31 :: 32 :: 33 :: 34 :: 35 :: 36 :: 37 :: 38 :: 39 :: 40 :: 41 :: 42 :: 43 :: 44 :: 45 :: 46 :: 47 :: 48 :: 49 :: 50 :: 51 :: 52 :: 53 :: 54 :: 55 :: 56 :: 57 :: 58 :: 59 :: 60 :: 61 :: 62 :: 63 :: 64 :: 65 :: 66 :: 67 :: 68 :: 69 :: 70 :: 71 :: 72 :: 73 :: 74 :: 75 :: 76 :: 77 :: 78 :: 79 :: 80 :: 81 :: 82 :: 83 :: 84 :: 85 :: 86 :: 87 :: 88 :: []) (by decide) rfl
  refine W.widen (k := 200) (n := 3000) (Nat.le_of_ble_eq_true rfl) (Nat.le_of_ble_eq_true rfl) ?_
  exact law_loop hx hb hml hown hts hXs hbl (fun h => Nat.lt_irrefl _ (Nat.lt_of_lt_of_le hbl h)) hK hZ hL hr hlocks H _ _ ⟨z00, false, zz0, zz0, zz0, z00, false, zz0, zz0, zz0, kb, 0, (fun _ => z00), zz0, zz0, 0, 0, false, (upd (upd (upd zz0 3 (nI 100)) 4 (nI 120)) 5 (nI 12)), zz0, zz0, ⟨lv_zero, fun h9 => (by cases h9)⟩, hP, hD⟩ hS (lv_sub hl [0, 1, 2, 3, 4, 5] rfl)
set_option maxHeartbeats 4000000 in
theorem lw_walk (l : Launch) (hflags : l.flags = flags0) (b : Addr) (xs : List Int32) : MetFree l x (headSpec (Jvm.Cond.code x code maxLocals ret :: tables_1) room_1) (lw_P b xs) (fun _ _ _ _ _ => True) lw_Q := by
  refine MetFree.of_bodyS (code := code) (maxLocals := maxLocals) (ret := ret) (by decide) ?_ ?_
  · intro args s m h hn
    obtain ⟨meth, c, h1, h2, h3, h4, h5, h6, -, -⟩ := Cond.code_spec hn (atoms_spec (ws := Jvm.Cond.code x code maxLocals ret :: tables_1) h _ List.mem_cons_self)
    exact ⟨meth, c, h1, h2, h3, h4, h5, h6⟩
  · intro p e s m args below meth c s₁ B hml0 hP _
    obtain ⟨rfl, hx, hbd, hgv⟩ := hP
    obtain ⟨scr, harrAt, hlist, hof, hsmall⟩ := hx
    obtain ⟨hcb, hkn, -, -⟩ := State.arrayAt?_spec harrAt
    have hown : s.vm.findClass R_law = some m.cls := findClass_of_methodNamed B.named
    have hts0 : ∀ c ∈ (Jvm.Cond.code x code maxLocals ret :: tables_1), c.before #[Value.ref b] s = true := atoms_spec (ws := Jvm.Cond.code x code maxLocals ret :: tables_1) B.pre
    have hts : ∀ w ∈ lw_tbl, w.before #[Value.ref b] s = true := k2_hts_sels lw_privs (fun w hw => hts0 w (List.mem_cons_of_mem _ hw)) lw_privs_ok
    have hml : c.maxLocals = 8 := B.maxLocals_eq (hts0 _ List.mem_cons_self)
    have X₀ : Stand p l e room_1 s m #[Value.ref b] below meth c s₁ [] 0 0 := Stand.of_body B
    have hh0 : s₁.heap = s.heap := by rw [B.state]; rfl
    have hsz : scr.slots.size = xs.length := by rw [← Array.length_toList, hlist, List.length_map]
    have hval : ∀ j : Nat, j < xs.length → scr.slots[j]? = some (.int (xs.getD j 0)) := fun j hj => by
      rw [← Array.getElem?_toList, hlist]
      simp [hj]
    have hbl : b < s.heap.size := (Array.getElem?_eq_some_iff.mp hcb).1
    have hX : va_X b xs.length (fun j => xs.getD j 0) s s.heap := ⟨scr, hcb, hof, hkn, hsz, hval⟩
    have K : W p l e room_1 s m #[Value.ref b] below meth c s₁.heap [] 0 0 (lw_Z below #[Value.ref b] s) (entryFrame m ([Value.ref b] : List Value).toArray 8) := by
      rw [hh0]
      exact whole_start l hflags hbd ⟨B.exec, B.bytes, B.returns, hml, hown, hts, hX, hbl, B.notSynchronized, hgv⟩
    obtain ⟨t, a1, o, b1, b2, b3⟩ := K s₁ rfl X₀
    exact ⟨t, o, a1, b1, b2, b3⟩
theorem lw_pre_spec {args : Array Value} {s : State} (h : (Jvm.Cond.and given_1 narrow_1).before args s = true) (hr : rest_1_c.before args s = true) : ∃ (b : Addr) (xs : List Int32), lw_P b xs args s := by
  have hs := flat_of_before _ h
  have hq := flat_of_before _ hr
  have hc : (Cond.count 1).before args s = true := hs _ (by decide +kernel)
  have harr : (Cond.arrayOf (.arg 0) .int).before args s = true := hs _ (by decide +kernel)
  have hle : (Cond.le (.length (.arg 0)) (.int 260)).before args s = true := hs _ (by decide +kernel)
  have hlen : (Cond.isInt (.length (.arg 0))).before args s = true := hq _ (by decide +kernel)
  have hall : (Cond.all (.arg 0) (.isInt (.elem (.arg 0) (.index 0)))).before args s = true := hq _ (by decide +kernel)
  obtain ⟨b, xs, hb, hx⟩ := State.ints_of_pre rfl harr hlen hall
  have hsm : xs.length < 2 ^ 31 := hx.choose_spec.2.2.2
  have hev : (Term.length (.arg 0)).eval args s none [] s = some (.int xs.length.toInt32) := hx.length_eval hb
  have hv := Cond.le_ints hev (show (Term.int 260).eval args s none [] s = some (.int 260) from rfl)
  have hd : xs.length.toInt32 ≤ 260 := by
    simpa [Cond.before, Cond.holds, hv] using hle
  have hN : xs.length ≤ 260 := (Int32.ofNat_le_ofNat hsm (by decide)).mp (show Int32.ofNat xs.length ≤ Int32.ofNat 260 from hd)
  exact ⟨b, xs, Cond.one_arg hc (show args[0]? = some (.ref b) from hb), hx, hN, h⟩
theorem lw_comes (l : Launch) (hflags : l.flags = flags0) : Comes l x (Jvm.Cond.code x code maxLocals ret :: tables_1) room_1 (fun tb e args s => Calls_1 tb e args s ∧ rest_1 tb e args s ∧ Pre_1 tb e args s)
    (fun _ _ args s o t => lw_Q args s o t) := by
  intro p e ha hc hk s m args below hf hfit hheap happ hpre
  obtain ⟨b, xs, hP⟩ := lw_pre_spec hpre.2.2 hpre.2.1
  obtain ⟨k, o, h1, h2, h3, hQ⟩ := lw_walk l hflags b xs p e ha hc hk s m args below hf ((Spec.applies_iff_loose hf).mp happ).1 hP trivial
  exact ⟨k, o, h1, h2, h3, hQ⟩
theorem lw_frame {s t : State} {o : Outcome} {args : Array Value} (h : Framed s o t [] 600130 7301080) :
    Framed s o t (fieldLocs frame_1_writes args s ++ arrayLocs frame_1_arrays args s ++ staticLocs frame_1_statics s) 600130 7301080 := h
theorem lw_limb (L : Cond) (hL : ∀ (args : Array Value) (s t : State), L.after args s (.returned (some (.int 1))) t = true) :
    ArmFor flags0 classFile x code maxLocals ret World_1 tables_1 room_1 Calls_1 rest_1 Pre_1
      (fun tb e a s o t => postC L tb e a s o t ∧ Framed s o t (fieldLocs frame_1_writes a s ++ arrayLocs frame_1_arrays a s ++ staticLocs frame_1_statics s) 600130 7301080) := by
  intro l hflags _ _ p e ha hc hk s m args below hf hfit hheap happ hpre
  obtain ⟨k, o, h1, h2, h3, rfl, hF⟩ := lw_comes l hflags p e ha hc hk s m args below hf hfit hheap happ hpre
  exact ⟨k, _, h1, h2, h3, hL args s _, lw_frame hF⟩
theorem i_vc : Claimed_1_1 ∧ Claimed_1_2 := ⟨lw_limb limb_1_1 (fun args s t => by simp [limb_1_1, Cond.after, Cond.holds, Cond.value]), lw_limb limb_1_2 (fun args s t => Cond.after_iff.mpr (by
  first | (rw [show limb_1_2 = Cond.eq .result (.int 1) from rfl, Cond.eq_ints (x := 1) (y := 1) rfl rfl]; simp; done) | (simp [limb_1_2, Cond.value, Term.eval]; done)))⟩
