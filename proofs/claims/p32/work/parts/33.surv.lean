theorem k_X0_areFree : yX0_areFree.cls = RX0 ∧ yX0_areFree.cls ≠ "java/lang/invoke/MethodHandle" ∧ yX0_areFree.cls ≠ "java/lang/invoke/VarHandle" ∧ (parseMethodDescriptor yX0_areFree.desc).map (fun d => d.parameters.length) = some 3 := by decide +kernel
theorem k_X0_areFreeS : yX0_areFree.cls ≠ "java/lang/invoke/MethodHandle" ∧ yX0_areFree.cls ≠ "java/lang/invoke/VarHandle" ∧ (parseMethodDescriptor yX0_areFree.desc).map (fun d => d.parameters.length) = some 3 := k_X0_areFree.2
theorem k_X0_columnsInWay : yX0_columnsInWay.cls = RX0 ∧ yX0_columnsInWay.cls ≠ "java/lang/invoke/MethodHandle" ∧ yX0_columnsInWay.cls ≠ "java/lang/invoke/VarHandle" ∧ (parseMethodDescriptor yX0_columnsInWay.desc).map (fun d => d.parameters.length) = some 2 := by decide +kernel
theorem k_X0_columnsInWayS : yX0_columnsInWay.cls ≠ "java/lang/invoke/MethodHandle" ∧ yX0_columnsInWay.cls ≠ "java/lang/invoke/VarHandle" ∧ (parseMethodDescriptor yX0_columnsInWay.desc).map (fun d => d.parameters.length) = some 2 := k_X0_columnsInWay.2
theorem k_X0_peopleInWay : yX0_peopleInWay.cls = RX0 ∧ yX0_peopleInWay.cls ≠ "java/lang/invoke/MethodHandle" ∧ yX0_peopleInWay.cls ≠ "java/lang/invoke/VarHandle" ∧ (parseMethodDescriptor yX0_peopleInWay.desc).map (fun d => d.parameters.length) = some 2 := by decide +kernel
theorem k_X0_peopleInWayS : yX0_peopleInWay.cls ≠ "java/lang/invoke/MethodHandle" ∧ yX0_peopleInWay.cls ≠ "java/lang/invoke/VarHandle" ∧ (parseMethodDescriptor yX0_peopleInWay.desc).map (fun d => d.parameters.length) = some 2 := k_X0_peopleInWay.2
theorem k_X3_allInWay : yX3_allInWay.cls = RX3 ∧ yX3_allInWay.cls ≠ "java/lang/invoke/MethodHandle" ∧ yX3_allInWay.cls ≠ "java/lang/invoke/VarHandle" ∧ (parseMethodDescriptor yX3_allInWay.desc).map (fun d => d.parameters.length) = some 2 := by decide +kernel
theorem k_X3_allInWayS : yX3_allInWay.cls ≠ "java/lang/invoke/MethodHandle" ∧ yX3_allInWay.cls ≠ "java/lang/invoke/VarHandle" ∧ (parseMethodDescriptor yX3_allInWay.desc).map (fun d => d.parameters.length) = some 2 := k_X3_allInWay.2
theorem k_X3_allInWayOfParty : yX3_allInWayOfParty.cls = RX3 ∧ yX3_allInWayOfParty.cls ≠ "java/lang/invoke/MethodHandle" ∧ yX3_allInWayOfParty.cls ≠ "java/lang/invoke/VarHandle" ∧ (parseMethodDescriptor yX3_allInWayOfParty.desc).map (fun d => d.parameters.length) = some 3 := by decide +kernel
theorem k_X3_allInWayOfPartyS : yX3_allInWayOfParty.cls ≠ "java/lang/invoke/MethodHandle" ∧ yX3_allInWayOfParty.cls ≠ "java/lang/invoke/VarHandle" ∧ (parseMethodDescriptor yX3_allInWayOfParty.desc).map (fun d => d.parameters.length) = some 3 := k_X3_allInWayOfParty.2
theorem k_X3_cellOf : yX3_cellOf.cls = RX3 ∧ yX3_cellOf.cls ≠ "java/lang/invoke/MethodHandle" ∧ yX3_cellOf.cls ≠ "java/lang/invoke/VarHandle" ∧ (parseMethodDescriptor yX3_cellOf.desc).map (fun d => d.parameters.length) = some 2 := by decide +kernel
theorem k_X3_cellOfS : yX3_cellOf.cls ≠ "java/lang/invoke/MethodHandle" ∧ yX3_cellOf.cls ≠ "java/lang/invoke/VarHandle" ∧ (parseMethodDescriptor yX3_cellOf.desc).map (fun d => d.parameters.length) = some 2 := k_X3_cellOf.2
theorem k_X3_rankOf : yX3_rankOf.cls = RX3 ∧ yX3_rankOf.cls ≠ "java/lang/invoke/MethodHandle" ∧ yX3_rankOf.cls ≠ "java/lang/invoke/VarHandle" ∧ (parseMethodDescriptor yX3_rankOf.desc).map (fun d => d.parameters.length) = some 2 := by decide +kernel
theorem k_X3_rankOfS : yX3_rankOf.cls ≠ "java/lang/invoke/MethodHandle" ∧ yX3_rankOf.cls ≠ "java/lang/invoke/VarHandle" ∧ (parseMethodDescriptor yX3_rankOf.desc).map (fun d => d.parameters.length) = some 2 := k_X3_rankOf.2
theorem k_X3_seeingInRow : yX3_seeingInRow.cls = RX3 ∧ yX3_seeingInRow.cls ≠ "java/lang/invoke/MethodHandle" ∧ yX3_seeingInRow.cls ≠ "java/lang/invoke/VarHandle" ∧ (parseMethodDescriptor yX3_seeingInRow.desc).map (fun d => d.parameters.length) = some 1 := by decide +kernel
theorem k_X3_seeingInRowS : yX3_seeingInRow.cls ≠ "java/lang/invoke/MethodHandle" ∧ yX3_seeingInRow.cls ≠ "java/lang/invoke/VarHandle" ∧ (parseMethodDescriptor yX3_seeingInRow.desc).map (fun d => d.parameters.length) = some 1 := k_X3_seeingInRow.2
theorem k_X3_sees : yX3_sees.cls = RX3 ∧ yX3_sees.cls ≠ "java/lang/invoke/MethodHandle" ∧ yX3_sees.cls ≠ "java/lang/invoke/VarHandle" ∧ (parseMethodDescriptor yX3_sees.desc).map (fun d => d.parameters.length) = some 2 := by decide +kernel
theorem k_X3_seesS : yX3_sees.cls ≠ "java/lang/invoke/MethodHandle" ∧ yX3_sees.cls ≠ "java/lang/invoke/VarHandle" ∧ (parseMethodDescriptor yX3_sees.desc).map (fun d => d.parameters.length) = some 2 := k_X3_sees.2
set_option maxHeartbeats 4000000 in
set_option maxRecDepth 100000 in
theorem c_X3_cellOf (l : Launch) (D : va_G) (cI cC cH cL : ClassId)  (r0 : Nat) (s0 : Nat)  : Met l yX3_cellOf wsX3_cellOf ({ frames := 0, cells := 0, slots := 0, locals := 0 }) (kp [.int (nI r0), .int (nI s0)] D ([]) (kT cI cC cH cL)) (kr (.returned (some (.int (nI (r0 * 12 + s0)))))) 0 0 (fun _ => False) := by
  refine Met.ofW (cc := cX3_cellOf) (maxL := 2) (ret := (some .int)) (by decide) rfl ?_
  intro p e s m args below meth c s₁ B hml hv
  obtain ⟨rfl, hP, hK⟩ := hv
  have hx := B.exec
  have hb := B.bytes
  have hrt := B.returns
  have hts := atoms_spec (ws := wsX3_cellOf) B.pre
  have hown : s.vm.findClass RX3 = some m.cls := findClass_of_methodNamed B.named
  have hlocks := B.notSynchronized
  have hl := lv_entry ([.int (nI r0), .int (nI s0)]) (n := 2) (Nat.le_of_ble_eq_true rfl)
  rw [lg_entry_eq]
  generalize (lg_sl ([.int (nI r0), .int (nI s0)]) ++ List.replicate (2 - (lg_sl ([.int (nI r0), .int (nI s0)])).length) Slot.unset).toArray = ls at hl ⊢
  have hl : lv_has ls 2 [(0, .int (nI r0)), (1, .int (nI s0))] := hl
  refine lv_iload_n hx hb dX3_cellOf_0 rfl (lv_at hl 0 rfl) ?_
  refine lv_bipush (v := nI 12) hx hb dX3_cellOf_1 (by decide) ?_
  refine kx_imul hx hb dX3_cellOf_3 ?_
  refine lv_iload_n hx hb dX3_cellOf_4 rfl (lv_at hl 1 rfl) ?_
  refine kx_iadd hx hb dX3_cellOf_5 ?_
  have e_0 : ((r0 * 12) + s0 : Nat) = (r0 * 12 + s0) := by first | rfl | omega | (simp [Int32.not_lt, Int32.not_le]; done) | (simp [Int32.not_lt, Int32.not_le]; omega)
  exact kr_iret hx hb hrt hlocks (congrArg nI e_0) rfl dX3_cellOf_6
set_option maxRecDepth 20000 in
theorem iX3_allInWay_3 : ∀ w ∈ wsX30, w ∈ wsX3_allInWay := by decide +kernel
set_option maxHeartbeats 4000000 in
set_option maxRecDepth 100000 in
theorem c_X3_allInWay (l : Launch) (D : va_G) (cI cC cH cL : ClassId) (v : Nat → Nat) (b : Nat → Nat) (z : ZZ) (lk : Bool) (pe cn rk : ZZ) (r0 : Nat) (s0 : Nat) (hw : WF z) (hr : r0 < nR z) (hs : s0 < nS z r0) (hp : pe (r0 * 12 + s0) = nI (people z r0 s0)) (hc : cn (r0 * 12 + s0) = nI (colsW z r0 s0 (-1))) : Met l yX3_allInWay wsX3_allInWay ({ frames := 1, cells := 0, slots := 0, locals := 21 }) (kp [.ref (v 0), .int (nI r0), .int (nI s0)] D (HW b cI z ++ SW v (b 0) cI (bI lk) pe cn rk) (kT cI cC cH cL)) (kr (.returned (some (.int (nI (ways z r0 s0)))))) 0 0 (fun _ => False) := by
  refine Met.ofW (cc := cX3_allInWay) (maxL := 4) (ret := (some .int)) (by decide) rfl ?_
  intro p e s m args below meth c s₁ B hml hv
  obtain ⟨rfl, hP, hK⟩ := hv
  have hx := B.exec
  have hb := B.bytes
  have hrt := B.returns
  have hts := atoms_spec (ws := wsX3_allInWay) B.pre
  have hown : s.vm.findClass RX3 = some m.cls := findClass_of_methodNamed B.named
  have hlocks := B.notSynchronized
  have hl := lv_entry ([.ref (v 0), .int (nI r0), .int (nI s0)]) (n := 4) (Nat.le_of_ble_eq_true rfl)
  rw [lg_entry_eq]
  generalize (lg_sl ([.ref (v 0), .int (nI r0), .int (nI s0)]) ++ List.replicate (4 - (lg_sl ([.ref (v 0), .int (nI r0), .int (nI s0)])).length) Slot.unset).toArray = ls at hl ⊢
  have hl : lv_has ls 4 [(0, .ref (v 0)), (1, .int (nI r0)), (2, .int (nI s0))] := hl
  have hR10 := wf_R10 hw
  have hC4 := wf_C4 hw
  have hS0 := wf_S12 hw hr
  refine lv_iload_n hx hb dX3_allInWay_0 rfl (lv_at hl 1 rfl) ?_
  refine lv_iload_n hx hb dX3_allInWay_1 rfl (lv_at hl 2 rfl) ?_
  refine kr_S (As := [.int (nI r0), .int (nI s0)]) (rest := []) (own := RX3) ⟨hx, hb, hml, hown, hts⟩ (c_X3_cellOf l D cI cC cH cL  r0 s0 ) (va_cwS 2 hts gX3_allInWay_X3_cellOf rfl rfl rfl k_X3_cellOfS ⟨Nat.le_of_ble_eq_true rfl, Nat.le_of_ble_eq_true rfl⟩) (hP.sub (ws' := []) [] rfl) hK rfl hl.1 rfl (Nat.le_of_ble_eq_true rfl) dX3_allInWay_2 ⟨Nat.le_of_ble_eq_true rfl, Nat.le_of_ble_eq_true rfl⟩ ?_
  refine lv_istore_n (lv' := [(3, .int (nI (r0 * 12 + s0))), (0, .ref (v 0)), (1, .int (nI r0)), (2, .int (nI s0))]) hx hb dX3_allInWay_5 rfl hl (by decide) rfl (fun ls hl => ?_)
  refine lv_aload_n hx hb dX3_allInWay_6 rfl (lv_at hl 1 rfl) ?_
  refine va_get (D := D) (ci := 3) (v := .ref (v 1)) (C := RX3) (T := TX3) (N := 5) hx hb hts iX3_allInWay_3 hown hK hP 9 rfl rfl 2 (by decide) (hts (.fieldLink RX3 18 "HallSights$Survey" "people" "[I") (List.mem_of_getElem? (i := 1) rfl)) (fun _ h9 => h9) rfl dX3_allInWay_7 ?_
  refine lv_iload_n hx hb dX3_allInWay_10 rfl (lv_at hl 0 rfl) ?_
  refine kx_iald hx hb hK hP 10 0 rfl rfl (by omega) (by decide) dX3_allInWay_11 ?_
  refine kx_top (show (pe (r0 * 12 + s0) : Int32) = nI (people z r0 s0) from by exact hp) ?_
  refine lv_aload_n hx hb dX3_allInWay_12 rfl (lv_at hl 1 rfl) ?_
  refine va_get (D := D) (ci := 3) (v := .ref (v 2)) (C := RX3) (T := TX3) (N := 5) hx hb hts iX3_allInWay_3 hown hK hP 9 rfl rfl 3 (by decide) (hts (.fieldLink RX3 22 "HallSights$Survey" "columns" "[I") (List.mem_of_getElem? (i := 2) rfl)) (fun _ h9 => h9) rfl dX3_allInWay_13 ?_
  refine lv_iload_n hx hb dX3_allInWay_16 rfl (lv_at hl 0 rfl) ?_
  refine kx_iald hx hb hK hP 11 0 rfl rfl (by omega) (by decide) dX3_allInWay_17 ?_
  refine kx_top (show (cn (r0 * 12 + s0) : Int32) = nI (colsW z r0 s0 (-1)) from by exact hc) ?_
  refine kx_iadd hx hb dX3_allInWay_18 ?_
  have e_0 : ((people z r0 s0) + (colsW z r0 s0 (-1)) : Nat) = (ways z r0 s0) := by first | rfl | omega | (simp [ways, Int32.not_lt, Int32.not_le]; done) | (simp [ways, Int32.not_lt, Int32.not_le]; omega)
  exact kr_iret hx hb hrt hlocks (congrArg nI e_0) rfl dX3_allInWay_19
set_option maxRecDepth 20000 in
theorem iX3_rankOf_3 : ∀ w ∈ wsX30, w ∈ wsX3_rankOf := by decide +kernel
set_option maxHeartbeats 4000000 in
set_option maxRecDepth 100000 in
theorem c_X3_rankOf (l : Launch) (D : va_G) (cI cC cH cL : ClassId) (v : Nat → Nat) (b : Nat → Nat) (z : ZZ) (lk : Bool) (pe cn rk : ZZ) (r0 : Nat) (s0 : Nat) (hw : WF z) (hr : r0 < nR z) (hs : s0 < nS z r0) (hp : pe (r0 * 12 + s0) = nI (people z r0 s0)) (hc : cn (r0 * 12 + s0) = nI (colsW z r0 s0 (-1))) : Met l yX3_rankOf wsX3_rankOf ({ frames := 2, cells := 0, slots := 0, locals := 44 }) (kp [.ref (v 0), .int (nI r0), .int (nI s0)] D (HW b cI z ++ SW v (b 0) cI (bI lk) pe cn rk) (kT cI cC cH cL)) (kr (.returned (some (.int (nI (rkN z r0 s0)))))) 0 0 (fun _ => False) := by
  refine Met.ofW (cc := cX3_rankOf) (maxL := 4) (ret := (some .int)) (by decide) rfl ?_
  intro p e s m args below meth c s₁ B hml hv
  obtain ⟨rfl, hP, hK⟩ := hv
  have hx := B.exec
  have hb := B.bytes
  have hrt := B.returns
  have hts := atoms_spec (ws := wsX3_rankOf) B.pre
  have hown : s.vm.findClass RX3 = some m.cls := findClass_of_methodNamed B.named
  have hlocks := B.notSynchronized
  have hl := lv_entry ([.ref (v 0), .int (nI r0), .int (nI s0)]) (n := 4) (Nat.le_of_ble_eq_true rfl)
  rw [lg_entry_eq]
  generalize (lg_sl ([.ref (v 0), .int (nI r0), .int (nI s0)]) ++ List.replicate (4 - (lg_sl ([.ref (v 0), .int (nI r0), .int (nI s0)])).length) Slot.unset).toArray = ls at hl ⊢
  have hl : lv_has ls 4 [(0, .ref (v 0)), (1, .int (nI r0)), (2, .int (nI s0))] := hl
  have hR10 := wf_R10 hw
  have hC4 := wf_C4 hw
  have hS0 := wf_S12 hw hr
  refine lv_aload_n hx hb dX3_rankOf_0 rfl (lv_at hl 0 rfl) ?_
  refine lv_iload_n hx hb dX3_rankOf_1 rfl (lv_at hl 1 rfl) ?_
  refine lv_iload_n hx hb dX3_rankOf_2 rfl (lv_at hl 2 rfl) ?_
  refine kr_V (As := [.int (nI r0), .int (nI s0)]) (rest := []) (C := RX3) (own := RX3) ⟨hx, hb, hml, hown, hts⟩ (c_X3_allInWay l D cI cC cH cL v b z lk pe cn rk r0 s0 (by first | assumption | omega) (by first | assumption | omega) (by first | assumption | omega) (by first | assumption | omega) (by first | assumption | omega)) (cwV 2 hts gX3_rankOf_X3_allInWay rfl rfl rfl k_X3_allInWay ⟨Nat.le_of_ble_eq_true rfl, Nat.le_of_ble_eq_true rfl⟩) hP hK (va_recv (q := (RX3, TX3, 5)) hK hP (ci := 3) (q0 := 9) rfl rfl) rfl hl.1 rfl (Nat.le_of_ble_eq_true rfl) dX3_rankOf_3 ⟨Nat.le_of_ble_eq_true rfl, Nat.le_of_ble_eq_true rfl⟩ ?_
  refine lv_bipush (v := nI 10) hx hb dX3_rankOf_6 (by decide) ?_
  refine kx_imul hx hb dX3_rankOf_8 ?_
  refine lv_iload_n hx hb dX3_rankOf_9 rfl (lv_at hl 1 rfl) ?_
  refine kx_iadd hx hb dX3_rankOf_10 ?_
  refine lv_istore_n (lv' := [(3, .int (nI (((ways z r0 s0) * 10) + r0))), (0, .ref (v 0)), (1, .int (nI r0)), (2, .int (nI s0))]) hx hb dX3_rankOf_11 rfl hl (by decide) rfl (fun ls hl => ?_)
  refine lv_iload_n hx hb dX3_rankOf_12 rfl (lv_at hl 0 rfl) ?_
  refine lv_bipush (v := nI 12) hx hb dX3_rankOf_13 (by decide) ?_
  refine kx_imul hx hb dX3_rankOf_15 ?_
  refine lv_aload_n hx hb dX3_rankOf_16 rfl (lv_at hl 1 rfl) ?_
  refine va_get (D := D) (ci := 3) (v := .ref (b 0)) (C := RX3) (T := TX3) (N := 5) hx hb hts iX3_rankOf_3 hown hK hP 9 rfl rfl 0 (by decide) (hts (.fieldLink RX3 12 "HallSights$Survey" "hall" "LHallSights$Hall;") (List.mem_of_getElem? (i := 1) rfl)) (fun _ h9 => h9) rfl dX3_rankOf_17 ?_
  refine lv_iload_n hx hb dX3_rankOf_20 rfl (lv_at hl 2 rfl) ?_
  refine lv_iload_n hx hb dX3_rankOf_21 rfl (lv_at hl 3 rfl) ?_
  refine kr_V (As := [.int (nI r0), .int (nI s0)]) (rest := [.int (nI ((((ways z r0 s0) * 10) + r0) * 12))]) (C := RX0) (own := RX3) ⟨hx, hb, hml, hown, hts⟩ (c_X0_sideOf l D cI cC cH cL b z r0 s0 (by first | assumption | omega) (by first | assumption | omega)) (cwV 2 hts gX3_rankOf_X0_sideOf rfl rfl rfl k_X0_sideOf ⟨Nat.le_of_ble_eq_true rfl, Nat.le_of_ble_eq_true rfl⟩) (hP.sub (ws' := (HW b cI z)) [0, 1, 2, 3, 4, 5, 6, 7, 8] rfl) hK (va_recv (q := (RX0, TX0, 10)) hK hP (ci := 0) (q0 := 0) rfl rfl) rfl hl.1 rfl (Nat.le_of_ble_eq_true rfl) dX3_rankOf_22 ⟨Nat.le_of_ble_eq_true rfl, Nat.le_of_ble_eq_true rfl⟩ ?_
  refine va_mabs hx hb (hml.trans hl.1.symm) hown (hts (.methodLink RX3 58 Lib.Math.abs.name) (List.mem_of_getElem? (i := 2) rfl)) (hts (.static Lib.Math.abs.name) (List.mem_of_getElem? (i := 3) rfl)) (hts (.initialized "java/lang/Math") (List.mem_of_getElem? (i := 4) rfl)) (hts (.code Lib.Math.abs.name Lib.Math.abs.code 1 (some .int)) (List.mem_of_getElem? (i := 5) rfl)) (Nat.le_of_ble_eq_true rfl) (Nat.le_of_ble_eq_true rfl) (Nat.le_of_ble_eq_true rfl) (Nat.le_of_ble_eq_true rfl) dX3_rankOf_25 ?_
  refine kx_top (absI_m _) ?_
  refine kx_top (show (absI (side z r0 s0) : Int32) = nI (sdN z r0 s0) from by exact absI_side hw hr hs) ?_
  refine kx_iadd hx hb dX3_rankOf_28 ?_
  refine lv_istore_n (lv' := [(3, .int (nI (((((ways z r0 s0) * 10) + r0) * 12) + (sdN z r0 s0)))), (0, .ref (v 0)), (1, .int (nI r0)), (2, .int (nI s0))]) hx hb dX3_rankOf_29 rfl hl (by decide) rfl (fun ls hl => ?_)
  refine lv_iload_n hx hb dX3_rankOf_30 rfl (lv_at hl 0 rfl) ?_
  refine lv_bipush (v := nI 12) hx hb dX3_rankOf_31 (by decide) ?_
  refine kx_imul hx hb dX3_rankOf_33 ?_
  refine lv_iload_n hx hb dX3_rankOf_34 rfl (lv_at hl 3 rfl) ?_
  refine kx_iadd hx hb dX3_rankOf_35 ?_
  have e_0 : (((((((ways z r0 s0) * 10) + r0) * 12) + (sdN z r0 s0)) * 12) + s0 : Nat) = (rkN z r0 s0) := by rfl
  exact kr_iret hx hb hrt hlocks (congrArg nI e_0) rfl dX3_rankOf_36
set_option maxHeartbeats 4000000 in
set_option maxRecDepth 100000 in
theorem c_X3_sees (l : Launch) (D : va_G) (cI cC cH cL : ClassId) (v : Nat → Nat) (b : Nat → Nat) (z : ZZ) (lk : Bool) (pe cn rk : ZZ) (r0 : Nat) (s0 : Nat) (hw : WF z) (hr : r0 < nR z) (hs : s0 < nS z r0) (hL : LKR z pe cn rk) : Met l yX3_sees wsX3_sees ({ frames := 2, cells := 0, slots := 0, locals := 44 }) (kp [.ref (v 0), .int (nI r0), .int (nI s0)] D (HW b cI z ++ SW v (b 0) cI (bI lk) pe cn rk) (kT cI cC cH cL)) (kr (.returned (some (.int (bI (seesB z r0 s0)))))) 0 0 (fun _ => False) := by
  refine Met.ofW (cc := cX3_sees) (maxL := 3) (ret := (some .boolean)) (by decide) rfl ?_
  intro p e s m args below meth c s₁ B hml hv
  obtain ⟨rfl, hP, hK⟩ := hv
  have hx := B.exec
  have hb := B.bytes
  have hrt := B.returns
  have hts := atoms_spec (ws := wsX3_sees) B.pre
  have hown : s.vm.findClass RX3 = some m.cls := findClass_of_methodNamed B.named
  have hlocks := B.notSynchronized
  have hl := lv_entry ([.ref (v 0), .int (nI r0), .int (nI s0)]) (n := 3) (Nat.le_of_ble_eq_true rfl)
  rw [lg_entry_eq]
  generalize (lg_sl ([.ref (v 0), .int (nI r0), .int (nI s0)]) ++ List.replicate (3 - (lg_sl ([.ref (v 0), .int (nI r0), .int (nI s0)])).length) Slot.unset).toArray = ls at hl ⊢
  have hl : lv_has ls 3 [(0, .ref (v 0)), (1, .int (nI r0)), (2, .int (nI s0))] := hl
  have hR10 := wf_R10 hw
  have hC4 := wf_C4 hw
  have hS0 := wf_S12 hw hr
  have hwb := ways_b hw hr s0
  refine lv_aload_n hx hb dX3_sees_0 rfl (lv_at hl 0 rfl) ?_
  refine lv_iload_n hx hb dX3_sees_1 rfl (lv_at hl 1 rfl) ?_
  refine lv_iload_n hx hb dX3_sees_2 rfl (lv_at hl 2 rfl) ?_
  refine kr_V (As := [.int (nI r0), .int (nI s0)]) (rest := []) (C := RX3) (own := RX3) ⟨hx, hb, hml, hown, hts⟩ (c_X3_allInWay l D cI cC cH cL v b z lk pe cn rk r0 s0 (by first | assumption | omega) (by first | assumption | omega) (by first | assumption | omega) (by exact (hL r0 s0 (by omega) (by omega)).1) (by exact (hL r0 s0 (by omega) (by omega)).2.1)) (cwV 2 hts gX3_sees_X3_allInWay rfl rfl rfl k_X3_allInWay ⟨Nat.le_of_ble_eq_true rfl, Nat.le_of_ble_eq_true rfl⟩) hP hK (va_recv (q := (RX3, TX3, 5)) hK hP (ci := 3) (q0 := 9) rfl rfl) rfl hl.1 rfl (Nat.le_of_ble_eq_true rfl) dX3_sees_3 ⟨Nat.le_of_ble_eq_true rfl, Nat.le_of_ble_eq_true rfl⟩ ?_
  refine kx_if_ne (tgt := 13) hx hb (by omega) dX3_sees_6 (by decide) (fun c_6_0 => ?_) (fun c_6_1 => ?_)
  · refine lv_iconst (v := nI 0) hx hb dX3_sees_13 (by decide) ?_
    have e_2 : (false : Bool) = (seesB z r0 s0) := by first | rfl | omega | (simp [seesB, Int32.not_lt, Int32.not_le, c_6_0, Nat.ne_of_gt c_6_0]; done) | (simp [seesB, Int32.not_lt, Int32.not_le, c_6_0, Nat.ne_of_gt c_6_0]; omega) | (revert c_6_0; simp +contextual [seesB, Int32.not_lt, Int32.not_le]; done) | (revert c_6_0; simp +contextual [seesB, Int32.not_lt, Int32.not_le]; omega)
    exact kr_zret hx hb hrt hlocks (congrArg bI e_2) rfl dX3_sees_14
  · refine lv_iconst (v := nI 1) hx hb dX3_sees_9 (by decide) ?_
    refine lv_goto (tgt := 14) hx hb dX3_sees_10 (by decide) ?_
    have e_3 : (true : Bool) = (seesB z r0 s0) := by first | rfl | omega | (simp [seesB, Int32.not_lt, Int32.not_le, c_6_1]; done) | (simp [seesB, Int32.not_lt, Int32.not_le, c_6_1]; omega) | (revert c_6_1; simp +contextual [seesB, Int32.not_lt, Int32.not_le]; done) | (revert c_6_1; simp +contextual [seesB, Int32.not_lt, Int32.not_le]; omega)
    exact kr_zret hx hb hrt hlocks (congrArg bI e_3) rfl dX3_sees_14
set_option maxRecDepth 20000 in
theorem iX3_seeingInRow_0 : ∀ w ∈ wsX00, w ∈ wsX3_seeingInRow := by decide +kernel
set_option maxRecDepth 20000 in
theorem iX3_seeingInRow_3 : ∀ w ∈ wsX30, w ∈ wsX3_seeingInRow := by decide +kernel
set_option maxHeartbeats 4000000 in
set_option maxRecDepth 100000 in
theorem c_X3_seeingInRow (l : Launch) (D : va_G) (cI cC cH cL : ClassId) (v : Nat → Nat) (b : Nat → Nat) (z : ZZ) (lk : Bool) (pe cn rk : ZZ) (r0 : Nat) (hw : WF z) (hr : r0 < nR z) (hL : LKR z pe cn rk) : Met l yX3_seeingInRow wsX3_seeingInRow ({ frames := 3, cells := 0, slots := 0, locals := 66 }) (kp [.ref (v 0), .int (nI r0)] D (HW b cI z ++ SW v (b 0) cI (bI lk) pe cn rk) (kT cI cC cH cL)) (kr (.returned (some (.int (nI (seeIn z r0 false)))))) 0 0 (fun _ => False) := by
  refine Met.ofW (cc := cX3_seeingInRow) (maxL := 4) (ret := (some .int)) (by decide) rfl ?_
  intro p e s m args below meth c s₁ B hml hv
  obtain ⟨rfl, hP, hK⟩ := hv
  have hx := B.exec
  have hb := B.bytes
  have hrt := B.returns
  have hts := atoms_spec (ws := wsX3_seeingInRow) B.pre
  have hown : s.vm.findClass RX3 = some m.cls := findClass_of_methodNamed B.named
  have hlocks := B.notSynchronized
  have hl := lv_entry ([.ref (v 0), .int (nI r0)]) (n := 4) (Nat.le_of_ble_eq_true rfl)
  rw [lg_entry_eq]
  generalize (lg_sl ([.ref (v 0), .int (nI r0)]) ++ List.replicate (4 - (lg_sl ([.ref (v 0), .int (nI r0)])).length) Slot.unset).toArray = ls at hl ⊢
  have hl : lv_has ls 4 [(0, .ref (v 0)), (1, .int (nI r0))] := hl
  have hR10 := wf_R10 hw
  have hC4 := wf_C4 hw
  have hS0 := wf_S12 hw hr
  refine lv_iconst (v := nI 0) hx hb dX3_seeingInRow_0 (by decide) ?_
  refine lv_istore_n (lv' := [(2, .int (nI 0)), (0, .ref (v 0)), (1, .int (nI r0))]) hx hb dX3_seeingInRow_1 rfl hl (by decide) rfl (fun ls hl => ?_)
  refine lv_iconst (v := nI 0) hx hb dX3_seeingInRow_2 (by decide) ?_
  refine lv_istore_n (lv' := [(3, .int (nI 0)), (2, .int (nI 0)), (0, .ref (v 0)), (1, .int (nI r0))]) hx hb dX3_seeingInRow_3 rfl hl (by decide) rfl (fun ls hl => ?_)
  have e4_0 : (0 : Nat) = (sumN 0 (fun w => b2 ((!false || tk z r0 w) && seesB z r0 w))) := by first | rfl | omega | (simp [seeIn, sumN_s, b2, Int32.not_lt, Int32.not_le]; done) | (simp [seeIn, sumN_s, b2, Int32.not_lt, Int32.not_le]; omega)
  have hl4_1 : lv_has ls 4 [(0, .ref (v 0)), (1, .int (nI r0)), (2, .int (nI (sumN 0 (fun w => b2 ((!false || tk z r0 w) && seesB z r0 w))))), (3, .int (nI 0))] := lv_eqv (l1 := [(0, .ref (v 0)), (1, .int (nI r0)), (2, .int (nI 0)), (3, .int (nI 0))]) (lv_sub hl [2, 3, 1, 0] rfl) (lv_ce rfl (lv_ce rfl (lv_ce (congrArg (fun x => Value.int (nI x)) e4_0) (lv_ce rfl rfl))))
  refine kx_up (fun k ls => lv_has ls 4 [(0, .ref (v 0)), (1, .int (nI r0)), (2, .int (nI (sumN k (fun w => b2 ((!false || tk z r0 w) && seesB z r0 w))))), (3, .int (nI k))]) (0) (nS z r0) (by omega) ls (hl4_1) ?_
  intro iw ls hiwl hiwh hp ih4
  have hl := hp
  refine lv_iload_n hx hb dX3_seeingInRow_4 rfl (lv_at hl 3 rfl) ?_
  refine lv_aload_n hx hb dX3_seeingInRow_5 rfl (lv_at hl 0 rfl) ?_
  refine va_get (D := D) (ci := 3) (v := .ref (b 0)) (C := RX3) (T := TX3) (N := 5) hx hb hts iX3_seeingInRow_3 hown hK hP 9 rfl rfl 0 (by decide) (hts (.fieldLink RX3 12 "HallSights$Survey" "hall" "LHallSights$Hall;") (List.mem_of_getElem? (i := 1) rfl)) (fun _ h9 => h9) rfl dX3_seeingInRow_6 ?_
  refine va_get (D := D) (ci := 0) (v := .ref (b 3)) (C := RX0) (T := TX0) (N := 10) hx hb hts iX3_seeingInRow_0 hown hK hP 0 rfl rfl 3 (by decide) (hts (.fieldLink RX3 36 "HallSights$Hall" "seats" "[I") (List.mem_of_getElem? (i := 2) rfl)) (fun _ h9 => h9) rfl dX3_seeingInRow_9 ?_
  refine lv_iload_n hx hb dX3_seeingInRow_12 rfl (lv_at hl 1 rfl) ?_
  refine kx_iald hx hb hK hP 3 0 rfl rfl (by omega) (by decide) dX3_seeingInRow_13 ?_
  refine kx_top (wf_S hw (show (r0) < nR z by omega)) ?_
  have hS12_2 := wf_S12 hw (show (r0) < nR z by omega)
  refine kx_icmp_ge (tgt := 35) hx hb (by omega) (by omega) dX3_seeingInRow_14 (by decide) (fun c_14_3 => ?_) (fun c_14_4 => ?_)
  · have hq5 : nS z r0 = iw := by omega
    subst hq5
    refine lv_iload_n hx hb dX3_seeingInRow_35 rfl (lv_at hl 2 rfl) ?_
    have e_6 : (sumN (nS z r0) (fun w => b2 ((!false || tk z r0 w) && seesB z r0 w)) : Nat) = (seeIn z r0 false) := by first | rfl | omega | (simp [seeIn, sumN_s, b2, Int32.not_lt, Int32.not_le, c_14_3, Nat.not_lt.mpr c_14_3]; done) | (simp [seeIn, sumN_s, b2, Int32.not_lt, Int32.not_le, c_14_3, Nat.not_lt.mpr c_14_3]; omega) | (revert c_14_3; simp +contextual [seeIn, sumN_s, b2, Int32.not_lt, Int32.not_le]; done) | (revert c_14_3; simp +contextual [seeIn, sumN_s, b2, Int32.not_lt, Int32.not_le]; omega)
    exact kr_iret hx hb hrt hlocks (congrArg nI e_6) rfl dX3_seeingInRow_36
  · refine lv_aload_n hx hb dX3_seeingInRow_17 rfl (lv_at hl 0 rfl) ?_
    refine lv_iload_n hx hb dX3_seeingInRow_18 rfl (lv_at hl 1 rfl) ?_
    refine lv_iload_n hx hb dX3_seeingInRow_19 rfl (lv_at hl 3 rfl) ?_
    refine kr_V (As := [.int (nI r0), .int (nI iw)]) (rest := []) (C := RX3) (own := RX3) ⟨hx, hb, hml, hown, hts⟩ (c_X3_sees l D cI cC cH cL v b z lk pe cn rk r0 iw (by first | assumption | omega) (by first | assumption | omega) (by first | assumption | omega) (by first | assumption | omega)) (cwV 2 hts gX3_seeingInRow_X3_sees rfl rfl rfl k_X3_sees ⟨Nat.le_of_ble_eq_true rfl, Nat.le_of_ble_eq_true rfl⟩) hP hK (va_recv (q := (RX3, TX3, 5)) hK hP (ci := 3) (q0 := 9) rfl rfl) rfl hl.1 rfl (Nat.le_of_ble_eq_true rfl) dX3_seeingInRow_20 ⟨Nat.le_of_ble_eq_true rfl, Nat.le_of_ble_eq_true rfl⟩ ?_
    refine kx_if_eqb (tgt := 29) hx hb dX3_seeingInRow_23 (by decide) (fun c_23_7 => ?_) (fun c_23_8 => ?_)
    · refine lv_iinc (v := nI (iw + 1)) (lv' := [(3, .int (nI (iw + 1))), (0, .ref (v 0)), (1, .int (nI r0)), (2, .int (nI (sumN iw (fun w => b2 ((!false || tk z r0 w) && seesB z r0 w)))))]) hx hb dX3_seeingInRow_29 hl (k := 3) rfl (kx_inc 1) (by decide) rfl (fun ls hl => ?_)
      refine lv_goto (tgt := 4) hx hb dX3_seeingInRow_32 (by decide) ?_
      have e4_9 : (sumN iw (fun w => b2 ((!false || tk z r0 w) && seesB z r0 w)) : Nat) = (sumN (iw + 1) (fun w => b2 ((!false || tk z r0 w) && seesB z r0 w))) := by first | rfl | omega | (simp [seeIn, sumN_s, b2, Int32.not_lt, Int32.not_le, c_14_4, Nat.not_le.mpr c_14_4, c_23_7]; done) | (simp [seeIn, sumN_s, b2, Int32.not_lt, Int32.not_le, c_14_4, Nat.not_le.mpr c_14_4, c_23_7]; omega) | (revert c_14_4 c_23_7; simp +contextual [seeIn, sumN_s, b2, Int32.not_lt, Int32.not_le]; done) | (revert c_14_4 c_23_7; simp +contextual [seeIn, sumN_s, b2, Int32.not_lt, Int32.not_le]; omega)
      have e4_10 : (iw + 1 : Nat) = ((iw + 1)) := by first | rfl | omega | (simp [seeIn, sumN_s, b2, Int32.not_lt, Int32.not_le, c_14_4, Nat.not_le.mpr c_14_4, c_23_7]; done) | (simp [seeIn, sumN_s, b2, Int32.not_lt, Int32.not_le, c_14_4, Nat.not_le.mpr c_14_4, c_23_7]; omega) | (revert c_14_4 c_23_7; simp +contextual [seeIn, sumN_s, b2, Int32.not_lt, Int32.not_le]; done) | (revert c_14_4 c_23_7; simp +contextual [seeIn, sumN_s, b2, Int32.not_lt, Int32.not_le]; omega)
      have hl4_11 : lv_has ls 4 [(0, .ref (v 0)), (1, .int (nI r0)), (2, .int (nI (sumN (iw + 1) (fun w => b2 ((!false || tk z r0 w) && seesB z r0 w))))), (3, .int (nI (iw + 1)))] := lv_eqv (l1 := [(0, .ref (v 0)), (1, .int (nI r0)), (2, .int (nI (sumN iw (fun w => b2 ((!false || tk z r0 w) && seesB z r0 w))))), (3, .int (nI (iw + 1)))]) (lv_sub hl [1, 2, 3, 0] rfl) (lv_ce rfl (lv_ce rfl (lv_ce (congrArg (fun x => Value.int (nI x)) e4_9) (lv_ce (congrArg (fun x => Value.int (nI x)) e4_10) rfl))))
      exact ih4 _ (by omega) (hl4_11)
    · refine lv_iinc (v := nI ((sumN iw (fun w => b2 ((!false || tk z r0 w) && seesB z r0 w))) + 1)) (lv' := [(2, .int (nI ((sumN iw (fun w => b2 ((!false || tk z r0 w) && seesB z r0 w))) + 1))), (0, .ref (v 0)), (1, .int (nI r0)), (3, .int (nI iw))]) hx hb dX3_seeingInRow_26 hl (k := 2) rfl (kx_inc 1) (by decide) rfl (fun ls hl => ?_)
      refine lv_iinc (v := nI (iw + 1)) (lv' := [(3, .int (nI (iw + 1))), (2, .int (nI ((sumN iw (fun w => b2 ((!false || tk z r0 w) && seesB z r0 w))) + 1))), (0, .ref (v 0)), (1, .int (nI r0))]) hx hb dX3_seeingInRow_29 hl (k := 3) rfl (kx_inc 1) (by decide) rfl (fun ls hl => ?_)
      refine lv_goto (tgt := 4) hx hb dX3_seeingInRow_32 (by decide) ?_
      have e4_12 : ((sumN iw (fun w => b2 ((!false || tk z r0 w) && seesB z r0 w))) + 1 : Nat) = (sumN (iw + 1) (fun w => b2 ((!false || tk z r0 w) && seesB z r0 w))) := by first | rfl | omega | (simp [seeIn, sumN_s, b2, Int32.not_lt, Int32.not_le, c_14_4, Nat.not_le.mpr c_14_4, c_23_8]; done) | (simp [seeIn, sumN_s, b2, Int32.not_lt, Int32.not_le, c_14_4, Nat.not_le.mpr c_14_4, c_23_8]; omega) | (revert c_14_4 c_23_8; simp +contextual [seeIn, sumN_s, b2, Int32.not_lt, Int32.not_le]; done) | (revert c_14_4 c_23_8; simp +contextual [seeIn, sumN_s, b2, Int32.not_lt, Int32.not_le]; omega)
      have e4_13 : (iw + 1 : Nat) = ((iw + 1)) := by first | rfl | omega | (simp [seeIn, sumN_s, b2, Int32.not_lt, Int32.not_le, c_14_4, Nat.not_le.mpr c_14_4, c_23_8]; done) | (simp [seeIn, sumN_s, b2, Int32.not_lt, Int32.not_le, c_14_4, Nat.not_le.mpr c_14_4, c_23_8]; omega) | (revert c_14_4 c_23_8; simp +contextual [seeIn, sumN_s, b2, Int32.not_lt, Int32.not_le]; done) | (revert c_14_4 c_23_8; simp +contextual [seeIn, sumN_s, b2, Int32.not_lt, Int32.not_le]; omega)
      have hl4_14 : lv_has ls 4 [(0, .ref (v 0)), (1, .int (nI r0)), (2, .int (nI (sumN (iw + 1) (fun w => b2 ((!false || tk z r0 w) && seesB z r0 w))))), (3, .int (nI (iw + 1)))] := lv_eqv (l1 := [(0, .ref (v 0)), (1, .int (nI r0)), (2, .int (nI ((sumN iw (fun w => b2 ((!false || tk z r0 w) && seesB z r0 w))) + 1))), (3, .int (nI (iw + 1)))]) (lv_sub hl [2, 3, 1, 0] rfl) (lv_ce rfl (lv_ce rfl (lv_ce (congrArg (fun x => Value.int (nI x)) e4_12) (lv_ce (congrArg (fun x => Value.int (nI x)) e4_13) rfl))))
      exact ih4 _ (by omega) (hl4_14)
set_option maxRecDepth 20000 in
theorem iX3_seeing_0 : ∀ w ∈ wsX00, w ∈ wsX3_seeing := by decide +kernel
set_option maxRecDepth 20000 in
theorem iX3_seeing_3 : ∀ w ∈ wsX30, w ∈ wsX3_seeing := by decide +kernel
set_option maxHeartbeats 4000000 in
set_option maxRecDepth 100000 in
theorem c_X3_seeing (l : Launch) (D : va_G) (cI cC cH cL : ClassId) (v : Nat → Nat) (b : Nat → Nat) (z : ZZ) (lk : Bool) (pe cn rk : ZZ)  (hw : WF z) (hL : LKR z pe cn rk) : Met l yX3_seeing wsX3_seeing ({ frames := 4, cells := 0, slots := 0, locals := 89 }) (kp [.ref (v 0)] D (HW b cI z ++ SW v (b 0) cI (bI lk) pe cn rk) (kT cI cC cH cL)) (kr (.returned (some (.int (nI (seeing z false)))))) 0 0 (fun _ => False) := by
  refine Met.ofW (cc := cX3_seeing) (maxL := 3) (ret := (some .int)) (by decide) rfl ?_
  intro p e s m args below meth c s₁ B hml hv
  obtain ⟨rfl, hP, hK⟩ := hv
  have hx := B.exec
  have hb := B.bytes
  have hrt := B.returns
  have hts := atoms_spec (ws := wsX3_seeing) B.pre
  have hown : s.vm.findClass RX3 = some m.cls := findClass_of_methodNamed B.named
  have hlocks := B.notSynchronized
  have hl := lv_entry ([.ref (v 0)]) (n := 3) (Nat.le_of_ble_eq_true rfl)
  rw [lg_entry_eq]
  generalize (lg_sl ([.ref (v 0)]) ++ List.replicate (3 - (lg_sl ([.ref (v 0)])).length) Slot.unset).toArray = ls at hl ⊢
  have hl : lv_has ls 3 [(0, .ref (v 0))] := hl
  have hR10 := wf_R10 hw
  have hC4 := wf_C4 hw
  refine lv_iconst (v := nI 0) hx hb dX3_seeing_0 (by decide) ?_
  refine lv_istore_n (lv' := [(1, .int (nI 0)), (0, .ref (v 0))]) hx hb dX3_seeing_1 rfl hl (by decide) rfl (fun ls hl => ?_)
  refine lv_iconst (v := nI 0) hx hb dX3_seeing_2 (by decide) ?_
  refine lv_istore_n (lv' := [(2, .int (nI 0)), (1, .int (nI 0)), (0, .ref (v 0))]) hx hb dX3_seeing_3 rfl hl (by decide) rfl (fun ls hl => ?_)
  have e4_0 : (0 : Nat) = (sumN 0 (fun r => seeIn z r false)) := by first | rfl | omega | (simp [seeing, sumN_s, Int32.not_lt, Int32.not_le]; done) | (simp [seeing, sumN_s, Int32.not_lt, Int32.not_le]; omega)
  have hl4_1 : lv_has ls 3 [(0, .ref (v 0)), (1, .int (nI (sumN 0 (fun r => seeIn z r false)))), (2, .int (nI 0))] := lv_eqv (l1 := [(0, .ref (v 0)), (1, .int (nI 0)), (2, .int (nI 0))]) (lv_sub hl [2, 1, 0] rfl) (lv_ce rfl (lv_ce (congrArg (fun x => Value.int (nI x)) e4_0) (lv_ce rfl rfl)))
  refine kx_up (fun k ls => lv_has ls 3 [(0, .ref (v 0)), (1, .int (nI (sumN k (fun r => seeIn z r false)))), (2, .int (nI k))]) (0) (nR z) (by omega) ls (hl4_1) ?_
  intro ir ls hirl hirh hp ih4
  have hl := hp
  refine lv_iload_n hx hb dX3_seeing_4 rfl (lv_at hl 2 rfl) ?_
  refine lv_aload_n hx hb dX3_seeing_5 rfl (lv_at hl 0 rfl) ?_
  refine va_get (D := D) (ci := 3) (v := .ref (b 0)) (C := RX3) (T := TX3) (N := 5) hx hb hts iX3_seeing_3 hown hK hP 9 rfl rfl 0 (by decide) (hts (.fieldLink RX3 12 "HallSights$Survey" "hall" "LHallSights$Hall;") (List.mem_of_getElem? (i := 1) rfl)) (fun _ h9 => h9) rfl dX3_seeing_6 ?_
  refine va_get (D := D) (ci := 0) (v := .int (z 3)) (C := RX0) (T := TX0) (N := 10) hx hb hts iX3_seeing_0 hown hK hP 0 rfl rfl 0 (by decide) (hts (.fieldLink RX3 32 "HallSights$Hall" "rows" "I") (List.mem_of_getElem? (i := 2) rfl)) (fun _ h9 => h9) rfl dX3_seeing_9 ?_
  refine kx_top (wf_R hw) ?_
  refine kx_icmp_ge (tgt := 29) hx hb (by omega) (by omega) dX3_seeing_12 (by decide) (fun c_12_2 => ?_) (fun c_12_3 => ?_)
  · have hq4 : nR z = ir := by omega
    subst hq4
    refine lv_iload_n hx hb dX3_seeing_29 rfl (lv_at hl 1 rfl) ?_
    have e_5 : (sumN (nR z) (fun r => seeIn z r false) : Nat) = (seeing z false) := by first | rfl | omega | (simp [seeing, sumN_s, Int32.not_lt, Int32.not_le, c_12_2, Nat.not_lt.mpr c_12_2]; done) | (simp [seeing, sumN_s, Int32.not_lt, Int32.not_le, c_12_2, Nat.not_lt.mpr c_12_2]; omega) | (revert c_12_2; simp +contextual [seeing, sumN_s, Int32.not_lt, Int32.not_le]; done) | (revert c_12_2; simp +contextual [seeing, sumN_s, Int32.not_lt, Int32.not_le]; omega)
    exact kr_iret hx hb hrt hlocks (congrArg nI e_5) rfl dX3_seeing_30
  · refine lv_iload_n hx hb dX3_seeing_15 rfl (lv_at hl 1 rfl) ?_
    refine lv_aload_n hx hb dX3_seeing_16 rfl (lv_at hl 0 rfl) ?_
    refine lv_iload_n hx hb dX3_seeing_17 rfl (lv_at hl 2 rfl) ?_
    refine kr_V (As := [.int (nI ir)]) (rest := [.int (nI (sumN ir (fun r => seeIn z r false)))]) (C := RX3) (own := RX3) ⟨hx, hb, hml, hown, hts⟩ (c_X3_seeingInRow l D cI cC cH cL v b z lk pe cn rk ir (by first | assumption | omega) (by first | assumption | omega) (by first | assumption | omega)) (cwV 1 hts gX3_seeing_X3_seeingInRow rfl rfl rfl k_X3_seeingInRow ⟨Nat.le_of_ble_eq_true rfl, Nat.le_of_ble_eq_true rfl⟩) hP hK (va_recv (q := (RX3, TX3, 5)) hK hP (ci := 3) (q0 := 9) rfl rfl) rfl hl.1 rfl (Nat.le_of_ble_eq_true rfl) dX3_seeing_18 ⟨Nat.le_of_ble_eq_true rfl, Nat.le_of_ble_eq_true rfl⟩ ?_
    refine kx_iadd hx hb dX3_seeing_21 ?_
    refine lv_istore_n (lv' := [(1, .int (nI ((sumN ir (fun r => seeIn z r false)) + (seeIn z ir false)))), (0, .ref (v 0)), (2, .int (nI ir))]) hx hb dX3_seeing_22 rfl hl (by decide) rfl (fun ls hl => ?_)
    refine lv_iinc (v := nI (ir + 1)) (lv' := [(2, .int (nI (ir + 1))), (1, .int (nI ((sumN ir (fun r => seeIn z r false)) + (seeIn z ir false)))), (0, .ref (v 0))]) hx hb dX3_seeing_23 hl (k := 2) rfl (kx_inc 1) (by decide) rfl (fun ls hl => ?_)
    refine lv_goto (tgt := 4) hx hb dX3_seeing_26 (by decide) ?_
    have e4_6 : ((sumN ir (fun r => seeIn z r false)) + (seeIn z ir false) : Nat) = (sumN (ir + 1) (fun r => seeIn z r false)) := by first | rfl | omega | (simp [seeing, sumN_s, Int32.not_lt, Int32.not_le, c_12_3, Nat.not_le.mpr c_12_3]; done) | (simp [seeing, sumN_s, Int32.not_lt, Int32.not_le, c_12_3, Nat.not_le.mpr c_12_3]; omega) | (revert c_12_3; simp +contextual [seeing, sumN_s, Int32.not_lt, Int32.not_le]; done) | (revert c_12_3; simp +contextual [seeing, sumN_s, Int32.not_lt, Int32.not_le]; omega)
    have e4_7 : (ir + 1 : Nat) = ((ir + 1)) := by first | rfl | omega | (simp [seeing, sumN_s, Int32.not_lt, Int32.not_le, c_12_3, Nat.not_le.mpr c_12_3]; done) | (simp [seeing, sumN_s, Int32.not_lt, Int32.not_le, c_12_3, Nat.not_le.mpr c_12_3]; omega) | (revert c_12_3; simp +contextual [seeing, sumN_s, Int32.not_lt, Int32.not_le]; done) | (revert c_12_3; simp +contextual [seeing, sumN_s, Int32.not_lt, Int32.not_le]; omega)
    have hl4_8 : lv_has ls 3 [(0, .ref (v 0)), (1, .int (nI (sumN (ir + 1) (fun r => seeIn z r false)))), (2, .int (nI (ir + 1)))] := lv_eqv (l1 := [(0, .ref (v 0)), (1, .int (nI ((sumN ir (fun r => seeIn z r false)) + (seeIn z ir false)))), (2, .int (nI (ir + 1)))]) (lv_sub hl [2, 1, 0] rfl) (lv_ce rfl (lv_ce (congrArg (fun x => Value.int (nI x)) e4_6) (lv_ce (congrArg (fun x => Value.int (nI x)) e4_7) rfl)))
    exact ih4 _ (by omega) (hl4_8)
set_option maxRecDepth 20000 in
theorem iX3_takenSeeing_0 : ∀ w ∈ wsX00, w ∈ wsX3_takenSeeing := by decide +kernel
set_option maxRecDepth 20000 in
theorem iX3_takenSeeing_3 : ∀ w ∈ wsX30, w ∈ wsX3_takenSeeing := by decide +kernel
set_option maxHeartbeats 4000000 in
set_option maxRecDepth 100000 in
theorem c_X3_takenSeeing (l : Launch) (D : va_G) (cI cC cH cL : ClassId) (v : Nat → Nat) (b : Nat → Nat) (z : ZZ) (lk : Bool) (pe cn rk : ZZ)  (hw : WF z) (hL : LKR z pe cn rk) : Met l yX3_takenSeeing wsX3_takenSeeing ({ frames := 3, cells := 0, slots := 0, locals := 66 }) (kp [.ref (v 0)] D (HW b cI z ++ SW v (b 0) cI (bI lk) pe cn rk) (kT cI cC cH cL)) (kr (.returned (some (.int (nI (seeing z true)))))) 0 0 (fun _ => False) := by
  refine Met.ofW (cc := cX3_takenSeeing) (maxL := 4) (ret := (some .int)) (by decide) rfl ?_
  intro p e s m args below meth c s₁ B hml hv
  obtain ⟨rfl, hP, hK⟩ := hv
  have hx := B.exec
  have hb := B.bytes
  have hrt := B.returns
  have hts := atoms_spec (ws := wsX3_takenSeeing) B.pre
  have hown : s.vm.findClass RX3 = some m.cls := findClass_of_methodNamed B.named
  have hlocks := B.notSynchronized
  have hl := lv_entry ([.ref (v 0)]) (n := 4) (Nat.le_of_ble_eq_true rfl)
  rw [lg_entry_eq]
  generalize (lg_sl ([.ref (v 0)]) ++ List.replicate (4 - (lg_sl ([.ref (v 0)])).length) Slot.unset).toArray = ls at hl ⊢
  have hl : lv_has ls 4 [(0, .ref (v 0))] := hl
  have hR10 := wf_R10 hw
  have hC4 := wf_C4 hw
  refine lv_iconst (v := nI 0) hx hb dX3_takenSeeing_0 (by decide) ?_
  refine lv_istore_n (lv' := [(1, .int (nI 0)), (0, .ref (v 0))]) hx hb dX3_takenSeeing_1 rfl hl (by decide) rfl (fun ls hl => ?_)
  refine lv_iconst (v := nI 0) hx hb dX3_takenSeeing_2 (by decide) ?_
  refine lv_istore_n (lv' := [(2, .int (nI 0)), (1, .int (nI 0)), (0, .ref (v 0))]) hx hb dX3_takenSeeing_3 rfl hl (by decide) rfl (fun ls hl => ?_)
  have e4_0 : (0 : Nat) = (sumN 0 (fun r => seeIn z r true)) := by first | rfl | omega | (simp [seeing, seeIn, sumN_s, b2, Int32.not_lt, Int32.not_le]; done) | (simp [seeing, seeIn, sumN_s, b2, Int32.not_lt, Int32.not_le]; omega)
  have hl4_1 : lv_has ls 4 [(0, .ref (v 0)), (1, .int (nI (sumN 0 (fun r => seeIn z r true)))), (2, .int (nI 0))] := lv_eqv (l1 := [(0, .ref (v 0)), (1, .int (nI 0)), (2, .int (nI 0))]) (lv_sub hl [2, 1, 0] rfl) (lv_ce rfl (lv_ce (congrArg (fun x => Value.int (nI x)) e4_0) (lv_ce rfl rfl)))
  refine kx_up (fun k ls => lv_has ls 4 [(0, .ref (v 0)), (1, .int (nI (sumN k (fun r => seeIn z r true)))), (2, .int (nI k))]) (0) (nR z) (by omega) ls (hl4_1) ?_
  intro ir ls hirl hirh hp ih4
  have hl := hp
  refine lv_iload_n hx hb dX3_takenSeeing_4 rfl (lv_at hl 2 rfl) ?_
  refine lv_aload_n hx hb dX3_takenSeeing_5 rfl (lv_at hl 0 rfl) ?_
  refine va_get (D := D) (ci := 3) (v := .ref (b 0)) (C := RX3) (T := TX3) (N := 5) hx hb hts iX3_takenSeeing_3 hown hK hP 9 rfl rfl 0 (by decide) (hts (.fieldLink RX3 12 "HallSights$Survey" "hall" "LHallSights$Hall;") (List.mem_of_getElem? (i := 1) rfl)) (fun _ h9 => h9) rfl dX3_takenSeeing_6 ?_
  refine va_get (D := D) (ci := 0) (v := .int (z 3)) (C := RX0) (T := TX0) (N := 10) hx hb hts iX3_takenSeeing_0 hown hK hP 0 rfl rfl 0 (by decide) (hts (.fieldLink RX3 32 "HallSights$Hall" "rows" "I") (List.mem_of_getElem? (i := 2) rfl)) (fun _ h9 => h9) rfl dX3_takenSeeing_9 ?_
  refine kx_top (wf_R hw) ?_
  refine kx_icmp_ge (tgt := 66) hx hb (by omega) (by omega) dX3_takenSeeing_12 (by decide) (fun c_12_2 => ?_) (fun c_12_3 => ?_)
  · have hq4 : nR z = ir := by omega
    subst hq4
    refine lv_iload_n hx hb dX3_takenSeeing_66 rfl (lv_at hl 1 rfl) ?_
    have e_5 : (sumN (nR z) (fun r => seeIn z r true) : Nat) = (seeing z true) := by first | rfl | omega | (simp [seeing, seeIn, sumN_s, b2, Int32.not_lt, Int32.not_le, c_12_2, Nat.not_lt.mpr c_12_2]; done) | (simp [seeing, seeIn, sumN_s, b2, Int32.not_lt, Int32.not_le, c_12_2, Nat.not_lt.mpr c_12_2]; omega) | (revert c_12_2; simp +contextual [seeing, seeIn, sumN_s, b2, Int32.not_lt, Int32.not_le]; done) | (revert c_12_2; simp +contextual [seeing, seeIn, sumN_s, b2, Int32.not_lt, Int32.not_le]; omega)
    exact kr_iret hx hb hrt hlocks (congrArg nI e_5) rfl dX3_takenSeeing_67
  · refine lv_iconst (v := nI 0) hx hb dX3_takenSeeing_15 (by decide) ?_
    refine lv_istore_n (lv' := [(3, .int (nI 0)), (0, .ref (v 0)), (1, .int (nI (sumN ir (fun r => seeIn z r true)))), (2, .int (nI ir))]) hx hb dX3_takenSeeing_16 rfl hl (by decide) rfl (fun ls hl => ?_)
    have e17_6 : (sumN ir (fun r => seeIn z r true) : Nat) = (sumN ir (fun r => seeIn z r true) + sumN 0 (fun w => b2 ((!true || tk z ir w) && seesB z ir w))) := by first | rfl | omega | (simp [seeing, seeIn, sumN_s, b2, Int32.not_lt, Int32.not_le, c_12_3, Nat.not_le.mpr c_12_3]; done) | (simp [seeing, seeIn, sumN_s, b2, Int32.not_lt, Int32.not_le, c_12_3, Nat.not_le.mpr c_12_3]; omega) | (revert c_12_3; simp +contextual [seeing, seeIn, sumN_s, b2, Int32.not_lt, Int32.not_le]; done) | (revert c_12_3; simp +contextual [seeing, seeIn, sumN_s, b2, Int32.not_lt, Int32.not_le]; omega)
    have hl17_7 : lv_has ls 4 [(0, .ref (v 0)), (2, .int (nI ir)), (1, .int (nI (sumN ir (fun r => seeIn z r true) + sumN 0 (fun w => b2 ((!true || tk z ir w) && seesB z ir w))))), (3, .int (nI 0))] := lv_eqv (l1 := [(0, .ref (v 0)), (2, .int (nI ir)), (1, .int (nI (sumN ir (fun r => seeIn z r true)))), (3, .int (nI 0))]) (lv_sub hl [1, 3, 2, 0] rfl) (lv_ce rfl (lv_ce rfl (lv_ce (congrArg (fun x => Value.int (nI x)) e17_6) (lv_ce rfl rfl))))
    refine kx_up (fun k ls => lv_has ls 4 [(0, .ref (v 0)), (2, .int (nI ir)), (1, .int (nI (sumN ir (fun r => seeIn z r true) + sumN k (fun w => b2 ((!true || tk z ir w) && seesB z ir w))))), (3, .int (nI k))]) (0) (nS z ir) (by omega) ls (hl17_7) ?_
    intro iw ls hiwl hiwh hp ih17
    have hl := hp
    have hSi := wf_S12 hw (show ir < nR z by omega)
    refine lv_iload_n hx hb dX3_takenSeeing_17 rfl (lv_at hl 3 rfl) ?_
    refine lv_aload_n hx hb dX3_takenSeeing_18 rfl (lv_at hl 0 rfl) ?_
    refine va_get (D := D) (ci := 3) (v := .ref (b 0)) (C := RX3) (T := TX3) (N := 5) hx hb hts iX3_takenSeeing_3 hown hK hP 9 rfl rfl 0 (by decide) (hts (.fieldLink RX3 12 "HallSights$Survey" "hall" "LHallSights$Hall;") (List.mem_of_getElem? (i := 1) rfl)) (fun _ h9 => h9) rfl dX3_takenSeeing_19 ?_
    refine va_get (D := D) (ci := 0) (v := .ref (b 3)) (C := RX0) (T := TX0) (N := 10) hx hb hts iX3_takenSeeing_0 hown hK hP 0 rfl rfl 3 (by decide) (hts (.fieldLink RX3 36 "HallSights$Hall" "seats" "[I") (List.mem_of_getElem? (i := 3) rfl)) (fun _ h9 => h9) rfl dX3_takenSeeing_22 ?_
    refine lv_iload_n hx hb dX3_takenSeeing_25 rfl (lv_at hl 1 rfl) ?_
    refine kx_iald hx hb hK hP 3 0 rfl rfl (by omega) (by decide) dX3_takenSeeing_26 ?_
    refine kx_top (wf_S hw (show (ir) < nR z by omega)) ?_
    have hS12_8 := wf_S12 hw (show (ir) < nR z by omega)
    refine kx_icmp_ge (tgt := 60) hx hb (by omega) (by omega) dX3_takenSeeing_27 (by decide) (fun c_27_9 => ?_) (fun c_27_10 => ?_)
    · have hq11 : nS z ir = iw := by omega
      subst hq11
      refine lv_iinc (v := nI (ir + 1)) (lv' := [(2, .int (nI (ir + 1))), (0, .ref (v 0)), (1, .int (nI (sumN ir (fun r => seeIn z r true) + sumN (nS z ir) (fun w => b2 ((!true || tk z ir w) && seesB z ir w))))), (3, .int (nI (nS z ir)))]) hx hb dX3_takenSeeing_60 hl (k := 1) rfl (kx_inc 1) (by decide) rfl (fun ls hl => ?_)
      refine lv_goto (tgt := 4) hx hb dX3_takenSeeing_63 (by decide) ?_
      have e4_12 : (sumN ir (fun r => seeIn z r true) + sumN (nS z ir) (fun w => b2 ((!true || tk z ir w) && seesB z ir w)) : Nat) = (sumN (ir + 1) (fun r => seeIn z r true)) := by first | rfl | omega | (simp [seeing, seeIn, sumN_s, b2, Int32.not_lt, Int32.not_le, c_12_3, Nat.not_le.mpr c_12_3, c_27_9, Nat.not_lt.mpr c_27_9]; done) | (simp [seeing, seeIn, sumN_s, b2, Int32.not_lt, Int32.not_le, c_12_3, Nat.not_le.mpr c_12_3, c_27_9, Nat.not_lt.mpr c_27_9]; omega) | (revert c_12_3 c_27_9; simp +contextual [seeing, seeIn, sumN_s, b2, Int32.not_lt, Int32.not_le]; done) | (revert c_12_3 c_27_9; simp +contextual [seeing, seeIn, sumN_s, b2, Int32.not_lt, Int32.not_le]; omega)
      have e4_13 : (ir + 1 : Nat) = ((ir + 1)) := by first | rfl | omega | (simp [seeing, seeIn, sumN_s, b2, Int32.not_lt, Int32.not_le, c_12_3, Nat.not_le.mpr c_12_3, c_27_9, Nat.not_lt.mpr c_27_9]; done) | (simp [seeing, seeIn, sumN_s, b2, Int32.not_lt, Int32.not_le, c_12_3, Nat.not_le.mpr c_12_3, c_27_9, Nat.not_lt.mpr c_27_9]; omega) | (revert c_12_3 c_27_9; simp +contextual [seeing, seeIn, sumN_s, b2, Int32.not_lt, Int32.not_le]; done) | (revert c_12_3 c_27_9; simp +contextual [seeing, seeIn, sumN_s, b2, Int32.not_lt, Int32.not_le]; omega)
      have hl4_14 : lv_has ls 4 [(0, .ref (v 0)), (1, .int (nI (sumN (ir + 1) (fun r => seeIn z r true)))), (2, .int (nI (ir + 1)))] := lv_eqv (l1 := [(0, .ref (v 0)), (1, .int (nI (sumN ir (fun r => seeIn z r true) + sumN (nS z ir) (fun w => b2 ((!true || tk z ir w) && seesB z ir w))))), (2, .int (nI (ir + 1)))]) (lv_sub hl [1, 2, 0] rfl) (lv_ce rfl (lv_ce (congrArg (fun x => Value.int (nI x)) e4_12) (lv_ce (congrArg (fun x => Value.int (nI x)) e4_13) rfl)))
      exact ih4 _ (by omega) (hl4_14)
    · refine lv_aload_n hx hb dX3_takenSeeing_30 rfl (lv_at hl 0 rfl) ?_
      refine va_get (D := D) (ci := 3) (v := .ref (b 0)) (C := RX3) (T := TX3) (N := 5) hx hb hts iX3_takenSeeing_3 hown hK hP 9 rfl rfl 0 (by decide) (hts (.fieldLink RX3 12 "HallSights$Survey" "hall" "LHallSights$Hall;") (List.mem_of_getElem? (i := 1) rfl)) (fun _ h9 => h9) rfl dX3_takenSeeing_31 ?_
      refine lv_iload_n hx hb dX3_takenSeeing_34 rfl (lv_at hl 1 rfl) ?_
      refine lv_iload_n hx hb dX3_takenSeeing_35 rfl (lv_at hl 3 rfl) ?_
      refine kr_V (As := [.int (nI ir), .int (nI iw)]) (rest := []) (C := RX0) (own := RX3) ⟨hx, hb, hml, hown, hts⟩ (c_X0_isTaken l D cI cC cH cL b z ir iw (by first | assumption | omega)) (cwV 2 hts gX3_takenSeeing_X0_isTaken rfl rfl rfl k_X0_isTaken ⟨Nat.le_of_ble_eq_true rfl, Nat.le_of_ble_eq_true rfl⟩) (hP.sub (ws' := (HW b cI z)) [0, 1, 2, 3, 4, 5, 6, 7, 8] rfl) hK (va_recv (q := (RX0, TX0, 10)) hK hP (ci := 0) (q0 := 0) rfl rfl) rfl hl.1 rfl (Nat.le_of_ble_eq_true rfl) dX3_takenSeeing_36 ⟨Nat.le_of_ble_eq_true rfl, Nat.le_of_ble_eq_true rfl⟩ ?_
      refine kx_if_eqb (tgt := 54) hx hb dX3_takenSeeing_39 (by decide) (fun c_39_15 => ?_) (fun c_39_16 => ?_)
      · refine lv_iinc (v := nI (iw + 1)) (lv' := [(3, .int (nI (iw + 1))), (0, .ref (v 0)), (2, .int (nI ir)), (1, .int (nI (sumN ir (fun r => seeIn z r true) + sumN iw (fun w => b2 ((!true || tk z ir w) && seesB z ir w)))))]) hx hb dX3_takenSeeing_54 hl (k := 3) rfl (kx_inc 1) (by decide) rfl (fun ls hl => ?_)
        refine lv_goto (tgt := 17) hx hb dX3_takenSeeing_57 (by decide) ?_
        have e17_17 : (sumN ir (fun r => seeIn z r true) + sumN iw (fun w => b2 ((!true || tk z ir w) && seesB z ir w)) : Nat) = (sumN ir (fun r => seeIn z r true) + sumN (iw + 1) (fun w => b2 ((!true || tk z ir w) && seesB z ir w))) := by first | rfl | omega | (simp [seeing, seeIn, sumN_s, b2, Int32.not_lt, Int32.not_le, c_12_3, Nat.not_le.mpr c_12_3, c_27_10, Nat.not_le.mpr c_27_10, c_39_15]; done) | (simp [seeing, seeIn, sumN_s, b2, Int32.not_lt, Int32.not_le, c_12_3, Nat.not_le.mpr c_12_3, c_27_10, Nat.not_le.mpr c_27_10, c_39_15]; omega) | (revert c_12_3 c_27_10 c_39_15; simp +contextual [seeing, seeIn, sumN_s, b2, Int32.not_lt, Int32.not_le]; done) | (revert c_12_3 c_27_10 c_39_15; simp +contextual [seeing, seeIn, sumN_s, b2, Int32.not_lt, Int32.not_le]; omega)
        have e17_18 : (iw + 1 : Nat) = ((iw + 1)) := by first | rfl | omega | (simp [seeing, seeIn, sumN_s, b2, Int32.not_lt, Int32.not_le, c_12_3, Nat.not_le.mpr c_12_3, c_27_10, Nat.not_le.mpr c_27_10, c_39_15]; done) | (simp [seeing, seeIn, sumN_s, b2, Int32.not_lt, Int32.not_le, c_12_3, Nat.not_le.mpr c_12_3, c_27_10, Nat.not_le.mpr c_27_10, c_39_15]; omega) | (revert c_12_3 c_27_10 c_39_15; simp +contextual [seeing, seeIn, sumN_s, b2, Int32.not_lt, Int32.not_le]; done) | (revert c_12_3 c_27_10 c_39_15; simp +contextual [seeing, seeIn, sumN_s, b2, Int32.not_lt, Int32.not_le]; omega)
        have hl17_19 : lv_has ls 4 [(0, .ref (v 0)), (2, .int (nI ir)), (1, .int (nI (sumN ir (fun r => seeIn z r true) + sumN (iw + 1) (fun w => b2 ((!true || tk z ir w) && seesB z ir w))))), (3, .int (nI (iw + 1)))] := lv_eqv (l1 := [(0, .ref (v 0)), (2, .int (nI ir)), (1, .int (nI (sumN ir (fun r => seeIn z r true) + sumN iw (fun w => b2 ((!true || tk z ir w) && seesB z ir w))))), (3, .int (nI (iw + 1)))]) (lv_sub hl [1, 2, 3, 0] rfl) (lv_ce rfl (lv_ce rfl (lv_ce (congrArg (fun x => Value.int (nI x)) e17_17) (lv_ce (congrArg (fun x => Value.int (nI x)) e17_18) rfl))))
        exact ih17 _ (by omega) (hl17_19)
      · refine lv_aload_n hx hb dX3_takenSeeing_42 rfl (lv_at hl 0 rfl) ?_
        refine lv_iload_n hx hb dX3_takenSeeing_43 rfl (lv_at hl 1 rfl) ?_
        refine lv_iload_n hx hb dX3_takenSeeing_44 rfl (lv_at hl 3 rfl) ?_
        refine kr_V (As := [.int (nI ir), .int (nI iw)]) (rest := []) (C := RX3) (own := RX3) ⟨hx, hb, hml, hown, hts⟩ (c_X3_sees l D cI cC cH cL v b z lk pe cn rk ir iw (by first | assumption | omega) (by first | assumption | omega) (by first | assumption | omega) (by first | assumption | omega)) (cwV 2 hts gX3_takenSeeing_X3_sees rfl rfl rfl k_X3_sees ⟨Nat.le_of_ble_eq_true rfl, Nat.le_of_ble_eq_true rfl⟩) hP hK (va_recv (q := (RX3, TX3, 5)) hK hP (ci := 3) (q0 := 9) rfl rfl) rfl hl.1 rfl (Nat.le_of_ble_eq_true rfl) dX3_takenSeeing_45 ⟨Nat.le_of_ble_eq_true rfl, Nat.le_of_ble_eq_true rfl⟩ ?_
        refine kx_if_eqb (tgt := 54) hx hb dX3_takenSeeing_48 (by decide) (fun c_48_20 => ?_) (fun c_48_21 => ?_)
        · refine lv_iinc (v := nI (iw + 1)) (lv' := [(3, .int (nI (iw + 1))), (0, .ref (v 0)), (2, .int (nI ir)), (1, .int (nI (sumN ir (fun r => seeIn z r true) + sumN iw (fun w => b2 ((!true || tk z ir w) && seesB z ir w)))))]) hx hb dX3_takenSeeing_54 hl (k := 3) rfl (kx_inc 1) (by decide) rfl (fun ls hl => ?_)
          refine lv_goto (tgt := 17) hx hb dX3_takenSeeing_57 (by decide) ?_
          have e17_22 : (sumN ir (fun r => seeIn z r true) + sumN iw (fun w => b2 ((!true || tk z ir w) && seesB z ir w)) : Nat) = (sumN ir (fun r => seeIn z r true) + sumN (iw + 1) (fun w => b2 ((!true || tk z ir w) && seesB z ir w))) := by first | rfl | omega | (simp [seeing, seeIn, sumN_s, b2, Int32.not_lt, Int32.not_le, c_12_3, Nat.not_le.mpr c_12_3, c_27_10, Nat.not_le.mpr c_27_10, c_39_16, c_48_20]; done) | (simp [seeing, seeIn, sumN_s, b2, Int32.not_lt, Int32.not_le, c_12_3, Nat.not_le.mpr c_12_3, c_27_10, Nat.not_le.mpr c_27_10, c_39_16, c_48_20]; omega) | (revert c_12_3 c_27_10 c_39_16 c_48_20; simp +contextual [seeing, seeIn, sumN_s, b2, Int32.not_lt, Int32.not_le]; done) | (revert c_12_3 c_27_10 c_39_16 c_48_20; simp +contextual [seeing, seeIn, sumN_s, b2, Int32.not_lt, Int32.not_le]; omega)
          have e17_23 : (iw + 1 : Nat) = ((iw + 1)) := by first | rfl | omega | (simp [seeing, seeIn, sumN_s, b2, Int32.not_lt, Int32.not_le, c_12_3, Nat.not_le.mpr c_12_3, c_27_10, Nat.not_le.mpr c_27_10, c_39_16, c_48_20]; done) | (simp [seeing, seeIn, sumN_s, b2, Int32.not_lt, Int32.not_le, c_12_3, Nat.not_le.mpr c_12_3, c_27_10, Nat.not_le.mpr c_27_10, c_39_16, c_48_20]; omega) | (revert c_12_3 c_27_10 c_39_16 c_48_20; simp +contextual [seeing, seeIn, sumN_s, b2, Int32.not_lt, Int32.not_le]; done) | (revert c_12_3 c_27_10 c_39_16 c_48_20; simp +contextual [seeing, seeIn, sumN_s, b2, Int32.not_lt, Int32.not_le]; omega)
          have hl17_24 : lv_has ls 4 [(0, .ref (v 0)), (2, .int (nI ir)), (1, .int (nI (sumN ir (fun r => seeIn z r true) + sumN (iw + 1) (fun w => b2 ((!true || tk z ir w) && seesB z ir w))))), (3, .int (nI (iw + 1)))] := lv_eqv (l1 := [(0, .ref (v 0)), (2, .int (nI ir)), (1, .int (nI (sumN ir (fun r => seeIn z r true) + sumN iw (fun w => b2 ((!true || tk z ir w) && seesB z ir w))))), (3, .int (nI (iw + 1)))]) (lv_sub hl [1, 2, 3, 0] rfl) (lv_ce rfl (lv_ce rfl (lv_ce (congrArg (fun x => Value.int (nI x)) e17_22) (lv_ce (congrArg (fun x => Value.int (nI x)) e17_23) rfl))))
          exact ih17 _ (by omega) (hl17_24)
        · refine lv_iinc (v := nI ((sumN ir (fun r => seeIn z r true) + sumN iw (fun w => b2 ((!true || tk z ir w) && seesB z ir w))) + 1)) (lv' := [(1, .int (nI ((sumN ir (fun r => seeIn z r true) + sumN iw (fun w => b2 ((!true || tk z ir w) && seesB z ir w))) + 1))), (0, .ref (v 0)), (2, .int (nI ir)), (3, .int (nI iw))]) hx hb dX3_takenSeeing_51 hl (k := 2) rfl (kx_inc 1) (by decide) rfl (fun ls hl => ?_)
          refine lv_iinc (v := nI (iw + 1)) (lv' := [(3, .int (nI (iw + 1))), (1, .int (nI ((sumN ir (fun r => seeIn z r true) + sumN iw (fun w => b2 ((!true || tk z ir w) && seesB z ir w))) + 1))), (0, .ref (v 0)), (2, .int (nI ir))]) hx hb dX3_takenSeeing_54 hl (k := 3) rfl (kx_inc 1) (by decide) rfl (fun ls hl => ?_)
          refine lv_goto (tgt := 17) hx hb dX3_takenSeeing_57 (by decide) ?_
          have e17_25 : ((sumN ir (fun r => seeIn z r true) + sumN iw (fun w => b2 ((!true || tk z ir w) && seesB z ir w))) + 1 : Nat) = (sumN ir (fun r => seeIn z r true) + sumN (iw + 1) (fun w => b2 ((!true || tk z ir w) && seesB z ir w))) := by first | rfl | omega | (simp [seeing, seeIn, sumN_s, b2, Int32.not_lt, Int32.not_le, c_12_3, Nat.not_le.mpr c_12_3, c_27_10, Nat.not_le.mpr c_27_10, c_39_16, c_48_21]; done) | (simp [seeing, seeIn, sumN_s, b2, Int32.not_lt, Int32.not_le, c_12_3, Nat.not_le.mpr c_12_3, c_27_10, Nat.not_le.mpr c_27_10, c_39_16, c_48_21]; omega) | (revert c_12_3 c_27_10 c_39_16 c_48_21; simp +contextual [seeing, seeIn, sumN_s, b2, Int32.not_lt, Int32.not_le]; done) | (revert c_12_3 c_27_10 c_39_16 c_48_21; simp +contextual [seeing, seeIn, sumN_s, b2, Int32.not_lt, Int32.not_le]; omega)
          have e17_26 : (iw + 1 : Nat) = ((iw + 1)) := by first | rfl | omega | (simp [seeing, seeIn, sumN_s, b2, Int32.not_lt, Int32.not_le, c_12_3, Nat.not_le.mpr c_12_3, c_27_10, Nat.not_le.mpr c_27_10, c_39_16, c_48_21]; done) | (simp [seeing, seeIn, sumN_s, b2, Int32.not_lt, Int32.not_le, c_12_3, Nat.not_le.mpr c_12_3, c_27_10, Nat.not_le.mpr c_27_10, c_39_16, c_48_21]; omega) | (revert c_12_3 c_27_10 c_39_16 c_48_21; simp +contextual [seeing, seeIn, sumN_s, b2, Int32.not_lt, Int32.not_le]; done) | (revert c_12_3 c_27_10 c_39_16 c_48_21; simp +contextual [seeing, seeIn, sumN_s, b2, Int32.not_lt, Int32.not_le]; omega)
          have hl17_27 : lv_has ls 4 [(0, .ref (v 0)), (2, .int (nI ir)), (1, .int (nI (sumN ir (fun r => seeIn z r true) + sumN (iw + 1) (fun w => b2 ((!true || tk z ir w) && seesB z ir w))))), (3, .int (nI (iw + 1)))] := lv_eqv (l1 := [(0, .ref (v 0)), (2, .int (nI ir)), (1, .int (nI ((sumN ir (fun r => seeIn z r true) + sumN iw (fun w => b2 ((!true || tk z ir w) && seesB z ir w))) + 1))), (3, .int (nI (iw + 1)))]) (lv_sub hl [2, 3, 1, 0] rfl) (lv_ce rfl (lv_ce rfl (lv_ce (congrArg (fun x => Value.int (nI x)) e17_25) (lv_ce (congrArg (fun x => Value.int (nI x)) e17_26) rfl))))
          exact ih17 _ (by omega) (hl17_27)
set_option maxRecDepth 20000 in
theorem iX3_pairsInWay_0 : ∀ w ∈ wsX00, w ∈ wsX3_pairsInWay := by decide +kernel
set_option maxRecDepth 20000 in
theorem iX3_pairsInWay_3 : ∀ w ∈ wsX30, w ∈ wsX3_pairsInWay := by decide +kernel
set_option maxHeartbeats 4000000 in
set_option maxRecDepth 100000 in
theorem c_X3_pairsInWay (l : Launch) (D : va_G) (cI cC cH cL : ClassId) (v : Nat → Nat) (b : Nat → Nat) (z : ZZ) (lk : Bool) (pe cn rk : ZZ)  (hw : WF z) (hL : LKR z pe cn rk) : Met l yX3_pairsInWay wsX3_pairsInWay ({ frames := 1, cells := 0, slots := 0, locals := 22 }) (kp [.ref (v 0)] D (HW b cI z ++ SW v (b 0) cI (bI lk) pe cn rk) (kT cI cC cH cL)) (kr (.returned (some (.int (nI (pairsN z)))))) 0 0 (fun _ => False) := by
  refine Met.ofW (cc := cX3_pairsInWay) (maxL := 4) (ret := (some .int)) (by decide) rfl ?_
  intro p e s m args below meth c s₁ B hml hv
  obtain ⟨rfl, hP, hK⟩ := hv
  have hx := B.exec
  have hb := B.bytes
  have hrt := B.returns
  have hts := atoms_spec (ws := wsX3_pairsInWay) B.pre
  have hown : s.vm.findClass RX3 = some m.cls := findClass_of_methodNamed B.named
  have hlocks := B.notSynchronized
  have hl := lv_entry ([.ref (v 0)]) (n := 4) (Nat.le_of_ble_eq_true rfl)
  rw [lg_entry_eq]
  generalize (lg_sl ([.ref (v 0)]) ++ List.replicate (4 - (lg_sl ([.ref (v 0)])).length) Slot.unset).toArray = ls at hl ⊢
  have hl : lv_has ls 4 [(0, .ref (v 0))] := hl
  have hR10 := wf_R10 hw
  have hC4 := wf_C4 hw
  refine lv_iconst (v := nI 0) hx hb dX3_pairsInWay_0 (by decide) ?_
  refine lv_istore_n (lv' := [(1, .int (nI 0)), (0, .ref (v 0))]) hx hb dX3_pairsInWay_1 rfl hl (by decide) rfl (fun ls hl => ?_)
  refine lv_iconst (v := nI 0) hx hb dX3_pairsInWay_2 (by decide) ?_
  refine lv_istore_n (lv' := [(2, .int (nI 0)), (1, .int (nI 0)), (0, .ref (v 0))]) hx hb dX3_pairsInWay_3 rfl hl (by decide) rfl (fun ls hl => ?_)
  have e4_0 : (0 : Nat) = (sumN 0 (fun r => pairsR z r)) := by first | rfl | omega | (simp [pairsN, pairsR, sumN_s, Int32.not_lt, Int32.not_le]; done) | (simp [pairsN, pairsR, sumN_s, Int32.not_lt, Int32.not_le]; omega)
  have hl4_1 : lv_has ls 4 [(0, .ref (v 0)), (1, .int (nI (sumN 0 (fun r => pairsR z r)))), (2, .int (nI 0))] := lv_eqv (l1 := [(0, .ref (v 0)), (1, .int (nI 0)), (2, .int (nI 0))]) (lv_sub hl [2, 1, 0] rfl) (lv_ce rfl (lv_ce (congrArg (fun x => Value.int (nI x)) e4_0) (lv_ce rfl rfl)))
  refine kx_up (fun k ls => lv_has ls 4 [(0, .ref (v 0)), (1, .int (nI (sumN k (fun r => pairsR z r)))), (2, .int (nI k))]) (0) (nR z) (by omega) ls (hl4_1) ?_
  intro ir ls hirl hirh hp ih4
  have hl := hp
  refine lv_iload_n hx hb dX3_pairsInWay_4 rfl (lv_at hl 2 rfl) ?_
  refine lv_aload_n hx hb dX3_pairsInWay_5 rfl (lv_at hl 0 rfl) ?_
  refine va_get (D := D) (ci := 3) (v := .ref (b 0)) (C := RX3) (T := TX3) (N := 5) hx hb hts iX3_pairsInWay_3 hown hK hP 9 rfl rfl 0 (by decide) (hts (.fieldLink RX3 12 "HallSights$Survey" "hall" "LHallSights$Hall;") (List.mem_of_getElem? (i := 1) rfl)) (fun _ h9 => h9) rfl dX3_pairsInWay_6 ?_
  refine va_get (D := D) (ci := 0) (v := .int (z 3)) (C := RX0) (T := TX0) (N := 10) hx hb hts iX3_pairsInWay_0 hown hK hP 0 rfl rfl 0 (by decide) (hts (.fieldLink RX3 32 "HallSights$Hall" "rows" "I") (List.mem_of_getElem? (i := 2) rfl)) (fun _ h9 => h9) rfl dX3_pairsInWay_9 ?_
  refine kx_top (wf_R hw) ?_
  refine kx_icmp_ge (tgt := 67) hx hb (by omega) (by omega) dX3_pairsInWay_12 (by decide) (fun c_12_2 => ?_) (fun c_12_3 => ?_)
  · have hq4 : nR z = ir := by omega
    subst hq4
    refine lv_iload_n hx hb dX3_pairsInWay_67 rfl (lv_at hl 1 rfl) ?_
    have e_5 : (sumN (nR z) (fun r => pairsR z r) : Nat) = (pairsN z) := by first | rfl | omega | (simp [pairsN, pairsR, sumN_s, Int32.not_lt, Int32.not_le, c_12_2, Nat.not_lt.mpr c_12_2]; done) | (simp [pairsN, pairsR, sumN_s, Int32.not_lt, Int32.not_le, c_12_2, Nat.not_lt.mpr c_12_2]; omega) | (revert c_12_2; simp +contextual [pairsN, pairsR, sumN_s, Int32.not_lt, Int32.not_le]; done) | (revert c_12_2; simp +contextual [pairsN, pairsR, sumN_s, Int32.not_lt, Int32.not_le]; omega)
    exact kr_iret hx hb hrt hlocks (congrArg nI e_5) rfl dX3_pairsInWay_68
  · refine lv_iconst (v := nI 0) hx hb dX3_pairsInWay_15 (by decide) ?_
    refine lv_istore_n (lv' := [(3, .int (nI 0)), (0, .ref (v 0)), (1, .int (nI (sumN ir (fun r => pairsR z r)))), (2, .int (nI ir))]) hx hb dX3_pairsInWay_16 rfl hl (by decide) rfl (fun ls hl => ?_)
    have e17_6 : (sumN ir (fun r => pairsR z r) : Nat) = (sumN ir (fun r => pairsR z r) + sumN 0 (fun w => if tk z ir w = true then people z ir w else 0)) := by first | rfl | omega | (simp [pairsN, pairsR, sumN_s, Int32.not_lt, Int32.not_le, c_12_3, Nat.not_le.mpr c_12_3]; done) | (simp [pairsN, pairsR, sumN_s, Int32.not_lt, Int32.not_le, c_12_3, Nat.not_le.mpr c_12_3]; omega) | (revert c_12_3; simp +contextual [pairsN, pairsR, sumN_s, Int32.not_lt, Int32.not_le]; done) | (revert c_12_3; simp +contextual [pairsN, pairsR, sumN_s, Int32.not_lt, Int32.not_le]; omega)
    have hl17_7 : lv_has ls 4 [(0, .ref (v 0)), (2, .int (nI ir)), (1, .int (nI (sumN ir (fun r => pairsR z r) + sumN 0 (fun w => if tk z ir w = true then people z ir w else 0)))), (3, .int (nI 0))] := lv_eqv (l1 := [(0, .ref (v 0)), (2, .int (nI ir)), (1, .int (nI (sumN ir (fun r => pairsR z r)))), (3, .int (nI 0))]) (lv_sub hl [1, 3, 2, 0] rfl) (lv_ce rfl (lv_ce rfl (lv_ce (congrArg (fun x => Value.int (nI x)) e17_6) (lv_ce rfl rfl))))
    refine kx_up (fun k ls => lv_has ls 4 [(0, .ref (v 0)), (2, .int (nI ir)), (1, .int (nI (sumN ir (fun r => pairsR z r) + sumN k (fun w => if tk z ir w = true then people z ir w else 0)))), (3, .int (nI k))]) (0) (nS z ir) (by omega) ls (hl17_7) ?_
    intro iw ls hiwl hiwh hp ih17
    have hl := hp
    have hSi := wf_S12 hw (show ir < nR z by omega)
    refine lv_iload_n hx hb dX3_pairsInWay_17 rfl (lv_at hl 3 rfl) ?_
    refine lv_aload_n hx hb dX3_pairsInWay_18 rfl (lv_at hl 0 rfl) ?_
    refine va_get (D := D) (ci := 3) (v := .ref (b 0)) (C := RX3) (T := TX3) (N := 5) hx hb hts iX3_pairsInWay_3 hown hK hP 9 rfl rfl 0 (by decide) (hts (.fieldLink RX3 12 "HallSights$Survey" "hall" "LHallSights$Hall;") (List.mem_of_getElem? (i := 1) rfl)) (fun _ h9 => h9) rfl dX3_pairsInWay_19 ?_
    refine va_get (D := D) (ci := 0) (v := .ref (b 3)) (C := RX0) (T := TX0) (N := 10) hx hb hts iX3_pairsInWay_0 hown hK hP 0 rfl rfl 3 (by decide) (hts (.fieldLink RX3 36 "HallSights$Hall" "seats" "[I") (List.mem_of_getElem? (i := 3) rfl)) (fun _ h9 => h9) rfl dX3_pairsInWay_22 ?_
    refine lv_iload_n hx hb dX3_pairsInWay_25 rfl (lv_at hl 1 rfl) ?_
    refine kx_iald hx hb hK hP 3 0 rfl rfl (by omega) (by decide) dX3_pairsInWay_26 ?_
    refine kx_top (wf_S hw (show (ir) < nR z by omega)) ?_
    have hS12_8 := wf_S12 hw (show (ir) < nR z by omega)
    refine kx_icmp_ge (tgt := 61) hx hb (by omega) (by omega) dX3_pairsInWay_27 (by decide) (fun c_27_9 => ?_) (fun c_27_10 => ?_)
    · have hq11 : nS z ir = iw := by omega
      subst hq11
      refine lv_iinc (v := nI (ir + 1)) (lv' := [(2, .int (nI (ir + 1))), (0, .ref (v 0)), (1, .int (nI (sumN ir (fun r => pairsR z r) + sumN (nS z ir) (fun w => if tk z ir w = true then people z ir w else 0)))), (3, .int (nI (nS z ir)))]) hx hb dX3_pairsInWay_61 hl (k := 1) rfl (kx_inc 1) (by decide) rfl (fun ls hl => ?_)
      refine lv_goto (tgt := 4) hx hb dX3_pairsInWay_64 (by decide) ?_
      have e4_12 : (sumN ir (fun r => pairsR z r) + sumN (nS z ir) (fun w => if tk z ir w = true then people z ir w else 0) : Nat) = (sumN (ir + 1) (fun r => pairsR z r)) := by first | rfl | omega | (simp [pairsN, pairsR, sumN_s, Int32.not_lt, Int32.not_le, c_12_3, Nat.not_le.mpr c_12_3, c_27_9, Nat.not_lt.mpr c_27_9]; done) | (simp [pairsN, pairsR, sumN_s, Int32.not_lt, Int32.not_le, c_12_3, Nat.not_le.mpr c_12_3, c_27_9, Nat.not_lt.mpr c_27_9]; omega) | (revert c_12_3 c_27_9; simp +contextual [pairsN, pairsR, sumN_s, Int32.not_lt, Int32.not_le]; done) | (revert c_12_3 c_27_9; simp +contextual [pairsN, pairsR, sumN_s, Int32.not_lt, Int32.not_le]; omega)
      have e4_13 : (ir + 1 : Nat) = ((ir + 1)) := by first | rfl | omega | (simp [pairsN, pairsR, sumN_s, Int32.not_lt, Int32.not_le, c_12_3, Nat.not_le.mpr c_12_3, c_27_9, Nat.not_lt.mpr c_27_9]; done) | (simp [pairsN, pairsR, sumN_s, Int32.not_lt, Int32.not_le, c_12_3, Nat.not_le.mpr c_12_3, c_27_9, Nat.not_lt.mpr c_27_9]; omega) | (revert c_12_3 c_27_9; simp +contextual [pairsN, pairsR, sumN_s, Int32.not_lt, Int32.not_le]; done) | (revert c_12_3 c_27_9; simp +contextual [pairsN, pairsR, sumN_s, Int32.not_lt, Int32.not_le]; omega)
      have hl4_14 : lv_has ls 4 [(0, .ref (v 0)), (1, .int (nI (sumN (ir + 1) (fun r => pairsR z r)))), (2, .int (nI (ir + 1)))] := lv_eqv (l1 := [(0, .ref (v 0)), (1, .int (nI (sumN ir (fun r => pairsR z r) + sumN (nS z ir) (fun w => if tk z ir w = true then people z ir w else 0)))), (2, .int (nI (ir + 1)))]) (lv_sub hl [1, 2, 0] rfl) (lv_ce rfl (lv_ce (congrArg (fun x => Value.int (nI x)) e4_12) (lv_ce (congrArg (fun x => Value.int (nI x)) e4_13) rfl)))
      exact ih4 _ (by omega) (hl4_14)
    · refine lv_aload_n hx hb dX3_pairsInWay_30 rfl (lv_at hl 0 rfl) ?_
      refine va_get (D := D) (ci := 3) (v := .ref (b 0)) (C := RX3) (T := TX3) (N := 5) hx hb hts iX3_pairsInWay_3 hown hK hP 9 rfl rfl 0 (by decide) (hts (.fieldLink RX3 12 "HallSights$Survey" "hall" "LHallSights$Hall;") (List.mem_of_getElem? (i := 1) rfl)) (fun _ h9 => h9) rfl dX3_pairsInWay_31 ?_
      refine lv_iload_n hx hb dX3_pairsInWay_34 rfl (lv_at hl 1 rfl) ?_
      refine lv_iload_n hx hb dX3_pairsInWay_35 rfl (lv_at hl 3 rfl) ?_
      refine kr_V (As := [.int (nI ir), .int (nI iw)]) (rest := []) (C := RX0) (own := RX3) ⟨hx, hb, hml, hown, hts⟩ (c_X0_isTaken l D cI cC cH cL b z ir iw (by first | assumption | omega)) (cwV 2 hts gX3_pairsInWay_X0_isTaken rfl rfl rfl k_X0_isTaken ⟨Nat.le_of_ble_eq_true rfl, Nat.le_of_ble_eq_true rfl⟩) (hP.sub (ws' := (HW b cI z)) [0, 1, 2, 3, 4, 5, 6, 7, 8] rfl) hK (va_recv (q := (RX0, TX0, 10)) hK hP (ci := 0) (q0 := 0) rfl rfl) rfl hl.1 rfl (Nat.le_of_ble_eq_true rfl) dX3_pairsInWay_36 ⟨Nat.le_of_ble_eq_true rfl, Nat.le_of_ble_eq_true rfl⟩ ?_
      refine kx_if_eqb (tgt := 55) hx hb dX3_pairsInWay_39 (by decide) (fun c_39_15 => ?_) (fun c_39_16 => ?_)
      · refine lv_iinc (v := nI (iw + 1)) (lv' := [(3, .int (nI (iw + 1))), (0, .ref (v 0)), (2, .int (nI ir)), (1, .int (nI (sumN ir (fun r => pairsR z r) + sumN iw (fun w => if tk z ir w = true then people z ir w else 0))))]) hx hb dX3_pairsInWay_55 hl (k := 3) rfl (kx_inc 1) (by decide) rfl (fun ls hl => ?_)
        refine lv_goto (tgt := 17) hx hb dX3_pairsInWay_58 (by decide) ?_
        have e17_17 : (sumN ir (fun r => pairsR z r) + sumN iw (fun w => if tk z ir w = true then people z ir w else 0) : Nat) = (sumN ir (fun r => pairsR z r) + sumN (iw + 1) (fun w => if tk z ir w = true then people z ir w else 0)) := by first | rfl | omega | (simp [pairsN, pairsR, sumN_s, Int32.not_lt, Int32.not_le, c_12_3, Nat.not_le.mpr c_12_3, c_27_10, Nat.not_le.mpr c_27_10, c_39_15]; done) | (simp [pairsN, pairsR, sumN_s, Int32.not_lt, Int32.not_le, c_12_3, Nat.not_le.mpr c_12_3, c_27_10, Nat.not_le.mpr c_27_10, c_39_15]; omega) | (revert c_12_3 c_27_10 c_39_15; simp +contextual [pairsN, pairsR, sumN_s, Int32.not_lt, Int32.not_le]; done) | (revert c_12_3 c_27_10 c_39_15; simp +contextual [pairsN, pairsR, sumN_s, Int32.not_lt, Int32.not_le]; omega)
        have e17_18 : (iw + 1 : Nat) = ((iw + 1)) := by first | rfl | omega | (simp [pairsN, pairsR, sumN_s, Int32.not_lt, Int32.not_le, c_12_3, Nat.not_le.mpr c_12_3, c_27_10, Nat.not_le.mpr c_27_10, c_39_15]; done) | (simp [pairsN, pairsR, sumN_s, Int32.not_lt, Int32.not_le, c_12_3, Nat.not_le.mpr c_12_3, c_27_10, Nat.not_le.mpr c_27_10, c_39_15]; omega) | (revert c_12_3 c_27_10 c_39_15; simp +contextual [pairsN, pairsR, sumN_s, Int32.not_lt, Int32.not_le]; done) | (revert c_12_3 c_27_10 c_39_15; simp +contextual [pairsN, pairsR, sumN_s, Int32.not_lt, Int32.not_le]; omega)
        have hl17_19 : lv_has ls 4 [(0, .ref (v 0)), (2, .int (nI ir)), (1, .int (nI (sumN ir (fun r => pairsR z r) + sumN (iw + 1) (fun w => if tk z ir w = true then people z ir w else 0)))), (3, .int (nI (iw + 1)))] := lv_eqv (l1 := [(0, .ref (v 0)), (2, .int (nI ir)), (1, .int (nI (sumN ir (fun r => pairsR z r) + sumN iw (fun w => if tk z ir w = true then people z ir w else 0)))), (3, .int (nI (iw + 1)))]) (lv_sub hl [1, 2, 3, 0] rfl) (lv_ce rfl (lv_ce rfl (lv_ce (congrArg (fun x => Value.int (nI x)) e17_17) (lv_ce (congrArg (fun x => Value.int (nI x)) e17_18) rfl))))
        exact ih17 _ (by omega) (hl17_19)
      · refine lv_iload_n hx hb dX3_pairsInWay_42 rfl (lv_at hl 2 rfl) ?_
        refine lv_aload_n hx hb dX3_pairsInWay_43 rfl (lv_at hl 0 rfl) ?_
        refine va_get (D := D) (ci := 3) (v := .ref (v 1)) (C := RX3) (T := TX3) (N := 5) hx hb hts iX3_pairsInWay_3 hown hK hP 9 rfl rfl 2 (by decide) (hts (.fieldLink RX3 18 "HallSights$Survey" "people" "[I") (List.mem_of_getElem? (i := 4) rfl)) (fun _ h9 => h9) rfl dX3_pairsInWay_44 ?_
        refine lv_iload_n hx hb dX3_pairsInWay_47 rfl (lv_at hl 1 rfl) ?_
        refine lv_iload_n hx hb dX3_pairsInWay_48 rfl (lv_at hl 3 rfl) ?_
        refine kr_S (As := [.int (nI ir), .int (nI iw)]) (rest := [.ref (v 1), .int (nI (sumN ir (fun r => pairsR z r) + sumN iw (fun w => if tk z ir w = true then people z ir w else 0)))]) (own := RX3) ⟨hx, hb, hml, hown, hts⟩ (c_X3_cellOf l D cI cC cH cL  ir iw ) (va_cwS 2 hts gX3_pairsInWay_X3_cellOf rfl rfl rfl k_X3_cellOfS ⟨Nat.le_of_ble_eq_true rfl, Nat.le_of_ble_eq_true rfl⟩) (hP.sub (ws' := []) [] rfl) hK rfl hl.1 rfl (Nat.le_of_ble_eq_true rfl) dX3_pairsInWay_49 ⟨Nat.le_of_ble_eq_true rfl, Nat.le_of_ble_eq_true rfl⟩ ?_
        refine kx_iald hx hb hK hP 10 0 rfl rfl (by omega) (by decide) dX3_pairsInWay_52 ?_
        refine kx_top (show (pe (ir * 12 + iw) : Int32) = nI (people z ir iw) from by exact (hL ir iw (by omega) (by omega)).1) ?_
        refine kx_iadd hx hb dX3_pairsInWay_53 ?_
        refine lv_istore_n (lv' := [(1, .int (nI ((sumN ir (fun r => pairsR z r) + sumN iw (fun w => if tk z ir w = true then people z ir w else 0)) + (people z ir iw)))), (0, .ref (v 0)), (2, .int (nI ir)), (3, .int (nI iw))]) hx hb dX3_pairsInWay_54 rfl hl (by decide) rfl (fun ls hl => ?_)
        refine lv_iinc (v := nI (iw + 1)) (lv' := [(3, .int (nI (iw + 1))), (1, .int (nI ((sumN ir (fun r => pairsR z r) + sumN iw (fun w => if tk z ir w = true then people z ir w else 0)) + (people z ir iw)))), (0, .ref (v 0)), (2, .int (nI ir))]) hx hb dX3_pairsInWay_55 hl (k := 3) rfl (kx_inc 1) (by decide) rfl (fun ls hl => ?_)
        refine lv_goto (tgt := 17) hx hb dX3_pairsInWay_58 (by decide) ?_
        have e17_20 : ((sumN ir (fun r => pairsR z r) + sumN iw (fun w => if tk z ir w = true then people z ir w else 0)) + (people z ir iw) : Nat) = (sumN ir (fun r => pairsR z r) + sumN (iw + 1) (fun w => if tk z ir w = true then people z ir w else 0)) := by first | rfl | omega | (simp [pairsN, pairsR, sumN_s, Int32.not_lt, Int32.not_le, c_12_3, Nat.not_le.mpr c_12_3, c_27_10, Nat.not_le.mpr c_27_10, c_39_16]; done) | (simp [pairsN, pairsR, sumN_s, Int32.not_lt, Int32.not_le, c_12_3, Nat.not_le.mpr c_12_3, c_27_10, Nat.not_le.mpr c_27_10, c_39_16]; omega) | (revert c_12_3 c_27_10 c_39_16; simp +contextual [pairsN, pairsR, sumN_s, Int32.not_lt, Int32.not_le]; done) | (revert c_12_3 c_27_10 c_39_16; simp +contextual [pairsN, pairsR, sumN_s, Int32.not_lt, Int32.not_le]; omega)
        have e17_21 : (iw + 1 : Nat) = ((iw + 1)) := by first | rfl | omega | (simp [pairsN, pairsR, sumN_s, Int32.not_lt, Int32.not_le, c_12_3, Nat.not_le.mpr c_12_3, c_27_10, Nat.not_le.mpr c_27_10, c_39_16]; done) | (simp [pairsN, pairsR, sumN_s, Int32.not_lt, Int32.not_le, c_12_3, Nat.not_le.mpr c_12_3, c_27_10, Nat.not_le.mpr c_27_10, c_39_16]; omega) | (revert c_12_3 c_27_10 c_39_16; simp +contextual [pairsN, pairsR, sumN_s, Int32.not_lt, Int32.not_le]; done) | (revert c_12_3 c_27_10 c_39_16; simp +contextual [pairsN, pairsR, sumN_s, Int32.not_lt, Int32.not_le]; omega)
        have hl17_22 : lv_has ls 4 [(0, .ref (v 0)), (2, .int (nI ir)), (1, .int (nI (sumN ir (fun r => pairsR z r) + sumN (iw + 1) (fun w => if tk z ir w = true then people z ir w else 0)))), (3, .int (nI (iw + 1)))] := lv_eqv (l1 := [(0, .ref (v 0)), (2, .int (nI ir)), (1, .int (nI ((sumN ir (fun r => pairsR z r) + sumN iw (fun w => if tk z ir w = true then people z ir w else 0)) + (people z ir iw)))), (3, .int (nI (iw + 1)))]) (lv_sub hl [2, 3, 1, 0] rfl) (lv_ce rfl (lv_ce rfl (lv_ce (congrArg (fun x => Value.int (nI x)) e17_20) (lv_ce (congrArg (fun x => Value.int (nI x)) e17_21) rfl))))
        exact ih17 _ (by omega) (hl17_22)
set_option maxRecDepth 20000 in
theorem iX3_placeOf_0 : ∀ w ∈ wsX00, w ∈ wsX3_placeOf := by decide +kernel
set_option maxRecDepth 20000 in
theorem iX3_placeOf_3 : ∀ w ∈ wsX30, w ∈ wsX3_placeOf := by decide +kernel
set_option maxHeartbeats 4000000 in
set_option maxRecDepth 100000 in
theorem c_X3_placeOf (l : Launch) (D : va_G) (cI cC cH cL : ClassId) (v : Nat → Nat) (b : Nat → Nat) (z : ZZ) (lk : Bool) (pe cn rk : ZZ) (r0 : Nat) (s0 : Nat) (t0 : Bool) (hw : WF z) (hr : r0 < nR z) (hs : s0 < nS z r0) (hL : LKR z pe cn rk) : Met l yX3_placeOf wsX3_placeOf ({ frames := 1, cells := 0, slots := 0, locals := 22 }) (kp [.ref (v 0), .int (nI r0), .int (nI s0), .int (bI t0)] D (HW b cI z ++ SW v (b 0) cI (bI lk) pe cn rk) (kT cI cC cH cL)) (kr (.returned (some (.int (nI (plc z r0 s0 t0)))))) 0 0 (fun _ => False) := by
  refine Met.ofW (cc := cX3_placeOf) (maxL := 9) (ret := (some .int)) (by decide) rfl ?_
  intro p e s m args below meth c s₁ B hml hv
  obtain ⟨rfl, hP, hK⟩ := hv
  have hx := B.exec
  have hb := B.bytes
  have hrt := B.returns
  have hts := atoms_spec (ws := wsX3_placeOf) B.pre
  have hown : s.vm.findClass RX3 = some m.cls := findClass_of_methodNamed B.named
  have hlocks := B.notSynchronized
  have hl := lv_entry ([.ref (v 0), .int (nI r0), .int (nI s0), .int (bI t0)]) (n := 9) (Nat.le_of_ble_eq_true rfl)
  rw [lg_entry_eq]
  generalize (lg_sl ([.ref (v 0), .int (nI r0), .int (nI s0), .int (bI t0)]) ++ List.replicate (9 - (lg_sl ([.ref (v 0), .int (nI r0), .int (nI s0), .int (bI t0)])).length) Slot.unset).toArray = ls at hl ⊢
  have hl : lv_has ls 9 [(0, .ref (v 0)), (1, .int (nI r0)), (2, .int (nI s0)), (3, .int (bI t0))] := hl
  have hR10 := wf_R10 hw
  have hC4 := wf_C4 hw
  have hS0 := wf_S12 hw hr
  have hrk := rk_b hw hr hs
  refine lv_aload_n hx hb dX3_placeOf_0 rfl (lv_at hl 0 rfl) ?_
  refine va_get (D := D) (ci := 3) (v := .ref (v 3)) (C := RX3) (T := TX3) (N := 5) hx hb hts iX3_placeOf_3 hown hK hP 9 rfl rfl 4 (by decide) (hts (.fieldLink RX3 25 "HallSights$Survey" "ranks" "[I") (List.mem_of_getElem? (i := 1) rfl)) (fun _ h9 => h9) rfl dX3_placeOf_1 ?_
  refine lv_iload_n hx hb dX3_placeOf_4 rfl (lv_at hl 1 rfl) ?_
  refine lv_iload_n hx hb dX3_placeOf_5 rfl (lv_at hl 2 rfl) ?_
  refine kr_S (As := [.int (nI r0), .int (nI s0)]) (rest := [.ref (v 3)]) (own := RX3) ⟨hx, hb, hml, hown, hts⟩ (c_X3_cellOf l D cI cC cH cL  r0 s0 ) (va_cwS 2 hts gX3_placeOf_X3_cellOf rfl rfl rfl k_X3_cellOfS ⟨Nat.le_of_ble_eq_true rfl, Nat.le_of_ble_eq_true rfl⟩) (hP.sub (ws' := []) [] rfl) hK rfl hl.1 rfl (Nat.le_of_ble_eq_true rfl) dX3_placeOf_6 ⟨Nat.le_of_ble_eq_true rfl, Nat.le_of_ble_eq_true rfl⟩ ?_
  refine kx_iald hx hb hK hP 12 0 rfl rfl (by omega) (by decide) dX3_placeOf_9 ?_
  refine kx_top (show (rk (r0 * 12 + s0) : Int32) = nI (rkN z r0 s0) from by exact (hL r0 s0 hr hs).2.2) ?_
  refine lv_istore (lv' := [(4, .int (nI (rkN z r0 s0))), (0, .ref (v 0)), (1, .int (nI r0)), (2, .int (nI s0)), (3, .int (bI t0))]) hx hb dX3_placeOf_10 hl (by decide) rfl (fun ls hl => ?_)
  refine lv_iconst (v := nI 0) hx hb dX3_placeOf_12 (by decide) ?_
  refine lv_istore (lv' := [(5, .int (nI 0)), (4, .int (nI (rkN z r0 s0))), (0, .ref (v 0)), (1, .int (nI r0)), (2, .int (nI s0)), (3, .int (bI t0))]) hx hb dX3_placeOf_13 hl (by decide) rfl (fun ls hl => ?_)
  refine lv_iconst (v := nI 0) hx hb dX3_placeOf_15 (by decide) ?_
  refine lv_istore (lv' := [(6, .int (nI 0)), (5, .int (nI 0)), (4, .int (nI (rkN z r0 s0))), (0, .ref (v 0)), (1, .int (nI r0)), (2, .int (nI s0)), (3, .int (bI t0))]) hx hb dX3_placeOf_16 hl (by decide) rfl (fun ls hl => ?_)
  have e18_0 : (0 : Nat) = (sumN 0 (fun o => plcR z r0 s0 t0 o)) := by first | rfl | omega | (simp [plc, plcR, sumN_s, b2, Int32.not_lt, Int32.not_le]; done) | (simp [plc, plcR, sumN_s, b2, Int32.not_lt, Int32.not_le]; omega)
  have hl18_1 : lv_has ls 9 [(4, .int (nI (rkN z r0 s0))), (0, .ref (v 0)), (1, .int (nI r0)), (2, .int (nI s0)), (3, .int (bI t0)), (5, .int (nI (sumN 0 (fun o => plcR z r0 s0 t0 o)))), (6, .int (nI 0))] := lv_eqv (l1 := [(4, .int (nI (rkN z r0 s0))), (0, .ref (v 0)), (1, .int (nI r0)), (2, .int (nI s0)), (3, .int (bI t0)), (5, .int (nI 0)), (6, .int (nI 0))]) (lv_sub hl [2, 3, 4, 5, 6, 1, 0] rfl) (lv_ce rfl (lv_ce rfl (lv_ce rfl (lv_ce rfl (lv_ce rfl (lv_ce (congrArg (fun x => Value.int (nI x)) e18_0) (lv_ce rfl rfl)))))))
  refine kx_up (fun k ls => lv_has ls 9 [(4, .int (nI (rkN z r0 s0))), (0, .ref (v 0)), (1, .int (nI r0)), (2, .int (nI s0)), (3, .int (bI t0)), (5, .int (nI (sumN k (fun o => plcR z r0 s0 t0 o)))), (6, .int (nI k))]) (0) (nR z) (by omega) ls (hl18_1) ?_
  intro ir ls hirl hirh hp ih18
  have hl := hp
  refine lv_iload hx hb dX3_placeOf_18 (lv_at hl 6 rfl) ?_
  refine lv_aload_n hx hb dX3_placeOf_20 rfl (lv_at hl 1 rfl) ?_
  refine va_get (D := D) (ci := 3) (v := .ref (b 0)) (C := RX3) (T := TX3) (N := 5) hx hb hts iX3_placeOf_3 hown hK hP 9 rfl rfl 0 (by decide) (hts (.fieldLink RX3 12 "HallSights$Survey" "hall" "LHallSights$Hall;") (List.mem_of_getElem? (i := 2) rfl)) (fun _ h9 => h9) rfl dX3_placeOf_21 ?_
  refine va_get (D := D) (ci := 0) (v := .int (z 3)) (C := RX0) (T := TX0) (N := 10) hx hb hts iX3_placeOf_0 hown hK hP 0 rfl rfl 0 (by decide) (hts (.fieldLink RX3 32 "HallSights$Hall" "rows" "I") (List.mem_of_getElem? (i := 3) rfl)) (fun _ h9 => h9) rfl dX3_placeOf_24 ?_
  refine kx_top (wf_R hw) ?_
  refine kx_icmp_ge (tgt := 110) hx hb (by omega) (by omega) dX3_placeOf_27 (by decide) (fun c_27_2 => ?_) (fun c_27_3 => ?_)
  · have hq4 : nR z = ir := by omega
    subst hq4
    refine lv_iload hx hb dX3_placeOf_110 (lv_at hl 5 rfl) ?_
    have e_5 : (sumN (nR z) (fun o => plcR z r0 s0 t0 o) : Nat) = (plc z r0 s0 t0) := by first | rfl | omega | (simp [plc, plcR, sumN_s, b2, Int32.not_lt, Int32.not_le, c_27_2, Nat.not_lt.mpr c_27_2]; done) | (simp [plc, plcR, sumN_s, b2, Int32.not_lt, Int32.not_le, c_27_2, Nat.not_lt.mpr c_27_2]; omega) | (revert c_27_2; simp +contextual [plc, plcR, sumN_s, b2, Int32.not_lt, Int32.not_le]; done) | (revert c_27_2; simp +contextual [plc, plcR, sumN_s, b2, Int32.not_lt, Int32.not_le]; omega)
    exact kr_iret hx hb hrt hlocks (congrArg nI e_5) rfl dX3_placeOf_112
  · refine lv_iconst (v := nI 0) hx hb dX3_placeOf_30 (by decide) ?_
    refine lv_istore (lv' := [(7, .int (nI 0)), (4, .int (nI (rkN z r0 s0))), (0, .ref (v 0)), (1, .int (nI r0)), (2, .int (nI s0)), (3, .int (bI t0)), (5, .int (nI (sumN ir (fun o => plcR z r0 s0 t0 o)))), (6, .int (nI ir))]) hx hb dX3_placeOf_31 hl (by decide) rfl (fun ls hl => ?_)
    have e33_6 : (sumN ir (fun o => plcR z r0 s0 t0 o) : Nat) = (sumN ir (fun o => plcR z r0 s0 t0 o) + sumN 0 (fun k => b2 ((!t0 || !tk z ir k) && decide (rkN z ir k < rkN z r0 s0)))) := by first | rfl | omega | (simp [plc, plcR, sumN_s, b2, Int32.not_lt, Int32.not_le, c_27_3, Nat.not_le.mpr c_27_3]; done) | (simp [plc, plcR, sumN_s, b2, Int32.not_lt, Int32.not_le, c_27_3, Nat.not_le.mpr c_27_3]; omega) | (revert c_27_3; simp +contextual [plc, plcR, sumN_s, b2, Int32.not_lt, Int32.not_le]; done) | (revert c_27_3; simp +contextual [plc, plcR, sumN_s, b2, Int32.not_lt, Int32.not_le]; omega)
    have hl33_7 : lv_has ls 9 [(4, .int (nI (rkN z r0 s0))), (0, .ref (v 0)), (1, .int (nI r0)), (2, .int (nI s0)), (3, .int (bI t0)), (6, .int (nI ir)), (5, .int (nI (sumN ir (fun o => plcR z r0 s0 t0 o) + sumN 0 (fun k => b2 ((!t0 || !tk z ir k) && decide (rkN z ir k < rkN z r0 s0)))))), (7, .int (nI 0))] := lv_eqv (l1 := [(4, .int (nI (rkN z r0 s0))), (0, .ref (v 0)), (1, .int (nI r0)), (2, .int (nI s0)), (3, .int (bI t0)), (6, .int (nI ir)), (5, .int (nI (sumN ir (fun o => plcR z r0 s0 t0 o)))), (7, .int (nI 0))]) (lv_sub hl [1, 2, 3, 4, 5, 7, 6, 0] rfl) (lv_ce rfl (lv_ce rfl (lv_ce rfl (lv_ce rfl (lv_ce rfl (lv_ce rfl (lv_ce (congrArg (fun x => Value.int (nI x)) e33_6) (lv_ce rfl rfl))))))))
    refine kx_up (fun k ls => lv_has ls 9 [(4, .int (nI (rkN z r0 s0))), (0, .ref (v 0)), (1, .int (nI r0)), (2, .int (nI s0)), (3, .int (bI t0)), (6, .int (nI ir)), (5, .int (nI (sumN ir (fun o => plcR z r0 s0 t0 o) + sumN k (fun k => b2 ((!t0 || !tk z ir k) && decide (rkN z ir k < rkN z r0 s0)))))), (7, .int (nI k))]) (0) (nS z ir) (by omega) ls (hl33_7) ?_
    intro iw ls hiwl hiwh hp ih33
    have hl := hp
    have hSi := wf_S12 hw (show ir < nR z by omega)
    refine lv_iload hx hb dX3_placeOf_33 (lv_at hl 7 rfl) ?_
    refine lv_aload_n hx hb dX3_placeOf_35 rfl (lv_at hl 1 rfl) ?_
    refine va_get (D := D) (ci := 3) (v := .ref (b 0)) (C := RX3) (T := TX3) (N := 5) hx hb hts iX3_placeOf_3 hown hK hP 9 rfl rfl 0 (by decide) (hts (.fieldLink RX3 12 "HallSights$Survey" "hall" "LHallSights$Hall;") (List.mem_of_getElem? (i := 2) rfl)) (fun _ h9 => h9) rfl dX3_placeOf_36 ?_
    refine va_get (D := D) (ci := 0) (v := .ref (b 3)) (C := RX0) (T := TX0) (N := 10) hx hb hts iX3_placeOf_0 hown hK hP 0 rfl rfl 3 (by decide) (hts (.fieldLink RX3 36 "HallSights$Hall" "seats" "[I") (List.mem_of_getElem? (i := 4) rfl)) (fun _ h9 => h9) rfl dX3_placeOf_39 ?_
    refine lv_iload hx hb dX3_placeOf_42 (lv_at hl 5 rfl) ?_
    refine kx_iald hx hb hK hP 3 0 rfl rfl (by omega) (by decide) dX3_placeOf_44 ?_
    refine kx_top (wf_S hw (show (ir) < nR z by omega)) ?_
    have hS12_8 := wf_S12 hw (show (ir) < nR z by omega)
    refine kx_icmp_ge (tgt := 104) hx hb (by omega) (by omega) dX3_placeOf_45 (by decide) (fun c_45_9 => ?_) (fun c_45_10 => ?_)
    · have hq11 : nS z ir = iw := by omega
      subst hq11
      refine lv_iinc (v := nI (ir + 1)) (lv' := [(6, .int (nI (ir + 1))), (4, .int (nI (rkN z r0 s0))), (0, .ref (v 0)), (1, .int (nI r0)), (2, .int (nI s0)), (3, .int (bI t0)), (5, .int (nI (sumN ir (fun o => plcR z r0 s0 t0 o) + sumN (nS z ir) (fun k => b2 ((!t0 || !tk z ir k) && decide (rkN z ir k < rkN z r0 s0)))))), (7, .int (nI (nS z ir)))]) hx hb dX3_placeOf_104 hl (k := 5) rfl (kx_inc 1) (by decide) rfl (fun ls hl => ?_)
      refine lv_goto (tgt := 18) hx hb dX3_placeOf_107 (by decide) ?_
      have e18_12 : (sumN ir (fun o => plcR z r0 s0 t0 o) + sumN (nS z ir) (fun k => b2 ((!t0 || !tk z ir k) && decide (rkN z ir k < rkN z r0 s0))) : Nat) = (sumN (ir + 1) (fun o => plcR z r0 s0 t0 o)) := by first | rfl | omega | (simp [plc, plcR, sumN_s, b2, Int32.not_lt, Int32.not_le, c_27_3, Nat.not_le.mpr c_27_3, c_45_9, Nat.not_lt.mpr c_45_9]; done) | (simp [plc, plcR, sumN_s, b2, Int32.not_lt, Int32.not_le, c_27_3, Nat.not_le.mpr c_27_3, c_45_9, Nat.not_lt.mpr c_45_9]; omega) | (revert c_27_3 c_45_9; simp +contextual [plc, plcR, sumN_s, b2, Int32.not_lt, Int32.not_le]; done) | (revert c_27_3 c_45_9; simp +contextual [plc, plcR, sumN_s, b2, Int32.not_lt, Int32.not_le]; omega)
      have e18_13 : (ir + 1 : Nat) = ((ir + 1)) := by first | rfl | omega | (simp [plc, plcR, sumN_s, b2, Int32.not_lt, Int32.not_le, c_27_3, Nat.not_le.mpr c_27_3, c_45_9, Nat.not_lt.mpr c_45_9]; done) | (simp [plc, plcR, sumN_s, b2, Int32.not_lt, Int32.not_le, c_27_3, Nat.not_le.mpr c_27_3, c_45_9, Nat.not_lt.mpr c_45_9]; omega) | (revert c_27_3 c_45_9; simp +contextual [plc, plcR, sumN_s, b2, Int32.not_lt, Int32.not_le]; done) | (revert c_27_3 c_45_9; simp +contextual [plc, plcR, sumN_s, b2, Int32.not_lt, Int32.not_le]; omega)
      have hl18_14 : lv_has ls 9 [(4, .int (nI (rkN z r0 s0))), (0, .ref (v 0)), (1, .int (nI r0)), (2, .int (nI s0)), (3, .int (bI t0)), (5, .int (nI (sumN (ir + 1) (fun o => plcR z r0 s0 t0 o)))), (6, .int (nI (ir + 1)))] := lv_eqv (l1 := [(4, .int (nI (rkN z r0 s0))), (0, .ref (v 0)), (1, .int (nI r0)), (2, .int (nI s0)), (3, .int (bI t0)), (5, .int (nI (sumN ir (fun o => plcR z r0 s0 t0 o) + sumN (nS z ir) (fun k => b2 ((!t0 || !tk z ir k) && decide (rkN z ir k < rkN z r0 s0)))))), (6, .int (nI (ir + 1)))]) (lv_sub hl [1, 2, 3, 4, 5, 6, 0] rfl) (lv_ce rfl (lv_ce rfl (lv_ce rfl (lv_ce rfl (lv_ce rfl (lv_ce (congrArg (fun x => Value.int (nI x)) e18_12) (lv_ce (congrArg (fun x => Value.int (nI x)) e18_13) rfl)))))))
      exact ih18 _ (by omega) (hl18_14)
    · refine lv_iload_n hx hb dX3_placeOf_48 rfl (lv_at hl 4 rfl) ?_
      refine kx_if_eqb (tgt := 66) hx hb dX3_placeOf_49 (by decide) (fun c_49_15 => ?_) (fun c_49_16 => ?_)
      · refine lv_iconst (v := nI 1) hx hb dX3_placeOf_66 (by decide) ?_
        refine lv_goto (tgt := 71) hx hb dX3_placeOf_67 (by decide) ?_
        refine lv_istore (lv' := [(8, .int (nI 1)), (4, .int (nI (rkN z r0 s0))), (0, .ref (v 0)), (1, .int (nI r0)), (2, .int (nI s0)), (3, .int (bI t0)), (6, .int (nI ir)), (5, .int (nI (sumN ir (fun o => plcR z r0 s0 t0 o) + sumN iw (fun k => b2 ((!t0 || !tk z ir k) && decide (rkN z ir k < rkN z r0 s0)))))), (7, .int (nI iw))]) hx hb dX3_placeOf_71 hl (by decide) rfl (fun ls hl => ?_)
        refine lv_iload hx hb dX3_placeOf_73 (lv_at hl 0 rfl) ?_
        refine kx_if_eq (tgt := 98) hx hb (by omega) dX3_placeOf_75 (by decide) (fun c => absurd c (by omega)) (fun c_75_17 => ?_)
        have hrk2 := rk_b hw (show ir < nR z by omega) (show iw < nS z ir by omega)
        refine lv_aload_n hx hb dX3_placeOf_78 rfl (lv_at hl 2 rfl) ?_
        refine va_get (D := D) (ci := 3) (v := .ref (v 3)) (C := RX3) (T := TX3) (N := 5) hx hb hts iX3_placeOf_3 hown hK hP 9 rfl rfl 4 (by decide) (hts (.fieldLink RX3 25 "HallSights$Survey" "ranks" "[I") (List.mem_of_getElem? (i := 1) rfl)) (fun _ h9 => h9) rfl dX3_placeOf_79 ?_
        refine lv_iload hx hb dX3_placeOf_82 (lv_at hl 6 rfl) ?_
        refine lv_iload hx hb dX3_placeOf_84 (lv_at hl 8 rfl) ?_
        refine kr_S (As := [.int (nI ir), .int (nI iw)]) (rest := [.ref (v 3)]) (own := RX3) ⟨hx, hb, hml, hown, hts⟩ (c_X3_cellOf l D cI cC cH cL  ir iw ) (va_cwS 2 hts gX3_placeOf_X3_cellOf rfl rfl rfl k_X3_cellOfS ⟨Nat.le_of_ble_eq_true rfl, Nat.le_of_ble_eq_true rfl⟩) (hP.sub (ws' := []) [] rfl) hK rfl hl.1 rfl (Nat.le_of_ble_eq_true rfl) dX3_placeOf_86 ⟨Nat.le_of_ble_eq_true rfl, Nat.le_of_ble_eq_true rfl⟩ ?_
        refine kx_iald hx hb hK hP 12 0 rfl rfl (by omega) (by decide) dX3_placeOf_89 ?_
        refine kx_top (show (rk (ir * 12 + iw) : Int32) = nI (rkN z ir iw) from by exact (hL ir iw (by omega) (by omega)).2.2) ?_
        refine lv_iload hx hb dX3_placeOf_90 (lv_at hl 1 rfl) ?_
        refine kx_icmp_ge (tgt := 98) hx hb (by omega) (by omega) dX3_placeOf_92 (by decide) (fun c_92_18 => ?_) (fun c_92_19 => ?_)
        · refine lv_iinc (v := nI (iw + 1)) (lv' := [(7, .int (nI (iw + 1))), (8, .int (nI 1)), (4, .int (nI (rkN z r0 s0))), (0, .ref (v 0)), (1, .int (nI r0)), (2, .int (nI s0)), (3, .int (bI t0)), (6, .int (nI ir)), (5, .int (nI (sumN ir (fun o => plcR z r0 s0 t0 o) + sumN iw (fun k => b2 ((!t0 || !tk z ir k) && decide (rkN z ir k < rkN z r0 s0))))))]) hx hb dX3_placeOf_98 hl (k := 8) rfl (kx_inc 1) (by decide) rfl (fun ls hl => ?_)
          refine lv_goto (tgt := 33) hx hb dX3_placeOf_101 (by decide) ?_
          have e33_20 : (sumN ir (fun o => plcR z r0 s0 t0 o) + sumN iw (fun k => b2 ((!t0 || !tk z ir k) && decide (rkN z ir k < rkN z r0 s0))) : Nat) = (sumN ir (fun o => plcR z r0 s0 t0 o) + sumN (iw + 1) (fun k => b2 ((!t0 || !tk z ir k) && decide (rkN z ir k < rkN z r0 s0)))) := by first | rfl | omega | (simp [plc, plcR, sumN_s, b2, Int32.not_lt, Int32.not_le, c_27_3, Nat.not_le.mpr c_27_3, c_45_10, Nat.not_le.mpr c_45_10, c_49_15, c_92_18, Nat.not_lt.mpr c_92_18]; done) | (simp [plc, plcR, sumN_s, b2, Int32.not_lt, Int32.not_le, c_27_3, Nat.not_le.mpr c_27_3, c_45_10, Nat.not_le.mpr c_45_10, c_49_15, c_92_18, Nat.not_lt.mpr c_92_18]; omega) | (revert c_27_3 c_45_10 c_49_15 c_92_18; simp +contextual [plc, plcR, sumN_s, b2, Int32.not_lt, Int32.not_le]; done) | (revert c_27_3 c_45_10 c_49_15 c_92_18; simp +contextual [plc, plcR, sumN_s, b2, Int32.not_lt, Int32.not_le]; omega)
          have e33_21 : (iw + 1 : Nat) = ((iw + 1)) := by first | rfl | omega | (simp [plc, plcR, sumN_s, b2, Int32.not_lt, Int32.not_le, c_27_3, Nat.not_le.mpr c_27_3, c_45_10, Nat.not_le.mpr c_45_10, c_49_15, c_92_18, Nat.not_lt.mpr c_92_18]; done) | (simp [plc, plcR, sumN_s, b2, Int32.not_lt, Int32.not_le, c_27_3, Nat.not_le.mpr c_27_3, c_45_10, Nat.not_le.mpr c_45_10, c_49_15, c_92_18, Nat.not_lt.mpr c_92_18]; omega) | (revert c_27_3 c_45_10 c_49_15 c_92_18; simp +contextual [plc, plcR, sumN_s, b2, Int32.not_lt, Int32.not_le]; done) | (revert c_27_3 c_45_10 c_49_15 c_92_18; simp +contextual [plc, plcR, sumN_s, b2, Int32.not_lt, Int32.not_le]; omega)
          have hl33_22 : lv_has ls 9 [(4, .int (nI (rkN z r0 s0))), (0, .ref (v 0)), (1, .int (nI r0)), (2, .int (nI s0)), (3, .int (bI t0)), (6, .int (nI ir)), (5, .int (nI (sumN ir (fun o => plcR z r0 s0 t0 o) + sumN (iw + 1) (fun k => b2 ((!t0 || !tk z ir k) && decide (rkN z ir k < rkN z r0 s0)))))), (7, .int (nI (iw + 1)))] := lv_eqv (l1 := [(4, .int (nI (rkN z r0 s0))), (0, .ref (v 0)), (1, .int (nI r0)), (2, .int (nI s0)), (3, .int (bI t0)), (6, .int (nI ir)), (5, .int (nI (sumN ir (fun o => plcR z r0 s0 t0 o) + sumN iw (fun k => b2 ((!t0 || !tk z ir k) && decide (rkN z ir k < rkN z r0 s0)))))), (7, .int (nI (iw + 1)))]) (lv_sub hl [2, 3, 4, 5, 6, 7, 8, 0] rfl) (lv_ce rfl (lv_ce rfl (lv_ce rfl (lv_ce rfl (lv_ce rfl (lv_ce rfl (lv_ce (congrArg (fun x => Value.int (nI x)) e33_20) (lv_ce (congrArg (fun x => Value.int (nI x)) e33_21) rfl))))))))
          exact ih33 _ (by omega) (hl33_22)
        · refine lv_iinc (v := nI ((sumN ir (fun o => plcR z r0 s0 t0 o) + sumN iw (fun k => b2 ((!t0 || !tk z ir k) && decide (rkN z ir k < rkN z r0 s0)))) + 1)) (lv' := [(5, .int (nI ((sumN ir (fun o => plcR z r0 s0 t0 o) + sumN iw (fun k => b2 ((!t0 || !tk z ir k) && decide (rkN z ir k < rkN z r0 s0)))) + 1))), (8, .int (nI 1)), (4, .int (nI (rkN z r0 s0))), (0, .ref (v 0)), (1, .int (nI r0)), (2, .int (nI s0)), (3, .int (bI t0)), (6, .int (nI ir)), (7, .int (nI iw))]) hx hb dX3_placeOf_95 hl (k := 7) rfl (kx_inc 1) (by decide) rfl (fun ls hl => ?_)
          refine lv_iinc (v := nI (iw + 1)) (lv' := [(7, .int (nI (iw + 1))), (5, .int (nI ((sumN ir (fun o => plcR z r0 s0 t0 o) + sumN iw (fun k => b2 ((!t0 || !tk z ir k) && decide (rkN z ir k < rkN z r0 s0)))) + 1))), (8, .int (nI 1)), (4, .int (nI (rkN z r0 s0))), (0, .ref (v 0)), (1, .int (nI r0)), (2, .int (nI s0)), (3, .int (bI t0)), (6, .int (nI ir))]) hx hb dX3_placeOf_98 hl (k := 8) rfl (kx_inc 1) (by decide) rfl (fun ls hl => ?_)
          refine lv_goto (tgt := 33) hx hb dX3_placeOf_101 (by decide) ?_
          have e33_23 : ((sumN ir (fun o => plcR z r0 s0 t0 o) + sumN iw (fun k => b2 ((!t0 || !tk z ir k) && decide (rkN z ir k < rkN z r0 s0)))) + 1 : Nat) = (sumN ir (fun o => plcR z r0 s0 t0 o) + sumN (iw + 1) (fun k => b2 ((!t0 || !tk z ir k) && decide (rkN z ir k < rkN z r0 s0)))) := by first | rfl | omega | (simp [plc, plcR, sumN_s, b2, Int32.not_lt, Int32.not_le, c_27_3, Nat.not_le.mpr c_27_3, c_45_10, Nat.not_le.mpr c_45_10, c_49_15, c_92_19, Nat.not_le.mpr c_92_19]; done) | (simp [plc, plcR, sumN_s, b2, Int32.not_lt, Int32.not_le, c_27_3, Nat.not_le.mpr c_27_3, c_45_10, Nat.not_le.mpr c_45_10, c_49_15, c_92_19, Nat.not_le.mpr c_92_19]; omega) | (revert c_27_3 c_45_10 c_49_15 c_92_19; simp +contextual [plc, plcR, sumN_s, b2, Int32.not_lt, Int32.not_le]; done) | (revert c_27_3 c_45_10 c_49_15 c_92_19; simp +contextual [plc, plcR, sumN_s, b2, Int32.not_lt, Int32.not_le]; omega)
          have e33_24 : (iw + 1 : Nat) = ((iw + 1)) := by first | rfl | omega | (simp [plc, plcR, sumN_s, b2, Int32.not_lt, Int32.not_le, c_27_3, Nat.not_le.mpr c_27_3, c_45_10, Nat.not_le.mpr c_45_10, c_49_15, c_92_19, Nat.not_le.mpr c_92_19]; done) | (simp [plc, plcR, sumN_s, b2, Int32.not_lt, Int32.not_le, c_27_3, Nat.not_le.mpr c_27_3, c_45_10, Nat.not_le.mpr c_45_10, c_49_15, c_92_19, Nat.not_le.mpr c_92_19]; omega) | (revert c_27_3 c_45_10 c_49_15 c_92_19; simp +contextual [plc, plcR, sumN_s, b2, Int32.not_lt, Int32.not_le]; done) | (revert c_27_3 c_45_10 c_49_15 c_92_19; simp +contextual [plc, plcR, sumN_s, b2, Int32.not_lt, Int32.not_le]; omega)
          have hl33_25 : lv_has ls 9 [(4, .int (nI (rkN z r0 s0))), (0, .ref (v 0)), (1, .int (nI r0)), (2, .int (nI s0)), (3, .int (bI t0)), (6, .int (nI ir)), (5, .int (nI (sumN ir (fun o => plcR z r0 s0 t0 o) + sumN (iw + 1) (fun k => b2 ((!t0 || !tk z ir k) && decide (rkN z ir k < rkN z r0 s0)))))), (7, .int (nI (iw + 1)))] := lv_eqv (l1 := [(4, .int (nI (rkN z r0 s0))), (0, .ref (v 0)), (1, .int (nI r0)), (2, .int (nI s0)), (3, .int (bI t0)), (6, .int (nI ir)), (5, .int (nI ((sumN ir (fun o => plcR z r0 s0 t0 o) + sumN iw (fun k => b2 ((!t0 || !tk z ir k) && decide (rkN z ir k < rkN z r0 s0)))) + 1))), (7, .int (nI (iw + 1)))]) (lv_sub hl [3, 4, 5, 6, 7, 8, 1, 0] rfl) (lv_ce rfl (lv_ce rfl (lv_ce rfl (lv_ce rfl (lv_ce rfl (lv_ce rfl (lv_ce (congrArg (fun x => Value.int (nI x)) e33_23) (lv_ce (congrArg (fun x => Value.int (nI x)) e33_24) rfl))))))))
          exact ih33 _ (by omega) (hl33_25)
      · refine lv_aload_n hx hb dX3_placeOf_52 rfl (lv_at hl 1 rfl) ?_
        refine va_get (D := D) (ci := 3) (v := .ref (b 0)) (C := RX3) (T := TX3) (N := 5) hx hb hts iX3_placeOf_3 hown hK hP 9 rfl rfl 0 (by decide) (hts (.fieldLink RX3 12 "HallSights$Survey" "hall" "LHallSights$Hall;") (List.mem_of_getElem? (i := 2) rfl)) (fun _ h9 => h9) rfl dX3_placeOf_53 ?_
        refine lv_iload hx hb dX3_placeOf_56 (lv_at hl 5 rfl) ?_
        refine lv_iload hx hb dX3_placeOf_58 (lv_at hl 7 rfl) ?_
        refine kr_V (As := [.int (nI ir), .int (nI iw)]) (rest := []) (C := RX0) (own := RX3) ⟨hx, hb, hml, hown, hts⟩ (c_X0_isTaken l D cI cC cH cL b z ir iw (by first | assumption | omega)) (cwV 2 hts gX3_placeOf_X0_isTaken rfl rfl rfl k_X0_isTaken ⟨Nat.le_of_ble_eq_true rfl, Nat.le_of_ble_eq_true rfl⟩) (hP.sub (ws' := (HW b cI z)) [0, 1, 2, 3, 4, 5, 6, 7, 8] rfl) hK (va_recv (q := (RX0, TX0, 10)) hK hP (ci := 0) (q0 := 0) rfl rfl) rfl hl.1 rfl (Nat.le_of_ble_eq_true rfl) dX3_placeOf_60 ⟨Nat.le_of_ble_eq_true rfl, Nat.le_of_ble_eq_true rfl⟩ ?_
        refine kx_if_neb (tgt := 70) hx hb dX3_placeOf_63 (by decide) (fun c_63_26 => ?_) (fun c_63_27 => ?_)
        · refine lv_iconst (v := nI 0) hx hb dX3_placeOf_70 (by decide) ?_
          refine lv_istore (lv' := [(8, .int (nI 0)), (4, .int (nI (rkN z r0 s0))), (0, .ref (v 0)), (1, .int (nI r0)), (2, .int (nI s0)), (3, .int (bI t0)), (6, .int (nI ir)), (5, .int (nI (sumN ir (fun o => plcR z r0 s0 t0 o) + sumN iw (fun k => b2 ((!t0 || !tk z ir k) && decide (rkN z ir k < rkN z r0 s0)))))), (7, .int (nI iw))]) hx hb dX3_placeOf_71 hl (by decide) rfl (fun ls hl => ?_)
          refine lv_iload hx hb dX3_placeOf_73 (lv_at hl 0 rfl) ?_
          refine kx_if_eq (tgt := 98) hx hb (by omega) dX3_placeOf_75 (by decide) (fun c_75_28 => ?_) (fun c => absurd c (by omega))
          refine lv_iinc (v := nI (iw + 1)) (lv' := [(7, .int (nI (iw + 1))), (8, .int (nI 0)), (4, .int (nI (rkN z r0 s0))), (0, .ref (v 0)), (1, .int (nI r0)), (2, .int (nI s0)), (3, .int (bI t0)), (6, .int (nI ir)), (5, .int (nI (sumN ir (fun o => plcR z r0 s0 t0 o) + sumN iw (fun k => b2 ((!t0 || !tk z ir k) && decide (rkN z ir k < rkN z r0 s0))))))]) hx hb dX3_placeOf_98 hl (k := 8) rfl (kx_inc 1) (by decide) rfl (fun ls hl => ?_)
          refine lv_goto (tgt := 33) hx hb dX3_placeOf_101 (by decide) ?_
          have e33_29 : (sumN ir (fun o => plcR z r0 s0 t0 o) + sumN iw (fun k => b2 ((!t0 || !tk z ir k) && decide (rkN z ir k < rkN z r0 s0))) : Nat) = (sumN ir (fun o => plcR z r0 s0 t0 o) + sumN (iw + 1) (fun k => b2 ((!t0 || !tk z ir k) && decide (rkN z ir k < rkN z r0 s0)))) := by first | rfl | omega | (simp [plc, plcR, sumN_s, b2, Int32.not_lt, Int32.not_le, c_27_3, Nat.not_le.mpr c_27_3, c_45_10, Nat.not_le.mpr c_45_10, c_49_16, c_63_26]; done) | (simp [plc, plcR, sumN_s, b2, Int32.not_lt, Int32.not_le, c_27_3, Nat.not_le.mpr c_27_3, c_45_10, Nat.not_le.mpr c_45_10, c_49_16, c_63_26]; omega) | (revert c_27_3 c_45_10 c_49_16 c_63_26; simp +contextual [plc, plcR, sumN_s, b2, Int32.not_lt, Int32.not_le]; done) | (revert c_27_3 c_45_10 c_49_16 c_63_26; simp +contextual [plc, plcR, sumN_s, b2, Int32.not_lt, Int32.not_le]; omega)
          have e33_30 : (iw + 1 : Nat) = ((iw + 1)) := by first | rfl | omega | (simp [plc, plcR, sumN_s, b2, Int32.not_lt, Int32.not_le, c_27_3, Nat.not_le.mpr c_27_3, c_45_10, Nat.not_le.mpr c_45_10, c_49_16, c_63_26]; done) | (simp [plc, plcR, sumN_s, b2, Int32.not_lt, Int32.not_le, c_27_3, Nat.not_le.mpr c_27_3, c_45_10, Nat.not_le.mpr c_45_10, c_49_16, c_63_26]; omega) | (revert c_27_3 c_45_10 c_49_16 c_63_26; simp +contextual [plc, plcR, sumN_s, b2, Int32.not_lt, Int32.not_le]; done) | (revert c_27_3 c_45_10 c_49_16 c_63_26; simp +contextual [plc, plcR, sumN_s, b2, Int32.not_lt, Int32.not_le]; omega)
          have hl33_31 : lv_has ls 9 [(4, .int (nI (rkN z r0 s0))), (0, .ref (v 0)), (1, .int (nI r0)), (2, .int (nI s0)), (3, .int (bI t0)), (6, .int (nI ir)), (5, .int (nI (sumN ir (fun o => plcR z r0 s0 t0 o) + sumN (iw + 1) (fun k => b2 ((!t0 || !tk z ir k) && decide (rkN z ir k < rkN z r0 s0)))))), (7, .int (nI (iw + 1)))] := lv_eqv (l1 := [(4, .int (nI (rkN z r0 s0))), (0, .ref (v 0)), (1, .int (nI r0)), (2, .int (nI s0)), (3, .int (bI t0)), (6, .int (nI ir)), (5, .int (nI (sumN ir (fun o => plcR z r0 s0 t0 o) + sumN iw (fun k => b2 ((!t0 || !tk z ir k) && decide (rkN z ir k < rkN z r0 s0)))))), (7, .int (nI (iw + 1)))]) (lv_sub hl [2, 3, 4, 5, 6, 7, 8, 0] rfl) (lv_ce rfl (lv_ce rfl (lv_ce rfl (lv_ce rfl (lv_ce rfl (lv_ce rfl (lv_ce (congrArg (fun x => Value.int (nI x)) e33_29) (lv_ce (congrArg (fun x => Value.int (nI x)) e33_30) rfl))))))))
          exact ih33 _ (by omega) (hl33_31)
        · refine lv_iconst (v := nI 1) hx hb dX3_placeOf_66 (by decide) ?_
          refine lv_goto (tgt := 71) hx hb dX3_placeOf_67 (by decide) ?_
          refine lv_istore (lv' := [(8, .int (nI 1)), (4, .int (nI (rkN z r0 s0))), (0, .ref (v 0)), (1, .int (nI r0)), (2, .int (nI s0)), (3, .int (bI t0)), (6, .int (nI ir)), (5, .int (nI (sumN ir (fun o => plcR z r0 s0 t0 o) + sumN iw (fun k => b2 ((!t0 || !tk z ir k) && decide (rkN z ir k < rkN z r0 s0)))))), (7, .int (nI iw))]) hx hb dX3_placeOf_71 hl (by decide) rfl (fun ls hl => ?_)
          refine lv_iload hx hb dX3_placeOf_73 (lv_at hl 0 rfl) ?_
          refine kx_if_eq (tgt := 98) hx hb (by omega) dX3_placeOf_75 (by decide) (fun c => absurd c (by omega)) (fun c_75_32 => ?_)
          have hrk2 := rk_b hw (show ir < nR z by omega) (show iw < nS z ir by omega)
          refine lv_aload_n hx hb dX3_placeOf_78 rfl (lv_at hl 2 rfl) ?_
          refine va_get (D := D) (ci := 3) (v := .ref (v 3)) (C := RX3) (T := TX3) (N := 5) hx hb hts iX3_placeOf_3 hown hK hP 9 rfl rfl 4 (by decide) (hts (.fieldLink RX3 25 "HallSights$Survey" "ranks" "[I") (List.mem_of_getElem? (i := 1) rfl)) (fun _ h9 => h9) rfl dX3_placeOf_79 ?_
          refine lv_iload hx hb dX3_placeOf_82 (lv_at hl 6 rfl) ?_
          refine lv_iload hx hb dX3_placeOf_84 (lv_at hl 8 rfl) ?_
          refine kr_S (As := [.int (nI ir), .int (nI iw)]) (rest := [.ref (v 3)]) (own := RX3) ⟨hx, hb, hml, hown, hts⟩ (c_X3_cellOf l D cI cC cH cL  ir iw ) (va_cwS 2 hts gX3_placeOf_X3_cellOf rfl rfl rfl k_X3_cellOfS ⟨Nat.le_of_ble_eq_true rfl, Nat.le_of_ble_eq_true rfl⟩) (hP.sub (ws' := []) [] rfl) hK rfl hl.1 rfl (Nat.le_of_ble_eq_true rfl) dX3_placeOf_86 ⟨Nat.le_of_ble_eq_true rfl, Nat.le_of_ble_eq_true rfl⟩ ?_
          refine kx_iald hx hb hK hP 12 0 rfl rfl (by omega) (by decide) dX3_placeOf_89 ?_
          refine kx_top (show (rk (ir * 12 + iw) : Int32) = nI (rkN z ir iw) from by exact (hL ir iw (by omega) (by omega)).2.2) ?_
          refine lv_iload hx hb dX3_placeOf_90 (lv_at hl 1 rfl) ?_
          refine kx_icmp_ge (tgt := 98) hx hb (by omega) (by omega) dX3_placeOf_92 (by decide) (fun c_92_33 => ?_) (fun c_92_34 => ?_)
          · refine lv_iinc (v := nI (iw + 1)) (lv' := [(7, .int (nI (iw + 1))), (8, .int (nI 1)), (4, .int (nI (rkN z r0 s0))), (0, .ref (v 0)), (1, .int (nI r0)), (2, .int (nI s0)), (3, .int (bI t0)), (6, .int (nI ir)), (5, .int (nI (sumN ir (fun o => plcR z r0 s0 t0 o) + sumN iw (fun k => b2 ((!t0 || !tk z ir k) && decide (rkN z ir k < rkN z r0 s0))))))]) hx hb dX3_placeOf_98 hl (k := 8) rfl (kx_inc 1) (by decide) rfl (fun ls hl => ?_)
            refine lv_goto (tgt := 33) hx hb dX3_placeOf_101 (by decide) ?_
            have e33_35 : (sumN ir (fun o => plcR z r0 s0 t0 o) + sumN iw (fun k => b2 ((!t0 || !tk z ir k) && decide (rkN z ir k < rkN z r0 s0))) : Nat) = (sumN ir (fun o => plcR z r0 s0 t0 o) + sumN (iw + 1) (fun k => b2 ((!t0 || !tk z ir k) && decide (rkN z ir k < rkN z r0 s0)))) := by first | rfl | omega | (simp [plc, plcR, sumN_s, b2, Int32.not_lt, Int32.not_le, c_27_3, Nat.not_le.mpr c_27_3, c_45_10, Nat.not_le.mpr c_45_10, c_49_16, c_63_27, c_92_33, Nat.not_lt.mpr c_92_33]; done) | (simp [plc, plcR, sumN_s, b2, Int32.not_lt, Int32.not_le, c_27_3, Nat.not_le.mpr c_27_3, c_45_10, Nat.not_le.mpr c_45_10, c_49_16, c_63_27, c_92_33, Nat.not_lt.mpr c_92_33]; omega) | (revert c_27_3 c_45_10 c_49_16 c_63_27 c_92_33; simp +contextual [plc, plcR, sumN_s, b2, Int32.not_lt, Int32.not_le]; done) | (revert c_27_3 c_45_10 c_49_16 c_63_27 c_92_33; simp +contextual [plc, plcR, sumN_s, b2, Int32.not_lt, Int32.not_le]; omega)
            have e33_36 : (iw + 1 : Nat) = ((iw + 1)) := by first | rfl | omega | (simp [plc, plcR, sumN_s, b2, Int32.not_lt, Int32.not_le, c_27_3, Nat.not_le.mpr c_27_3, c_45_10, Nat.not_le.mpr c_45_10, c_49_16, c_63_27, c_92_33, Nat.not_lt.mpr c_92_33]; done) | (simp [plc, plcR, sumN_s, b2, Int32.not_lt, Int32.not_le, c_27_3, Nat.not_le.mpr c_27_3, c_45_10, Nat.not_le.mpr c_45_10, c_49_16, c_63_27, c_92_33, Nat.not_lt.mpr c_92_33]; omega) | (revert c_27_3 c_45_10 c_49_16 c_63_27 c_92_33; simp +contextual [plc, plcR, sumN_s, b2, Int32.not_lt, Int32.not_le]; done) | (revert c_27_3 c_45_10 c_49_16 c_63_27 c_92_33; simp +contextual [plc, plcR, sumN_s, b2, Int32.not_lt, Int32.not_le]; omega)
            have hl33_37 : lv_has ls 9 [(4, .int (nI (rkN z r0 s0))), (0, .ref (v 0)), (1, .int (nI r0)), (2, .int (nI s0)), (3, .int (bI t0)), (6, .int (nI ir)), (5, .int (nI (sumN ir (fun o => plcR z r0 s0 t0 o) + sumN (iw + 1) (fun k => b2 ((!t0 || !tk z ir k) && decide (rkN z ir k < rkN z r0 s0)))))), (7, .int (nI (iw + 1)))] := lv_eqv (l1 := [(4, .int (nI (rkN z r0 s0))), (0, .ref (v 0)), (1, .int (nI r0)), (2, .int (nI s0)), (3, .int (bI t0)), (6, .int (nI ir)), (5, .int (nI (sumN ir (fun o => plcR z r0 s0 t0 o) + sumN iw (fun k => b2 ((!t0 || !tk z ir k) && decide (rkN z ir k < rkN z r0 s0)))))), (7, .int (nI (iw + 1)))]) (lv_sub hl [2, 3, 4, 5, 6, 7, 8, 0] rfl) (lv_ce rfl (lv_ce rfl (lv_ce rfl (lv_ce rfl (lv_ce rfl (lv_ce rfl (lv_ce (congrArg (fun x => Value.int (nI x)) e33_35) (lv_ce (congrArg (fun x => Value.int (nI x)) e33_36) rfl))))))))
            exact ih33 _ (by omega) (hl33_37)
          · refine lv_iinc (v := nI ((sumN ir (fun o => plcR z r0 s0 t0 o) + sumN iw (fun k => b2 ((!t0 || !tk z ir k) && decide (rkN z ir k < rkN z r0 s0)))) + 1)) (lv' := [(5, .int (nI ((sumN ir (fun o => plcR z r0 s0 t0 o) + sumN iw (fun k => b2 ((!t0 || !tk z ir k) && decide (rkN z ir k < rkN z r0 s0)))) + 1))), (8, .int (nI 1)), (4, .int (nI (rkN z r0 s0))), (0, .ref (v 0)), (1, .int (nI r0)), (2, .int (nI s0)), (3, .int (bI t0)), (6, .int (nI ir)), (7, .int (nI iw))]) hx hb dX3_placeOf_95 hl (k := 7) rfl (kx_inc 1) (by decide) rfl (fun ls hl => ?_)
            refine lv_iinc (v := nI (iw + 1)) (lv' := [(7, .int (nI (iw + 1))), (5, .int (nI ((sumN ir (fun o => plcR z r0 s0 t0 o) + sumN iw (fun k => b2 ((!t0 || !tk z ir k) && decide (rkN z ir k < rkN z r0 s0)))) + 1))), (8, .int (nI 1)), (4, .int (nI (rkN z r0 s0))), (0, .ref (v 0)), (1, .int (nI r0)), (2, .int (nI s0)), (3, .int (bI t0)), (6, .int (nI ir))]) hx hb dX3_placeOf_98 hl (k := 8) rfl (kx_inc 1) (by decide) rfl (fun ls hl => ?_)
            refine lv_goto (tgt := 33) hx hb dX3_placeOf_101 (by decide) ?_
            have e33_38 : ((sumN ir (fun o => plcR z r0 s0 t0 o) + sumN iw (fun k => b2 ((!t0 || !tk z ir k) && decide (rkN z ir k < rkN z r0 s0)))) + 1 : Nat) = (sumN ir (fun o => plcR z r0 s0 t0 o) + sumN (iw + 1) (fun k => b2 ((!t0 || !tk z ir k) && decide (rkN z ir k < rkN z r0 s0)))) := by first | rfl | omega | (simp [plc, plcR, sumN_s, b2, Int32.not_lt, Int32.not_le, c_27_3, Nat.not_le.mpr c_27_3, c_45_10, Nat.not_le.mpr c_45_10, c_49_16, c_63_27, c_92_34, Nat.not_le.mpr c_92_34]; done) | (simp [plc, plcR, sumN_s, b2, Int32.not_lt, Int32.not_le, c_27_3, Nat.not_le.mpr c_27_3, c_45_10, Nat.not_le.mpr c_45_10, c_49_16, c_63_27, c_92_34, Nat.not_le.mpr c_92_34]; omega) | (revert c_27_3 c_45_10 c_49_16 c_63_27 c_92_34; simp +contextual [plc, plcR, sumN_s, b2, Int32.not_lt, Int32.not_le]; done) | (revert c_27_3 c_45_10 c_49_16 c_63_27 c_92_34; simp +contextual [plc, plcR, sumN_s, b2, Int32.not_lt, Int32.not_le]; omega)
            have e33_39 : (iw + 1 : Nat) = ((iw + 1)) := by first | rfl | omega | (simp [plc, plcR, sumN_s, b2, Int32.not_lt, Int32.not_le, c_27_3, Nat.not_le.mpr c_27_3, c_45_10, Nat.not_le.mpr c_45_10, c_49_16, c_63_27, c_92_34, Nat.not_le.mpr c_92_34]; done) | (simp [plc, plcR, sumN_s, b2, Int32.not_lt, Int32.not_le, c_27_3, Nat.not_le.mpr c_27_3, c_45_10, Nat.not_le.mpr c_45_10, c_49_16, c_63_27, c_92_34, Nat.not_le.mpr c_92_34]; omega) | (revert c_27_3 c_45_10 c_49_16 c_63_27 c_92_34; simp +contextual [plc, plcR, sumN_s, b2, Int32.not_lt, Int32.not_le]; done) | (revert c_27_3 c_45_10 c_49_16 c_63_27 c_92_34; simp +contextual [plc, plcR, sumN_s, b2, Int32.not_lt, Int32.not_le]; omega)
            have hl33_40 : lv_has ls 9 [(4, .int (nI (rkN z r0 s0))), (0, .ref (v 0)), (1, .int (nI r0)), (2, .int (nI s0)), (3, .int (bI t0)), (6, .int (nI ir)), (5, .int (nI (sumN ir (fun o => plcR z r0 s0 t0 o) + sumN (iw + 1) (fun k => b2 ((!t0 || !tk z ir k) && decide (rkN z ir k < rkN z r0 s0)))))), (7, .int (nI (iw + 1)))] := lv_eqv (l1 := [(4, .int (nI (rkN z r0 s0))), (0, .ref (v 0)), (1, .int (nI r0)), (2, .int (nI s0)), (3, .int (bI t0)), (6, .int (nI ir)), (5, .int (nI ((sumN ir (fun o => plcR z r0 s0 t0 o) + sumN iw (fun k => b2 ((!t0 || !tk z ir k) && decide (rkN z ir k < rkN z r0 s0)))) + 1))), (7, .int (nI (iw + 1)))]) (lv_sub hl [3, 4, 5, 6, 7, 8, 1, 0] rfl) (lv_ce rfl (lv_ce rfl (lv_ce rfl (lv_ce rfl (lv_ce rfl (lv_ce rfl (lv_ce (congrArg (fun x => Value.int (nI x)) e33_38) (lv_ce (congrArg (fun x => Value.int (nI x)) e33_39) rfl))))))))
            exact ih33 _ (by omega) (hl33_40)
set_option maxHeartbeats 4000000 in
set_option maxRecDepth 100000 in
theorem c_X3_allInWayOfParty (l : Launch) (D : va_G) (cI cC cH cL : ClassId) (v : Nat → Nat) (b : Nat → Nat) (z : ZZ) (lk : Bool) (pe cn rk : ZZ) (r0 : Nat) (f0 : Nat) (m0 : Nat) (hw : WF z) (hr : r0 < nR z) (hm : f0 + m0 ≤ nS z r0) (hL : LKR z pe cn rk) : Met l yX3_allInWayOfParty wsX3_allInWayOfParty ({ frames := 2, cells := 0, slots := 0, locals := 44 }) (kp [.ref (v 0), .int (nI r0), .int (nI f0), .int (nI m0)] D (HW b cI z ++ SW v (b 0) cI (bI lk) pe cn rk) (kT cI cC cH cL)) (kr (.returned (some (.int (nI (sumN m0 (fun j => ways z r0 (f0 + j)))))))) 0 0 (fun _ => False) := by
  refine Met.ofW (cc := cX3_allInWayOfParty) (maxL := 6) (ret := (some .int)) (by decide) rfl ?_
  intro p e s m args below meth c s₁ B hml hv
  obtain ⟨rfl, hP, hK⟩ := hv
  have hx := B.exec
  have hb := B.bytes
  have hrt := B.returns
  have hts := atoms_spec (ws := wsX3_allInWayOfParty) B.pre
  have hown : s.vm.findClass RX3 = some m.cls := findClass_of_methodNamed B.named
  have hlocks := B.notSynchronized
  have hl := lv_entry ([.ref (v 0), .int (nI r0), .int (nI f0), .int (nI m0)]) (n := 6) (Nat.le_of_ble_eq_true rfl)
  rw [lg_entry_eq]
  generalize (lg_sl ([.ref (v 0), .int (nI r0), .int (nI f0), .int (nI m0)]) ++ List.replicate (6 - (lg_sl ([.ref (v 0), .int (nI r0), .int (nI f0), .int (nI m0)])).length) Slot.unset).toArray = ls at hl ⊢
  have hl : lv_has ls 6 [(0, .ref (v 0)), (1, .int (nI r0)), (2, .int (nI f0)), (3, .int (nI m0))] := hl
  have hR10 := wf_R10 hw
  have hC4 := wf_C4 hw
  have hS0 := wf_S12 hw hr
  refine lv_iconst (v := nI 0) hx hb dX3_allInWayOfParty_0 (by decide) ?_
  refine lv_istore (lv' := [(4, .int (nI 0)), (0, .ref (v 0)), (1, .int (nI r0)), (2, .int (nI f0)), (3, .int (nI m0))]) hx hb dX3_allInWayOfParty_1 hl (by decide) rfl (fun ls hl => ?_)
  refine lv_iload_n hx hb dX3_allInWayOfParty_3 rfl (lv_at hl 3 rfl) ?_
  refine lv_istore (lv' := [(5, .int (nI f0)), (4, .int (nI 0)), (0, .ref (v 0)), (1, .int (nI r0)), (2, .int (nI f0)), (3, .int (nI m0))]) hx hb dX3_allInWayOfParty_4 hl (by decide) rfl (fun ls hl => ?_)
  have e6_0 : (0 : Nat) = (sumN 0 (fun j => ways z r0 (f0 + j))) := by first | rfl | omega | (simp [sumN_s, Int32.not_lt, Int32.not_le]; done) | (simp [sumN_s, Int32.not_lt, Int32.not_le]; omega)
  have e6_1 : (f0 : Nat) = (f0 + 0) := by first | rfl | omega | (simp [sumN_s, Int32.not_lt, Int32.not_le]; done) | (simp [sumN_s, Int32.not_lt, Int32.not_le]; omega)
  have hl6_2 : lv_has ls 6 [(0, .ref (v 0)), (1, .int (nI r0)), (2, .int (nI f0)), (3, .int (nI m0)), (4, .int (nI (sumN 0 (fun j => ways z r0 (f0 + j))))), (5, .int (nI (f0 + 0)))] := lv_eqv (l1 := [(0, .ref (v 0)), (1, .int (nI r0)), (2, .int (nI f0)), (3, .int (nI m0)), (4, .int (nI 0)), (5, .int (nI f0))]) (lv_sub hl [2, 3, 4, 5, 1, 0] rfl) (lv_ce rfl (lv_ce rfl (lv_ce rfl (lv_ce rfl (lv_ce (congrArg (fun x => Value.int (nI x)) e6_0) (lv_ce (congrArg (fun x => Value.int (nI x)) e6_1) rfl))))))
  refine kx_up (fun k ls => lv_has ls 6 [(0, .ref (v 0)), (1, .int (nI r0)), (2, .int (nI f0)), (3, .int (nI m0)), (4, .int (nI (sumN k (fun j => ways z r0 (f0 + j))))), (5, .int (nI (f0 + k)))]) (0) (m0) (by omega) ls (hl6_2) ?_
  intro ij ls hijl hijh hp ih6
  have hl := hp
  refine lv_iload hx hb dX3_allInWayOfParty_6 (lv_at hl 5 rfl) ?_
  refine lv_iload_n hx hb dX3_allInWayOfParty_8 rfl (lv_at hl 2 rfl) ?_
  refine lv_iload_n hx hb dX3_allInWayOfParty_9 rfl (lv_at hl 3 rfl) ?_
  refine kx_iadd hx hb dX3_allInWayOfParty_10 ?_
  refine kx_icmp_ge (tgt := 32) hx hb (by omega) (by omega) dX3_allInWayOfParty_11 (by decide) (fun c_11_3 => ?_) (fun c_11_4 => ?_)
  · have hq5 : m0 = ij := by omega
    subst hq5
    refine lv_iload hx hb dX3_allInWayOfParty_32 (lv_at hl 4 rfl) ?_
    exact kr_iret hx hb hrt hlocks rfl rfl dX3_allInWayOfParty_34
  · refine lv_iload hx hb dX3_allInWayOfParty_14 (lv_at hl 4 rfl) ?_
    refine lv_aload_n hx hb dX3_allInWayOfParty_16 rfl (lv_at hl 0 rfl) ?_
    refine lv_iload_n hx hb dX3_allInWayOfParty_17 rfl (lv_at hl 1 rfl) ?_
    refine lv_iload hx hb dX3_allInWayOfParty_18 (lv_at hl 5 rfl) ?_
    refine kr_V (As := [.int (nI r0), .int (nI (f0 + ij))]) (rest := [.int (nI (sumN ij (fun j => ways z r0 (f0 + j))))]) (C := RX3) (own := RX3) ⟨hx, hb, hml, hown, hts⟩ (c_X3_allInWay l D cI cC cH cL v b z lk pe cn rk r0 (f0 + ij) (by first | assumption | omega) (by first | assumption | omega) (by first | assumption | omega) (by exact (hL r0 (f0 + ij) (by omega) (by omega)).1) (by exact (hL r0 (f0 + ij) (by omega) (by omega)).2.1)) (cwV 2 hts gX3_allInWayOfParty_X3_allInWay rfl rfl rfl k_X3_allInWay ⟨Nat.le_of_ble_eq_true rfl, Nat.le_of_ble_eq_true rfl⟩) hP hK (va_recv (q := (RX3, TX3, 5)) hK hP (ci := 3) (q0 := 9) rfl rfl) rfl hl.1 rfl (Nat.le_of_ble_eq_true rfl) dX3_allInWayOfParty_20 ⟨Nat.le_of_ble_eq_true rfl, Nat.le_of_ble_eq_true rfl⟩ ?_
    refine kx_iadd hx hb dX3_allInWayOfParty_23 ?_
    refine lv_istore (lv' := [(4, .int (nI ((sumN ij (fun j => ways z r0 (f0 + j))) + (ways z r0 (f0 + ij))))), (0, .ref (v 0)), (1, .int (nI r0)), (2, .int (nI f0)), (3, .int (nI m0)), (5, .int (nI (f0 + ij)))]) hx hb dX3_allInWayOfParty_24 hl (by decide) rfl (fun ls hl => ?_)
    refine lv_iinc (v := nI ((f0 + ij) + 1)) (lv' := [(5, .int (nI ((f0 + ij) + 1))), (4, .int (nI ((sumN ij (fun j => ways z r0 (f0 + j))) + (ways z r0 (f0 + ij))))), (0, .ref (v 0)), (1, .int (nI r0)), (2, .int (nI f0)), (3, .int (nI m0))]) hx hb dX3_allInWayOfParty_26 hl (k := 5) rfl (kx_inc 1) (by decide) rfl (fun ls hl => ?_)
    refine lv_goto (tgt := 6) hx hb dX3_allInWayOfParty_29 (by decide) ?_
    have e6_6 : ((sumN ij (fun j => ways z r0 (f0 + j))) + (ways z r0 (f0 + ij)) : Nat) = (sumN (ij + 1) (fun j => ways z r0 (f0 + j))) := by first | rfl | omega | (simp [sumN_s, Int32.not_lt, Int32.not_le, c_11_4, Nat.not_le.mpr c_11_4]; done) | (simp [sumN_s, Int32.not_lt, Int32.not_le, c_11_4, Nat.not_le.mpr c_11_4]; omega) | (revert c_11_4; simp +contextual [sumN_s, Int32.not_lt, Int32.not_le]; done) | (revert c_11_4; simp +contextual [sumN_s, Int32.not_lt, Int32.not_le]; omega)
    have e6_7 : ((f0 + ij) + 1 : Nat) = (f0 + (ij + 1)) := by first | rfl | omega | (simp [sumN_s, Int32.not_lt, Int32.not_le, c_11_4, Nat.not_le.mpr c_11_4]; done) | (simp [sumN_s, Int32.not_lt, Int32.not_le, c_11_4, Nat.not_le.mpr c_11_4]; omega) | (revert c_11_4; simp +contextual [sumN_s, Int32.not_lt, Int32.not_le]; done) | (revert c_11_4; simp +contextual [sumN_s, Int32.not_lt, Int32.not_le]; omega)
    have hl6_8 : lv_has ls 6 [(0, .ref (v 0)), (1, .int (nI r0)), (2, .int (nI f0)), (3, .int (nI m0)), (4, .int (nI (sumN (ij + 1) (fun j => ways z r0 (f0 + j))))), (5, .int (nI (f0 + (ij + 1))))] := lv_eqv (l1 := [(0, .ref (v 0)), (1, .int (nI r0)), (2, .int (nI f0)), (3, .int (nI m0)), (4, .int (nI ((sumN ij (fun j => ways z r0 (f0 + j))) + (ways z r0 (f0 + ij))))), (5, .int (nI ((f0 + ij) + 1)))]) (lv_sub hl [2, 3, 4, 5, 1, 0] rfl) (lv_ce rfl (lv_ce rfl (lv_ce rfl (lv_ce rfl (lv_ce (congrArg (fun x => Value.int (nI x)) e6_6) (lv_ce (congrArg (fun x => Value.int (nI x)) e6_7) rfl))))))
    exact ih6 _ (by omega) (hl6_8)
set_option maxRecDepth 20000 in
theorem iX3_placeForParty_0 : ∀ w ∈ wsX00, w ∈ wsX3_placeForParty := by decide +kernel
set_option maxRecDepth 20000 in
theorem iX3_placeForParty_3 : ∀ w ∈ wsX30, w ∈ wsX3_placeForParty := by decide +kernel
set_option maxHeartbeats 4000000 in
set_option maxRecDepth 100000 in
theorem c_X3_placeForParty (l : Launch) (D : va_G) (cI cC cH cL : ClassId) (v : Nat → Nat) (b : Nat → Nat) (z : ZZ) (lk : Bool) (pe cn rk : ZZ) (m0 : Nat) (hw : WF z) (hL : LKR z pe cn rk) (hm1 : 1 ≤ m0) (hm : m0 ≤ 12) : Met l yX3_placeForParty wsX3_placeForParty ({ frames := 3, cells := 0, slots := 0, locals := 69 }) (kp [.ref (v 0), .int (nI m0)] D (HW b cI z ++ SW v (b 0) cI (bI lk) pe cn rk) (kT cI cC cH cL)) (kr (.returned (some (.int (placeForI z m0))))) 0 0 (fun _ => False) := by
  refine Met.ofW (cc := cX3_placeForParty) (maxL := 7) (ret := (some .int)) (by decide) rfl ?_
  intro p e s m args below meth c s₁ B hml hv
  obtain ⟨rfl, hP, hK⟩ := hv
  have hx := B.exec
  have hb := B.bytes
  have hrt := B.returns
  have hts := atoms_spec (ws := wsX3_placeForParty) B.pre
  have hown : s.vm.findClass RX3 = some m.cls := findClass_of_methodNamed B.named
  have hlocks := B.notSynchronized
  have hl := lv_entry ([.ref (v 0), .int (nI m0)]) (n := 7) (Nat.le_of_ble_eq_true rfl)
  rw [lg_entry_eq]
  generalize (lg_sl ([.ref (v 0), .int (nI m0)]) ++ List.replicate (7 - (lg_sl ([.ref (v 0), .int (nI m0)])).length) Slot.unset).toArray = ls at hl ⊢
  have hl : lv_has ls 7 [(0, .ref (v 0)), (1, .int (nI m0))] := hl
  have hR10 := wf_R10 hw
  have hC4 := wf_C4 hw
  refine lv_iconst (v := (-1)) hx hb dX3_placeForParty_0 (by decide) ?_
  refine lv_istore_n (lv' := [(2, .int (-1)), (0, .ref (v 0)), (1, .int (nI m0))]) hx hb dX3_placeForParty_1 rfl hl (by decide) rfl (fun ls hl => ?_)
  refine lv_iconst (v := nI 0) hx hb dX3_placeForParty_2 (by decide) ?_
  refine lv_istore_n (lv' := [(3, .int (nI 0)), (2, .int (-1)), (0, .ref (v 0)), (1, .int (nI m0))]) hx hb dX3_placeForParty_3 rfl hl (by decide) rfl (fun ls hl => ?_)
  refine lv_iconst (v := nI 0) hx hb dX3_placeForParty_4 (by decide) ?_
  refine lv_istore (lv' := [(4, .int (nI 0)), (3, .int (nI 0)), (2, .int (-1)), (0, .ref (v 0)), (1, .int (nI m0))]) hx hb dX3_placeForParty_5 hl (by decide) rfl (fun ls hl => ?_)
  have e7_0 : ((-1) : Int32) = ((itN 0 (pcR z m0) (-1, nI 0)).1) := by first | rfl | omega | (simp [pcR, pcS, itN_s, Int32.not_lt, Int32.not_le]; done) | (simp [pcR, pcS, itN_s, Int32.not_lt, Int32.not_le]; omega)
  have e7_1 : (nI 0 : Int32) = ((itN 0 (pcR z m0) (-1, nI 0)).2) := by first | rfl | omega | (simp [pcR, pcS, itN_s, Int32.not_lt, Int32.not_le]; done) | (simp [pcR, pcS, itN_s, Int32.not_lt, Int32.not_le]; omega)
  have hl7_2 : lv_has ls 7 [(0, .ref (v 0)), (1, .int (nI m0)), (2, .int ((itN 0 (pcR z m0) (-1, nI 0)).1)), (3, .int ((itN 0 (pcR z m0) (-1, nI 0)).2)), (4, .int (nI 0))] := lv_eqv (l1 := [(0, .ref (v 0)), (1, .int (nI m0)), (2, .int (-1)), (3, .int (nI 0)), (4, .int (nI 0))]) (lv_sub hl [3, 4, 2, 1, 0] rfl) (lv_ce rfl (lv_ce rfl (lv_ce (congrArg Value.int e7_0) (lv_ce (congrArg Value.int e7_1) (lv_ce rfl rfl)))))
  refine kx_up (fun k ls => lv_has ls 7 [(0, .ref (v 0)), (1, .int (nI m0)), (2, .int ((itN k (pcR z m0) (-1, nI 0)).1)), (3, .int ((itN k (pcR z m0) (-1, nI 0)).2)), (4, .int (nI k))]) (0) (nR z) (by omega) ls (hl7_2) ?_
  intro ir ls hirl hirh hp ih7
  have hl := hp
  refine lv_iload hx hb dX3_placeForParty_7 (lv_at hl 4 rfl) ?_
  refine lv_aload_n hx hb dX3_placeForParty_9 rfl (lv_at hl 0 rfl) ?_
  refine va_get (D := D) (ci := 3) (v := .ref (b 0)) (C := RX3) (T := TX3) (N := 5) hx hb hts iX3_placeForParty_3 hown hK hP 9 rfl rfl 0 (by decide) (hts (.fieldLink RX3 12 "HallSights$Survey" "hall" "LHallSights$Hall;") (List.mem_of_getElem? (i := 1) rfl)) (fun _ h9 => h9) rfl dX3_placeForParty_10 ?_
  refine va_get (D := D) (ci := 0) (v := .int (z 3)) (C := RX0) (T := TX0) (N := 10) hx hb hts iX3_placeForParty_0 hown hK hP 0 rfl rfl 0 (by decide) (hts (.fieldLink RX3 32 "HallSights$Hall" "rows" "I") (List.mem_of_getElem? (i := 2) rfl)) (fun _ h9 => h9) rfl dX3_placeForParty_13 ?_
  refine kx_top (wf_R hw) ?_
  refine kx_icmp_ge (tgt := 100) hx hb (by omega) (by omega) dX3_placeForParty_16 (by decide) (fun c_16_3 => ?_) (fun c_16_4 => ?_)
  · have hq5 : nR z = ir := by omega
    subst hq5
    refine lv_iload_n hx hb dX3_placeForParty_100 rfl (lv_at hl 2 rfl) ?_
    have e_6 : ((itN (nR z) (pcR z m0) (-1, nI 0)).1 : Int32) = (placeForI z m0) := by exact place_pc hw hm1
    exact kr_iret hx hb hrt hlocks e_6 rfl dX3_placeForParty_101
  · refine lv_iconst (v := nI 0) hx hb dX3_placeForParty_19 (by decide) ?_
    refine lv_istore (lv' := [(5, .int (nI 0)), (0, .ref (v 0)), (1, .int (nI m0)), (2, .int ((itN ir (pcR z m0) (-1, nI 0)).1)), (3, .int ((itN ir (pcR z m0) (-1, nI 0)).2)), (4, .int (nI ir))]) hx hb dX3_placeForParty_20 hl (by decide) rfl (fun ls hl => ?_)
    have e22_7 : ((itN ir (pcR z m0) (-1, nI 0)).1 : Int32) = ((itN 0 (pcS z m0 ir) (itN ir (pcR z m0) (-1, nI 0))).1) := by first | rfl | omega | (simp [pcR, pcS, itN_s, Int32.not_lt, Int32.not_le, c_16_4, Nat.not_le.mpr c_16_4]; done) | (simp [pcR, pcS, itN_s, Int32.not_lt, Int32.not_le, c_16_4, Nat.not_le.mpr c_16_4]; omega) | (revert c_16_4; simp +contextual [pcR, pcS, itN_s, Int32.not_lt, Int32.not_le]; done) | (revert c_16_4; simp +contextual [pcR, pcS, itN_s, Int32.not_lt, Int32.not_le]; omega)
    have e22_8 : ((itN ir (pcR z m0) (-1, nI 0)).2 : Int32) = ((itN 0 (pcS z m0 ir) (itN ir (pcR z m0) (-1, nI 0))).2) := by first | rfl | omega | (simp [pcR, pcS, itN_s, Int32.not_lt, Int32.not_le, c_16_4, Nat.not_le.mpr c_16_4]; done) | (simp [pcR, pcS, itN_s, Int32.not_lt, Int32.not_le, c_16_4, Nat.not_le.mpr c_16_4]; omega) | (revert c_16_4; simp +contextual [pcR, pcS, itN_s, Int32.not_lt, Int32.not_le]; done) | (revert c_16_4; simp +contextual [pcR, pcS, itN_s, Int32.not_lt, Int32.not_le]; omega)
    have hl22_9 : lv_has ls 7 [(0, .ref (v 0)), (1, .int (nI m0)), (4, .int (nI ir)), (2, .int ((itN 0 (pcS z m0 ir) (itN ir (pcR z m0) (-1, nI 0))).1)), (3, .int ((itN 0 (pcS z m0 ir) (itN ir (pcR z m0) (-1, nI 0))).2)), (5, .int (nI 0))] := lv_eqv (l1 := [(0, .ref (v 0)), (1, .int (nI m0)), (4, .int (nI ir)), (2, .int ((itN ir (pcR z m0) (-1, nI 0)).1)), (3, .int ((itN ir (pcR z m0) (-1, nI 0)).2)), (5, .int (nI 0))]) (lv_sub hl [1, 2, 5, 3, 4, 0] rfl) (lv_ce rfl (lv_ce rfl (lv_ce rfl (lv_ce (congrArg Value.int e22_7) (lv_ce (congrArg Value.int e22_8) (lv_ce rfl rfl))))))
    refine kx_up (fun k ls => lv_has ls 7 [(0, .ref (v 0)), (1, .int (nI m0)), (4, .int (nI ir)), (2, .int ((itN k (pcS z m0 ir) (itN ir (pcR z m0) (-1, nI 0))).1)), (3, .int ((itN k (pcS z m0 ir) (itN ir (pcR z m0) (-1, nI 0))).2)), (5, .int (nI k))]) (0) (nS z ir + 1 - m0) (by omega) ls (hl22_9) ?_
    intro iw ls hiwl hiwh hp ih22
    have hl := hp
    have hSi := wf_S12 hw (show ir < nR z by omega)
    refine lv_iload hx hb dX3_placeForParty_22 (lv_at hl 5 rfl) ?_
    refine lv_iload_n hx hb dX3_placeForParty_24 rfl (lv_at hl 1 rfl) ?_
    refine kx_iadd hx hb dX3_placeForParty_25 ?_
    refine lv_aload_n hx hb dX3_placeForParty_26 rfl (lv_at hl 0 rfl) ?_
    refine va_get (D := D) (ci := 3) (v := .ref (b 0)) (C := RX3) (T := TX3) (N := 5) hx hb hts iX3_placeForParty_3 hown hK hP 9 rfl rfl 0 (by decide) (hts (.fieldLink RX3 12 "HallSights$Survey" "hall" "LHallSights$Hall;") (List.mem_of_getElem? (i := 1) rfl)) (fun _ h9 => h9) rfl dX3_placeForParty_27 ?_
    refine va_get (D := D) (ci := 0) (v := .ref (b 3)) (C := RX0) (T := TX0) (N := 10) hx hb hts iX3_placeForParty_0 hown hK hP 0 rfl rfl 3 (by decide) (hts (.fieldLink RX3 36 "HallSights$Hall" "seats" "[I") (List.mem_of_getElem? (i := 3) rfl)) (fun _ h9 => h9) rfl dX3_placeForParty_30 ?_
    refine lv_iload hx hb dX3_placeForParty_33 (lv_at hl 2 rfl) ?_
    refine kx_iald hx hb hK hP 3 0 rfl rfl (by omega) (by decide) dX3_placeForParty_35 ?_
    refine kx_top (wf_S hw (show (ir) < nR z by omega)) ?_
    have hS12_10 := wf_S12 hw (show (ir) < nR z by omega)
    refine kx_icmp_gt (tgt := 94) hx hb (by omega) (by omega) dX3_placeForParty_36 (by decide) (fun c_36_11 => ?_) (fun c_36_12 => ?_)
    · have hq13 : nS z ir + 1 - m0 = iw := by omega
      subst hq13
      refine lv_iinc (v := nI (ir + 1)) (lv' := [(4, .int (nI (ir + 1))), (0, .ref (v 0)), (1, .int (nI m0)), (2, .int ((itN (nS z ir + 1 - m0) (pcS z m0 ir) (itN ir (pcR z m0) (-1, nI 0))).1)), (3, .int ((itN (nS z ir + 1 - m0) (pcS z m0 ir) (itN ir (pcR z m0) (-1, nI 0))).2)), (5, .int (nI (nS z ir + 1 - m0)))]) hx hb dX3_placeForParty_94 hl (k := 2) rfl (kx_inc 1) (by decide) rfl (fun ls hl => ?_)
      refine lv_goto (tgt := 7) hx hb dX3_placeForParty_97 (by decide) ?_
      have e7_14 : ((itN (nS z ir + 1 - m0) (pcS z m0 ir) (itN ir (pcR z m0) (-1, nI 0))).1 : Int32) = ((itN (ir + 1) (pcR z m0) (-1, nI 0)).1) := by first | rfl | omega | (simp [pcR, pcS, itN_s, Int32.not_lt, Int32.not_le, c_16_4, Nat.not_le.mpr c_16_4, c_36_11, Nat.not_le.mpr c_36_11]; done) | (simp [pcR, pcS, itN_s, Int32.not_lt, Int32.not_le, c_16_4, Nat.not_le.mpr c_16_4, c_36_11, Nat.not_le.mpr c_36_11]; omega) | (revert c_16_4 c_36_11; simp +contextual [pcR, pcS, itN_s, Int32.not_lt, Int32.not_le]; done) | (revert c_16_4 c_36_11; simp +contextual [pcR, pcS, itN_s, Int32.not_lt, Int32.not_le]; omega)
      have e7_15 : ((itN (nS z ir + 1 - m0) (pcS z m0 ir) (itN ir (pcR z m0) (-1, nI 0))).2 : Int32) = ((itN (ir + 1) (pcR z m0) (-1, nI 0)).2) := by first | rfl | omega | (simp [pcR, pcS, itN_s, Int32.not_lt, Int32.not_le, c_16_4, Nat.not_le.mpr c_16_4, c_36_11, Nat.not_le.mpr c_36_11]; done) | (simp [pcR, pcS, itN_s, Int32.not_lt, Int32.not_le, c_16_4, Nat.not_le.mpr c_16_4, c_36_11, Nat.not_le.mpr c_36_11]; omega) | (revert c_16_4 c_36_11; simp +contextual [pcR, pcS, itN_s, Int32.not_lt, Int32.not_le]; done) | (revert c_16_4 c_36_11; simp +contextual [pcR, pcS, itN_s, Int32.not_lt, Int32.not_le]; omega)
      have e7_16 : (ir + 1 : Nat) = ((ir + 1)) := by first | rfl | omega | (simp [pcR, pcS, itN_s, Int32.not_lt, Int32.not_le, c_16_4, Nat.not_le.mpr c_16_4, c_36_11, Nat.not_le.mpr c_36_11]; done) | (simp [pcR, pcS, itN_s, Int32.not_lt, Int32.not_le, c_16_4, Nat.not_le.mpr c_16_4, c_36_11, Nat.not_le.mpr c_36_11]; omega) | (revert c_16_4 c_36_11; simp +contextual [pcR, pcS, itN_s, Int32.not_lt, Int32.not_le]; done) | (revert c_16_4 c_36_11; simp +contextual [pcR, pcS, itN_s, Int32.not_lt, Int32.not_le]; omega)
      have hl7_17 : lv_has ls 7 [(0, .ref (v 0)), (1, .int (nI m0)), (2, .int ((itN (ir + 1) (pcR z m0) (-1, nI 0)).1)), (3, .int ((itN (ir + 1) (pcR z m0) (-1, nI 0)).2)), (4, .int (nI (ir + 1)))] := lv_eqv (l1 := [(0, .ref (v 0)), (1, .int (nI m0)), (2, .int ((itN (nS z ir + 1 - m0) (pcS z m0 ir) (itN ir (pcR z m0) (-1, nI 0))).1)), (3, .int ((itN (nS z ir + 1 - m0) (pcS z m0 ir) (itN ir (pcR z m0) (-1, nI 0))).2)), (4, .int (nI (ir + 1)))]) (lv_sub hl [1, 2, 3, 4, 0] rfl) (lv_ce rfl (lv_ce rfl (lv_ce (congrArg Value.int e7_14) (lv_ce (congrArg Value.int e7_15) (lv_ce (congrArg (fun x => Value.int (nI x)) e7_16) rfl)))))
      exact ih7 _ (by omega) (hl7_17)
    · refine lv_aload_n hx hb dX3_placeForParty_39 rfl (lv_at hl 0 rfl) ?_
      refine lv_iload hx hb dX3_placeForParty_40 (lv_at hl 2 rfl) ?_
      refine lv_iload hx hb dX3_placeForParty_42 (lv_at hl 5 rfl) ?_
      refine lv_iload_n hx hb dX3_placeForParty_44 rfl (lv_at hl 1 rfl) ?_
      refine kr_V (As := [.int (nI ir), .int (nI iw), .int (nI m0)]) (rest := []) (C := RX3) (own := RX3) ⟨hx, hb, hml, hown, hts⟩ (c_X3_allInWayOfParty l D cI cC cH cL v b z lk pe cn rk ir iw m0 (by first | assumption | omega) (by first | assumption | omega) (by first | assumption | omega) (by first | assumption | omega)) (cwV 3 hts gX3_placeForParty_X3_allInWayOfParty rfl rfl rfl k_X3_allInWayOfParty ⟨Nat.le_of_ble_eq_true rfl, Nat.le_of_ble_eq_true rfl⟩) hP hK (va_recv (q := (RX3, TX3, 5)) hK hP (ci := 3) (q0 := 9) rfl rfl) rfl hl.1 rfl (Nat.le_of_ble_eq_true rfl) dX3_placeForParty_45 ⟨Nat.le_of_ble_eq_true rfl, Nat.le_of_ble_eq_true rfl⟩ ?_
      refine lv_istore (lv' := [(6, .int (nI (sumN m0 (fun j => ways z ir (iw + j))))), (0, .ref (v 0)), (1, .int (nI m0)), (4, .int (nI ir)), (2, .int ((itN iw (pcS z m0 ir) (itN ir (pcR z m0) (-1, nI 0))).1)), (3, .int ((itN iw (pcS z m0 ir) (itN ir (pcR z m0) (-1, nI 0))).2)), (5, .int (nI iw))]) hx hb dX3_placeForParty_48 hl (by decide) rfl (fun ls hl => ?_)
      refine lv_aload_n hx hb dX3_placeForParty_50 rfl (lv_at hl 1 rfl) ?_
      refine va_get (D := D) (ci := 3) (v := .ref (b 0)) (C := RX3) (T := TX3) (N := 5) hx hb hts iX3_placeForParty_3 hown hK hP 9 rfl rfl 0 (by decide) (hts (.fieldLink RX3 12 "HallSights$Survey" "hall" "LHallSights$Hall;") (List.mem_of_getElem? (i := 1) rfl)) (fun _ h9 => h9) rfl dX3_placeForParty_51 ?_
      refine lv_iload hx hb dX3_placeForParty_54 (lv_at hl 3 rfl) ?_
      refine lv_iload hx hb dX3_placeForParty_56 (lv_at hl 6 rfl) ?_
      refine lv_iload_n hx hb dX3_placeForParty_58 rfl (lv_at hl 2 rfl) ?_
      refine kr_V (As := [.int (nI ir), .int (nI iw), .int (nI m0)]) (rest := []) (C := RX0) (own := RX3) ⟨hx, hb, hml, hown, hts⟩ (c_X0_areFree l D cI cC cH cL b z ir iw m0 (by first | assumption | omega)) (cwV 3 hts gX3_placeForParty_X0_areFree rfl rfl rfl k_X0_areFree ⟨Nat.le_of_ble_eq_true rfl, Nat.le_of_ble_eq_true rfl⟩) (hP.sub (ws' := (HW b cI z)) [0, 1, 2, 3, 4, 5, 6, 7, 8] rfl) hK (va_recv (q := (RX0, TX0, 10)) hK hP (ci := 0) (q0 := 0) rfl rfl) rfl hl.1 rfl (Nat.le_of_ble_eq_true rfl) dX3_placeForParty_59 ⟨Nat.le_of_ble_eq_true rfl, Nat.le_of_ble_eq_true rfl⟩ ?_
      refine kx_if_eqb (tgt := 88) hx hb dX3_placeForParty_62 (by decide) (fun c_62_18 => ?_) (fun c_62_19 => ?_)
      · refine lv_iinc (v := nI (iw + 1)) (lv' := [(5, .int (nI (iw + 1))), (6, .int (nI (sumN m0 (fun j => ways z ir (iw + j))))), (0, .ref (v 0)), (1, .int (nI m0)), (4, .int (nI ir)), (2, .int ((itN iw (pcS z m0 ir) (itN ir (pcR z m0) (-1, nI 0))).1)), (3, .int ((itN iw (pcS z m0 ir) (itN ir (pcR z m0) (-1, nI 0))).2))]) hx hb dX3_placeForParty_88 hl (k := 6) rfl (kx_inc 1) (by decide) rfl (fun ls hl => ?_)
        refine lv_goto (tgt := 22) hx hb dX3_placeForParty_91 (by decide) ?_
        have e22_20 : ((itN iw (pcS z m0 ir) (itN ir (pcR z m0) (-1, nI 0))).1 : Int32) = ((itN (iw + 1) (pcS z m0 ir) (itN ir (pcR z m0) (-1, nI 0))).1) := by first | rfl | omega | (simp [pcR, pcS, itN_s, Int32.not_lt, Int32.not_le, c_16_4, Nat.not_le.mpr c_16_4, c_36_12, Nat.not_lt.mpr c_36_12, c_62_18]; done) | (simp [pcR, pcS, itN_s, Int32.not_lt, Int32.not_le, c_16_4, Nat.not_le.mpr c_16_4, c_36_12, Nat.not_lt.mpr c_36_12, c_62_18]; omega) | (revert c_16_4 c_36_12 c_62_18; simp +contextual [pcR, pcS, itN_s, Int32.not_lt, Int32.not_le]; done) | (revert c_16_4 c_36_12 c_62_18; simp +contextual [pcR, pcS, itN_s, Int32.not_lt, Int32.not_le]; omega)
        have e22_21 : ((itN iw (pcS z m0 ir) (itN ir (pcR z m0) (-1, nI 0))).2 : Int32) = ((itN (iw + 1) (pcS z m0 ir) (itN ir (pcR z m0) (-1, nI 0))).2) := by first | rfl | omega | (simp [pcR, pcS, itN_s, Int32.not_lt, Int32.not_le, c_16_4, Nat.not_le.mpr c_16_4, c_36_12, Nat.not_lt.mpr c_36_12, c_62_18]; done) | (simp [pcR, pcS, itN_s, Int32.not_lt, Int32.not_le, c_16_4, Nat.not_le.mpr c_16_4, c_36_12, Nat.not_lt.mpr c_36_12, c_62_18]; omega) | (revert c_16_4 c_36_12 c_62_18; simp +contextual [pcR, pcS, itN_s, Int32.not_lt, Int32.not_le]; done) | (revert c_16_4 c_36_12 c_62_18; simp +contextual [pcR, pcS, itN_s, Int32.not_lt, Int32.not_le]; omega)
        have e22_22 : (iw + 1 : Nat) = ((iw + 1)) := by first | rfl | omega | (simp [pcR, pcS, itN_s, Int32.not_lt, Int32.not_le, c_16_4, Nat.not_le.mpr c_16_4, c_36_12, Nat.not_lt.mpr c_36_12, c_62_18]; done) | (simp [pcR, pcS, itN_s, Int32.not_lt, Int32.not_le, c_16_4, Nat.not_le.mpr c_16_4, c_36_12, Nat.not_lt.mpr c_36_12, c_62_18]; omega) | (revert c_16_4 c_36_12 c_62_18; simp +contextual [pcR, pcS, itN_s, Int32.not_lt, Int32.not_le]; done) | (revert c_16_4 c_36_12 c_62_18; simp +contextual [pcR, pcS, itN_s, Int32.not_lt, Int32.not_le]; omega)
        have hl22_23 : lv_has ls 7 [(0, .ref (v 0)), (1, .int (nI m0)), (4, .int (nI ir)), (2, .int ((itN (iw + 1) (pcS z m0 ir) (itN ir (pcR z m0) (-1, nI 0))).1)), (3, .int ((itN (iw + 1) (pcS z m0 ir) (itN ir (pcR z m0) (-1, nI 0))).2)), (5, .int (nI (iw + 1)))] := lv_eqv (l1 := [(0, .ref (v 0)), (1, .int (nI m0)), (4, .int (nI ir)), (2, .int ((itN iw (pcS z m0 ir) (itN ir (pcR z m0) (-1, nI 0))).1)), (3, .int ((itN iw (pcS z m0 ir) (itN ir (pcR z m0) (-1, nI 0))).2)), (5, .int (nI (iw + 1)))]) (lv_sub hl [2, 3, 4, 5, 6, 0] rfl) (lv_ce rfl (lv_ce rfl (lv_ce rfl (lv_ce (congrArg Value.int e22_20) (lv_ce (congrArg Value.int e22_21) (lv_ce (congrArg (fun x => Value.int (nI x)) e22_22) rfl))))))
        exact ih22 _ (by omega) (hl22_23)
      · refine lv_iload_n hx hb dX3_placeForParty_65 rfl (lv_at hl 4 rfl) ?_
        refine lv_iconst (v := (-1)) hx hb dX3_placeForParty_66 (by decide) ?_
        refine lv_icmp_eq (tgt := 76) hx hb dX3_placeForParty_67 (by decide) (fun c_67_24 => ?_) (fun c_67_25 => ?_)
        · have c_67_24 : (((itN iw (pcS z m0 ir) (itN ir (pcR z m0) (-1, nI 0))).1) : Int32) = (-1) := c_67_24
          refine lv_bipush (v := nI 100) hx hb dX3_placeForParty_76 (by decide) ?_
          refine lv_iload hx hb dX3_placeForParty_78 (lv_at hl 3 rfl) ?_
          refine kx_imul hx hb dX3_placeForParty_80 ?_
          refine lv_iload hx hb dX3_placeForParty_81 (lv_at hl 6 rfl) ?_
          refine kx_iadd hx hb dX3_placeForParty_83 ?_
          refine lv_istore_n (lv' := [(2, .int (nI ((100 * ir) + iw))), (6, .int (nI (sumN m0 (fun j => ways z ir (iw + j))))), (0, .ref (v 0)), (1, .int (nI m0)), (4, .int (nI ir)), (3, .int ((itN iw (pcS z m0 ir) (itN ir (pcR z m0) (-1, nI 0))).2)), (5, .int (nI iw))]) hx hb dX3_placeForParty_84 rfl hl (by decide) rfl (fun ls hl => ?_)
          refine lv_iload hx hb dX3_placeForParty_85 (lv_at hl 1 rfl) ?_
          refine lv_istore_n (lv' := [(3, .int (nI (sumN m0 (fun j => ways z ir (iw + j))))), (2, .int (nI ((100 * ir) + iw))), (6, .int (nI (sumN m0 (fun j => ways z ir (iw + j))))), (0, .ref (v 0)), (1, .int (nI m0)), (4, .int (nI ir)), (5, .int (nI iw))]) hx hb dX3_placeForParty_87 rfl hl (by decide) rfl (fun ls hl => ?_)
          refine lv_iinc (v := nI (iw + 1)) (lv' := [(5, .int (nI (iw + 1))), (3, .int (nI (sumN m0 (fun j => ways z ir (iw + j))))), (2, .int (nI ((100 * ir) + iw))), (6, .int (nI (sumN m0 (fun j => ways z ir (iw + j))))), (0, .ref (v 0)), (1, .int (nI m0)), (4, .int (nI ir))]) hx hb dX3_placeForParty_88 hl (k := 6) rfl (kx_inc 1) (by decide) rfl (fun ls hl => ?_)
          refine lv_goto (tgt := 22) hx hb dX3_placeForParty_91 (by decide) ?_
          have e22_26 : (nI ((100 * ir) + iw) : Int32) = ((itN (iw + 1) (pcS z m0 ir) (itN ir (pcR z m0) (-1, nI 0))).1) := by first | rfl | omega | (simp [pcR, pcS, itN_s, Int32.not_lt, Int32.not_le, c_16_4, Nat.not_le.mpr c_16_4, c_36_12, Nat.not_lt.mpr c_36_12, c_62_19, c_67_24]; done) | (simp [pcR, pcS, itN_s, Int32.not_lt, Int32.not_le, c_16_4, Nat.not_le.mpr c_16_4, c_36_12, Nat.not_lt.mpr c_36_12, c_62_19, c_67_24]; omega) | (revert c_16_4 c_36_12 c_62_19 c_67_24; simp +contextual [pcR, pcS, itN_s, Int32.not_lt, Int32.not_le]; done) | (revert c_16_4 c_36_12 c_62_19 c_67_24; simp +contextual [pcR, pcS, itN_s, Int32.not_lt, Int32.not_le]; omega)
          have e22_27 : (nI (sumN m0 (fun j => ways z ir (iw + j))) : Int32) = ((itN (iw + 1) (pcS z m0 ir) (itN ir (pcR z m0) (-1, nI 0))).2) := by first | rfl | omega | (simp [pcR, pcS, itN_s, Int32.not_lt, Int32.not_le, c_16_4, Nat.not_le.mpr c_16_4, c_36_12, Nat.not_lt.mpr c_36_12, c_62_19, c_67_24]; done) | (simp [pcR, pcS, itN_s, Int32.not_lt, Int32.not_le, c_16_4, Nat.not_le.mpr c_16_4, c_36_12, Nat.not_lt.mpr c_36_12, c_62_19, c_67_24]; omega) | (revert c_16_4 c_36_12 c_62_19 c_67_24; simp +contextual [pcR, pcS, itN_s, Int32.not_lt, Int32.not_le]; done) | (revert c_16_4 c_36_12 c_62_19 c_67_24; simp +contextual [pcR, pcS, itN_s, Int32.not_lt, Int32.not_le]; omega)
          have e22_28 : (iw + 1 : Nat) = ((iw + 1)) := by first | rfl | omega | (simp [pcR, pcS, itN_s, Int32.not_lt, Int32.not_le, c_16_4, Nat.not_le.mpr c_16_4, c_36_12, Nat.not_lt.mpr c_36_12, c_62_19, c_67_24]; done) | (simp [pcR, pcS, itN_s, Int32.not_lt, Int32.not_le, c_16_4, Nat.not_le.mpr c_16_4, c_36_12, Nat.not_lt.mpr c_36_12, c_62_19, c_67_24]; omega) | (revert c_16_4 c_36_12 c_62_19 c_67_24; simp +contextual [pcR, pcS, itN_s, Int32.not_lt, Int32.not_le]; done) | (revert c_16_4 c_36_12 c_62_19 c_67_24; simp +contextual [pcR, pcS, itN_s, Int32.not_lt, Int32.not_le]; omega)
          have hl22_29 : lv_has ls 7 [(0, .ref (v 0)), (1, .int (nI m0)), (4, .int (nI ir)), (2, .int ((itN (iw + 1) (pcS z m0 ir) (itN ir (pcR z m0) (-1, nI 0))).1)), (3, .int ((itN (iw + 1) (pcS z m0 ir) (itN ir (pcR z m0) (-1, nI 0))).2)), (5, .int (nI (iw + 1)))] := lv_eqv (l1 := [(0, .ref (v 0)), (1, .int (nI m0)), (4, .int (nI ir)), (2, .int (nI ((100 * ir) + iw))), (3, .int (nI (sumN m0 (fun j => ways z ir (iw + j))))), (5, .int (nI (iw + 1)))]) (lv_sub hl [4, 5, 6, 2, 1, 0] rfl) (lv_ce rfl (lv_ce rfl (lv_ce rfl (lv_ce (congrArg Value.int e22_26) (lv_ce (congrArg Value.int e22_27) (lv_ce (congrArg (fun x => Value.int (nI x)) e22_28) rfl))))))
          exact ih22 _ (by omega) (hl22_29)
        · have c_67_25 : ¬ (((itN iw (pcS z m0 ir) (itN ir (pcR z m0) (-1, nI 0))).1) : Int32) = (-1) := c_67_25
          refine lv_iload hx hb dX3_placeForParty_70 (lv_at hl 0 rfl) ?_
          refine lv_iload_n hx hb dX3_placeForParty_72 rfl (lv_at hl 5 rfl) ?_
          refine lv_icmp_ge (tgt := 88) hx hb dX3_placeForParty_73 (by decide) (fun c_73_30 => ?_) (fun c_73_31 => ?_)
          · have c_73_30 : (((itN iw (pcS z m0 ir) (itN ir (pcR z m0) (-1, nI 0))).2) : Int32) ≤ (nI (sumN m0 (fun j => ways z ir (iw + j)))) := c_73_30
            refine lv_iinc (v := nI (iw + 1)) (lv' := [(5, .int (nI (iw + 1))), (6, .int (nI (sumN m0 (fun j => ways z ir (iw + j))))), (0, .ref (v 0)), (1, .int (nI m0)), (4, .int (nI ir)), (2, .int ((itN iw (pcS z m0 ir) (itN ir (pcR z m0) (-1, nI 0))).1)), (3, .int ((itN iw (pcS z m0 ir) (itN ir (pcR z m0) (-1, nI 0))).2))]) hx hb dX3_placeForParty_88 hl (k := 6) rfl (kx_inc 1) (by decide) rfl (fun ls hl => ?_)
            refine lv_goto (tgt := 22) hx hb dX3_placeForParty_91 (by decide) ?_
            have e22_32 : ((itN iw (pcS z m0 ir) (itN ir (pcR z m0) (-1, nI 0))).1 : Int32) = ((itN (iw + 1) (pcS z m0 ir) (itN ir (pcR z m0) (-1, nI 0))).1) := by first | rfl | omega | (simp [pcR, pcS, itN_s, Int32.not_lt, Int32.not_le, c_16_4, Nat.not_le.mpr c_16_4, c_36_12, Nat.not_lt.mpr c_36_12, c_62_19, c_67_25, c_73_30, Int32.not_lt.mpr c_73_30]; done) | (simp [pcR, pcS, itN_s, Int32.not_lt, Int32.not_le, c_16_4, Nat.not_le.mpr c_16_4, c_36_12, Nat.not_lt.mpr c_36_12, c_62_19, c_67_25, c_73_30, Int32.not_lt.mpr c_73_30]; omega) | (revert c_16_4 c_36_12 c_62_19 c_67_25 c_73_30; simp +contextual [pcR, pcS, itN_s, Int32.not_lt, Int32.not_le]; done) | (revert c_16_4 c_36_12 c_62_19 c_67_25 c_73_30; simp +contextual [pcR, pcS, itN_s, Int32.not_lt, Int32.not_le]; omega)
            have e22_33 : ((itN iw (pcS z m0 ir) (itN ir (pcR z m0) (-1, nI 0))).2 : Int32) = ((itN (iw + 1) (pcS z m0 ir) (itN ir (pcR z m0) (-1, nI 0))).2) := by first | rfl | omega | (simp [pcR, pcS, itN_s, Int32.not_lt, Int32.not_le, c_16_4, Nat.not_le.mpr c_16_4, c_36_12, Nat.not_lt.mpr c_36_12, c_62_19, c_67_25, c_73_30, Int32.not_lt.mpr c_73_30]; done) | (simp [pcR, pcS, itN_s, Int32.not_lt, Int32.not_le, c_16_4, Nat.not_le.mpr c_16_4, c_36_12, Nat.not_lt.mpr c_36_12, c_62_19, c_67_25, c_73_30, Int32.not_lt.mpr c_73_30]; omega) | (revert c_16_4 c_36_12 c_62_19 c_67_25 c_73_30; simp +contextual [pcR, pcS, itN_s, Int32.not_lt, Int32.not_le]; done) | (revert c_16_4 c_36_12 c_62_19 c_67_25 c_73_30; simp +contextual [pcR, pcS, itN_s, Int32.not_lt, Int32.not_le]; omega)
            have e22_34 : (iw + 1 : Nat) = ((iw + 1)) := by first | rfl | omega | (simp [pcR, pcS, itN_s, Int32.not_lt, Int32.not_le, c_16_4, Nat.not_le.mpr c_16_4, c_36_12, Nat.not_lt.mpr c_36_12, c_62_19, c_67_25, c_73_30, Int32.not_lt.mpr c_73_30]; done) | (simp [pcR, pcS, itN_s, Int32.not_lt, Int32.not_le, c_16_4, Nat.not_le.mpr c_16_4, c_36_12, Nat.not_lt.mpr c_36_12, c_62_19, c_67_25, c_73_30, Int32.not_lt.mpr c_73_30]; omega) | (revert c_16_4 c_36_12 c_62_19 c_67_25 c_73_30; simp +contextual [pcR, pcS, itN_s, Int32.not_lt, Int32.not_le]; done) | (revert c_16_4 c_36_12 c_62_19 c_67_25 c_73_30; simp +contextual [pcR, pcS, itN_s, Int32.not_lt, Int32.not_le]; omega)
            have hl22_35 : lv_has ls 7 [(0, .ref (v 0)), (1, .int (nI m0)), (4, .int (nI ir)), (2, .int ((itN (iw + 1) (pcS z m0 ir) (itN ir (pcR z m0) (-1, nI 0))).1)), (3, .int ((itN (iw + 1) (pcS z m0 ir) (itN ir (pcR z m0) (-1, nI 0))).2)), (5, .int (nI (iw + 1)))] := lv_eqv (l1 := [(0, .ref (v 0)), (1, .int (nI m0)), (4, .int (nI ir)), (2, .int ((itN iw (pcS z m0 ir) (itN ir (pcR z m0) (-1, nI 0))).1)), (3, .int ((itN iw (pcS z m0 ir) (itN ir (pcR z m0) (-1, nI 0))).2)), (5, .int (nI (iw + 1)))]) (lv_sub hl [2, 3, 4, 5, 6, 0] rfl) (lv_ce rfl (lv_ce rfl (lv_ce rfl (lv_ce (congrArg Value.int e22_32) (lv_ce (congrArg Value.int e22_33) (lv_ce (congrArg (fun x => Value.int (nI x)) e22_34) rfl))))))
            exact ih22 _ (by omega) (hl22_35)
          · have c_73_31 : ¬ (((itN iw (pcS z m0 ir) (itN ir (pcR z m0) (-1, nI 0))).2) : Int32) ≤ (nI (sumN m0 (fun j => ways z ir (iw + j)))) := c_73_31
            refine lv_bipush (v := nI 100) hx hb dX3_placeForParty_76 (by decide) ?_
            refine lv_iload hx hb dX3_placeForParty_78 (lv_at hl 3 rfl) ?_
            refine kx_imul hx hb dX3_placeForParty_80 ?_
            refine lv_iload hx hb dX3_placeForParty_81 (lv_at hl 6 rfl) ?_
            refine kx_iadd hx hb dX3_placeForParty_83 ?_
            refine lv_istore_n (lv' := [(2, .int (nI ((100 * ir) + iw))), (6, .int (nI (sumN m0 (fun j => ways z ir (iw + j))))), (0, .ref (v 0)), (1, .int (nI m0)), (4, .int (nI ir)), (3, .int ((itN iw (pcS z m0 ir) (itN ir (pcR z m0) (-1, nI 0))).2)), (5, .int (nI iw))]) hx hb dX3_placeForParty_84 rfl hl (by decide) rfl (fun ls hl => ?_)
            refine lv_iload hx hb dX3_placeForParty_85 (lv_at hl 1 rfl) ?_
            refine lv_istore_n (lv' := [(3, .int (nI (sumN m0 (fun j => ways z ir (iw + j))))), (2, .int (nI ((100 * ir) + iw))), (6, .int (nI (sumN m0 (fun j => ways z ir (iw + j))))), (0, .ref (v 0)), (1, .int (nI m0)), (4, .int (nI ir)), (5, .int (nI iw))]) hx hb dX3_placeForParty_87 rfl hl (by decide) rfl (fun ls hl => ?_)
            refine lv_iinc (v := nI (iw + 1)) (lv' := [(5, .int (nI (iw + 1))), (3, .int (nI (sumN m0 (fun j => ways z ir (iw + j))))), (2, .int (nI ((100 * ir) + iw))), (6, .int (nI (sumN m0 (fun j => ways z ir (iw + j))))), (0, .ref (v 0)), (1, .int (nI m0)), (4, .int (nI ir))]) hx hb dX3_placeForParty_88 hl (k := 6) rfl (kx_inc 1) (by decide) rfl (fun ls hl => ?_)
            refine lv_goto (tgt := 22) hx hb dX3_placeForParty_91 (by decide) ?_
            have e22_36 : (nI ((100 * ir) + iw) : Int32) = ((itN (iw + 1) (pcS z m0 ir) (itN ir (pcR z m0) (-1, nI 0))).1) := by first | rfl | omega | (simp [pcR, pcS, itN_s, Int32.not_lt, Int32.not_le, c_16_4, Nat.not_le.mpr c_16_4, c_36_12, Nat.not_lt.mpr c_36_12, c_62_19, c_67_25, c_73_31, Int32.not_le.mp c_73_31]; done) | (simp [pcR, pcS, itN_s, Int32.not_lt, Int32.not_le, c_16_4, Nat.not_le.mpr c_16_4, c_36_12, Nat.not_lt.mpr c_36_12, c_62_19, c_67_25, c_73_31, Int32.not_le.mp c_73_31]; omega) | (revert c_16_4 c_36_12 c_62_19 c_67_25 c_73_31; simp +contextual [pcR, pcS, itN_s, Int32.not_lt, Int32.not_le]; done) | (revert c_16_4 c_36_12 c_62_19 c_67_25 c_73_31; simp +contextual [pcR, pcS, itN_s, Int32.not_lt, Int32.not_le]; omega)
            have e22_37 : (nI (sumN m0 (fun j => ways z ir (iw + j))) : Int32) = ((itN (iw + 1) (pcS z m0 ir) (itN ir (pcR z m0) (-1, nI 0))).2) := by first | rfl | omega | (simp [pcR, pcS, itN_s, Int32.not_lt, Int32.not_le, c_16_4, Nat.not_le.mpr c_16_4, c_36_12, Nat.not_lt.mpr c_36_12, c_62_19, c_67_25, c_73_31, Int32.not_le.mp c_73_31]; done) | (simp [pcR, pcS, itN_s, Int32.not_lt, Int32.not_le, c_16_4, Nat.not_le.mpr c_16_4, c_36_12, Nat.not_lt.mpr c_36_12, c_62_19, c_67_25, c_73_31, Int32.not_le.mp c_73_31]; omega) | (revert c_16_4 c_36_12 c_62_19 c_67_25 c_73_31; simp +contextual [pcR, pcS, itN_s, Int32.not_lt, Int32.not_le]; done) | (revert c_16_4 c_36_12 c_62_19 c_67_25 c_73_31; simp +contextual [pcR, pcS, itN_s, Int32.not_lt, Int32.not_le]; omega)
            have e22_38 : (iw + 1 : Nat) = ((iw + 1)) := by first | rfl | omega | (simp [pcR, pcS, itN_s, Int32.not_lt, Int32.not_le, c_16_4, Nat.not_le.mpr c_16_4, c_36_12, Nat.not_lt.mpr c_36_12, c_62_19, c_67_25, c_73_31, Int32.not_le.mp c_73_31]; done) | (simp [pcR, pcS, itN_s, Int32.not_lt, Int32.not_le, c_16_4, Nat.not_le.mpr c_16_4, c_36_12, Nat.not_lt.mpr c_36_12, c_62_19, c_67_25, c_73_31, Int32.not_le.mp c_73_31]; omega) | (revert c_16_4 c_36_12 c_62_19 c_67_25 c_73_31; simp +contextual [pcR, pcS, itN_s, Int32.not_lt, Int32.not_le]; done) | (revert c_16_4 c_36_12 c_62_19 c_67_25 c_73_31; simp +contextual [pcR, pcS, itN_s, Int32.not_lt, Int32.not_le]; omega)
            have hl22_39 : lv_has ls 7 [(0, .ref (v 0)), (1, .int (nI m0)), (4, .int (nI ir)), (2, .int ((itN (iw + 1) (pcS z m0 ir) (itN ir (pcR z m0) (-1, nI 0))).1)), (3, .int ((itN (iw + 1) (pcS z m0 ir) (itN ir (pcR z m0) (-1, nI 0))).2)), (5, .int (nI (iw + 1)))] := lv_eqv (l1 := [(0, .ref (v 0)), (1, .int (nI m0)), (4, .int (nI ir)), (2, .int (nI ((100 * ir) + iw))), (3, .int (nI (sumN m0 (fun j => ways z ir (iw + j))))), (5, .int (nI (iw + 1)))]) (lv_sub hl [4, 5, 6, 2, 1, 0] rfl) (lv_ce rfl (lv_ce rfl (lv_ce rfl (lv_ce (congrArg Value.int e22_36) (lv_ce (congrArg Value.int e22_37) (lv_ce (congrArg (fun x => Value.int (nI x)) e22_38) rfl))))))
            exact ih22 _ (by omega) (hl22_39)
set_option maxRecDepth 20000 in
theorem iX3_forget_3 : ∀ w ∈ wsX30, w ∈ wsX3_forget := by decide +kernel
set_option maxHeartbeats 4000000 in
set_option maxRecDepth 100000 in
theorem c_X3_forget (l : Launch) (D : va_G) (cI cC cH cL : ClassId) (v : Nat → Nat) (b : Nat → Nat) (z : ZZ) (lk : Bool) (pe cn rk : ZZ)   : Met l yX3_forget wsX3_forget ({ frames := 0, cells := 0, slots := 0, locals := 0 }) (kw [.ref (v 0)] D (HW b cI z ++ SW v (b 0) cI (bI lk) pe cn rk) (kT cI cC cH cL)) (kq D (HW b cI z ++ SW v (b 0) cI (bI lk) pe cn rk) (HW b cI z ++ SW v (b 0) cI (bI false) pe cn rk) (.returned none)) 0 0 (kA (HW b cI z ++ SW v (b 0) cI (bI lk) pe cn rk)) := by
  refine Met.ofW (cc := cX3_forget) (maxL := 1) (ret := none) (by decide) rfl ?_
  intro p e s m args below meth c s₁ B hml hv
  obtain ⟨rfl, hP, hK, hD0⟩ := hv
  have hx := B.exec
  have hb := B.bytes
  have hrt := B.returns
  have hts := atoms_spec (ws := wsX3_forget) B.pre
  have hown : s.vm.findClass RX3 = some m.cls := findClass_of_methodNamed B.named
  have hlocks := B.notSynchronized
  have hl := lv_entry ([.ref (v 0)]) (n := 1) (Nat.le_of_ble_eq_true rfl)
  rw [lg_entry_eq]
  generalize (lg_sl ([.ref (v 0)]) ++ List.replicate (1 - (lg_sl ([.ref (v 0)])).length) Slot.unset).toArray = ls at hl ⊢
  have hl : lv_has ls 1 [(0, .ref (v 0))] := hl
  have hD := kA_self hD0
  obtain ⟨w0, hw0⟩ : ∃ w : va_W, w = HW b cI z ++ SW v (b 0) cI (bI lk) pe cn rk := ⟨_, rfl⟩
  have hD : va_D (kA w0) (HW b cI z ++ SW v (b 0) cI (bI lk) pe cn rk) := by rw [hw0]; exact hD
  have hS : va_S (kA w0) s.heap s.heap [] := va_S.rf
  rw [show kA (HW b cI z ++ SW v (b 0) cI (bI lk) pe cn rk) = kA w0 from by rw [hw0], show kq D (HW b cI z ++ SW v (b 0) cI (bI lk) pe cn rk) = kq D w0 from by rw [hw0]]
  have hP : va_P D vwCl (HW b cI z ++ SW v (b 0) cI (bI lk) pe cn rk) s.heap := hP
  refine lv_aload_n hx hb dX3_forget_0 rfl (lv_at hl 0 rfl) ?_
  refine lv_iconst (v := nI 0) hx hb dX3_forget_1 (by decide) ?_
  refine va_put (D := D) (ci := 3) (v := .int (bI false)) (ty := .boolean) (C := RX3) (T := TX3) (N := 5) hx hb hts iX3_forget_3 tyX3 tyX3_ok nmX3 hown hK hP hD hS 9 rfl rfl 1 (by decide) (hts (.fieldLink RX3 28 "HallSights$Survey" "looked" "Z") (List.mem_of_getElem? (i := 1) rfl)) (fun _ h9 => h9) rfl (by decide +kernel) (by decide) (by decide) (Nat.le_of_ble_eq_true rfl) dX3_forget_2 (fun H locs hP hD hS => ?_)
  have hP : va_P D vwCl (HW b cI z ++ SW v (b 0) cI (bI false) pe cn rk) H := hP
  have hD : va_D (kA w0) (HW b cI z ++ SW v (b 0) cI (bI false) pe cn rk) := hD
  subst hw0
  exact kq_vret hx hb hrt hlocks hP hD hS dX3_forget_5
set_option maxRecDepth 20000 in
theorem iX3_look_0 : ∀ w ∈ wsX00, w ∈ wsX3_look := by decide +kernel
set_option maxRecDepth 20000 in
theorem iX3_look_3 : ∀ w ∈ wsX30, w ∈ wsX3_look := by decide +kernel
set_option maxHeartbeats 4000000 in
set_option maxRecDepth 100000 in
theorem c_X3_look (l : Launch) (D : va_G) (cI cC cH cL : ClassId) (v : Nat → Nat) (b : Nat → Nat) (z : ZZ) (lk : Bool) (pe cn rk : ZZ)  (hw : WF z) (hws : WS z) : Met l yX3_look wsX3_look ({ frames := 3, cells := 0, slots := 0, locals := 92 }) (kw [.ref (v 0)] D (HW b cI z ++ SW v (b 0) cI (bI lk) pe cn rk) (kT cI cC cH cL)) (kq D (HW b cI z ++ SW v (b 0) cI (bI lk) pe cn rk) (HW b cI z ++ SW v (b 0) cI (bI true) (lkP lk (people z) z pe) (lkP lk ((fun r s => colsW z r s (-1))) z cn) (lkP lk (rkN z) z rk)) (.returned none)) 0 0 (kA (HW b cI z ++ SW v (b 0) cI (bI lk) pe cn rk)) := by
  refine Met.ofW (cc := cX3_look) (maxL := 4) (ret := none) (by decide) rfl ?_
  intro p e s m args below meth c s₁ B hml hv
  obtain ⟨rfl, hP, hK, hD0⟩ := hv
  have hx := B.exec
  have hb := B.bytes
  have hrt := B.returns
  have hts := atoms_spec (ws := wsX3_look) B.pre
  have hown : s.vm.findClass RX3 = some m.cls := findClass_of_methodNamed B.named
  have hlocks := B.notSynchronized
  have hl := lv_entry ([.ref (v 0)]) (n := 4) (Nat.le_of_ble_eq_true rfl)
  rw [lg_entry_eq]
  generalize (lg_sl ([.ref (v 0)]) ++ List.replicate (4 - (lg_sl ([.ref (v 0)])).length) Slot.unset).toArray = ls at hl ⊢
  have hl : lv_has ls 4 [(0, .ref (v 0))] := hl
  have hD := kA_self hD0
  obtain ⟨w0, hw0⟩ : ∃ w : va_W, w = HW b cI z ++ SW v (b 0) cI (bI lk) pe cn rk := ⟨_, rfl⟩
  have hD : va_D (kA w0) (HW b cI z ++ SW v (b 0) cI (bI lk) pe cn rk) := by rw [hw0]; exact hD
  have hS : va_S (kA w0) s.heap s.heap [] := va_S.rf
  rw [show kA (HW b cI z ++ SW v (b 0) cI (bI lk) pe cn rk) = kA w0 from by rw [hw0], show kq D (HW b cI z ++ SW v (b 0) cI (bI lk) pe cn rk) = kq D w0 from by rw [hw0]]
  have hP : va_P D vwCl (HW b cI z ++ SW v (b 0) cI (bI lk) pe cn rk) s.heap := hP
  have hR10 := wf_R10 hw
  have hC4 := wf_C4 hw
  refine lv_aload_n hx hb dX3_look_0 rfl (lv_at hl 0 rfl) ?_
  refine va_get (D := D) (ci := 3) (v := .int (bI lk)) (C := RX3) (T := TX3) (N := 5) hx hb hts iX3_look_3 hown hK hP 9 rfl rfl 1 (by decide) (hts (.fieldLink RX3 28 "HallSights$Survey" "looked" "Z") (List.mem_of_getElem? (i := 1) rfl)) (fun _ h9 => h9) rfl dX3_look_1 ?_
  refine kx_if_eqb (tgt := 8) hx hb dX3_look_4 (by decide) (fun c_4_0 => ?_) (fun c_4_1 => ?_)
  · refine lv_iconst (v := nI 0) hx hb dX3_look_8 (by decide) ?_
    refine lv_istore_n (lv' := [(1, .int (nI 0)), (0, .ref (v 0))]) hx hb dX3_look_9 rfl hl (by decide) rfl (fun ls hl => ?_)
    have ec_pe_2 : (pe : ZZ) = (itN 0 (lkR (people z) z) pe) := by first | rfl | omega | (simp [lkP, lkF, Int32.not_lt, Int32.not_le, c_4_0]; done) | (simp [lkP, lkF, Int32.not_lt, Int32.not_le, c_4_0]; omega) | (revert c_4_0; simp +contextual [lkP, lkF, Int32.not_lt, Int32.not_le]; done) | (revert c_4_0; simp +contextual [lkP, lkF, Int32.not_lt, Int32.not_le]; omega)
    have ec_cn_3 : (cn : ZZ) = (itN 0 (lkR ((fun r s => colsW z r s (-1))) z) cn) := by first | rfl | omega | (simp [lkP, lkF, Int32.not_lt, Int32.not_le, c_4_0]; done) | (simp [lkP, lkF, Int32.not_lt, Int32.not_le, c_4_0]; omega) | (revert c_4_0; simp +contextual [lkP, lkF, Int32.not_lt, Int32.not_le]; done) | (revert c_4_0; simp +contextual [lkP, lkF, Int32.not_lt, Int32.not_le]; omega)
    have ec_rk_4 : (rk : ZZ) = (itN 0 (lkR (rkN z) z) rk) := by first | rfl | omega | (simp [lkP, lkF, Int32.not_lt, Int32.not_le, c_4_0]; done) | (simp [lkP, lkF, Int32.not_lt, Int32.not_le, c_4_0]; omega) | (revert c_4_0; simp +contextual [lkP, lkF, Int32.not_lt, Int32.not_le]; done) | (revert c_4_0; simp +contextual [lkP, lkF, Int32.not_lt, Int32.not_le]; omega)
    have ew_5 : (HW b cI z ++ SW v (b 0) cI (bI lk) pe cn rk : va_W) = (HW b cI z ++ SW v (b 0) cI (bI lk) (itN 0 (lkR (people z) z) pe) (itN 0 (lkR ((fun r s => colsW z r s (-1))) z) cn) (itN 0 (lkR (rkN z) z) rk)) := sv_c rfl ec_pe_2 ec_cn_3 ec_rk_4
    rw [ew_5] at hP hD
    refine kx_upW (fun k H locs ls => (va_P D vwCl (HW b cI z ++ SW v (b 0) cI (bI lk) (itN k (lkR (people z) z) pe) (itN k (lkR ((fun r s => colsW z r s (-1))) z) cn) (itN k (lkR (rkN z) z) rk)) H ∧ va_D (kA w0) (HW b cI z ++ SW v (b 0) cI (bI lk) (itN k (lkR (people z) z) pe) (itN k (lkR ((fun r s => colsW z r s (-1))) z) cn) (itN k (lkR (rkN z) z) rk)) ∧ va_S (kA w0) s.heap H locs) ∧ lv_has ls 4 [(0, .ref (v 0)), (1, .int (nI k))]) (0) (nR z) (by omega) _ _ ls ⟨⟨hP, hD, hS⟩, (lv_sub hl [1, 0] rfl)⟩ ?_
    clear hP hD hS
    intro ir H locs ls hirl hirh hp ih10
    obtain ⟨⟨hP, hD, hS⟩, hp⟩ := hp
    have hl := hp
    refine lv_iload_n hx hb dX3_look_10 rfl (lv_at hl 1 rfl) ?_
    refine lv_aload_n hx hb dX3_look_11 rfl (lv_at hl 0 rfl) ?_
    refine va_get (D := D) (ci := 3) (v := .ref (b 0)) (C := RX3) (T := TX3) (N := 5) hx hb hts iX3_look_3 hown hK hP 9 rfl rfl 0 (by decide) (hts (.fieldLink RX3 12 "HallSights$Survey" "hall" "LHallSights$Hall;") (List.mem_of_getElem? (i := 2) rfl)) (fun _ h9 => h9) rfl dX3_look_12 ?_
    refine va_get (D := D) (ci := 0) (v := .int (z 3)) (C := RX0) (T := TX0) (N := 10) hx hb hts iX3_look_0 hown hK hP 0 rfl rfl 0 (by decide) (hts (.fieldLink RX3 32 "HallSights$Hall" "rows" "I") (List.mem_of_getElem? (i := 3) rfl)) (fun _ h9 => h9) rfl dX3_look_15 ?_
    refine kx_top (wf_R hw) ?_
    refine kx_icmp_ge (tgt := 96) hx hb (by omega) (by omega) dX3_look_18 (by decide) (fun c_18_6 => ?_) (fun c_18_7 => ?_)
    · have hq8 : nR z = ir := by omega
      subst hq8
      refine lv_aload_n hx hb dX3_look_96 rfl (lv_at hl 0 rfl) ?_
      refine lv_iconst (v := nI 1) hx hb dX3_look_97 (by decide) ?_
      refine va_put (D := D) (ci := 3) (v := .int (bI true)) (ty := .boolean) (C := RX3) (T := TX3) (N := 5) hx hb hts iX3_look_3 tyX3 tyX3_ok nmX3 hown hK hP hD hS 9 rfl rfl 1 (by decide) (hts (.fieldLink RX3 28 "HallSights$Survey" "looked" "Z") (List.mem_of_getElem? (i := 1) rfl)) (fun _ h9 => h9) rfl (by decide +kernel) (by decide) (by decide) (Nat.le_of_ble_eq_true rfl) dX3_look_98 (fun H locs hP hD hS => ?_)
      have hP : va_P D vwCl (HW b cI z ++ SW v (b 0) cI (bI true) (itN (nR z) (lkR (people z) z) pe) (itN (nR z) (lkR ((fun r s => colsW z r s (-1))) z) cn) (itN (nR z) (lkR (rkN z) z) rk)) H := hP
      have hD : va_D (kA w0) (HW b cI z ++ SW v (b 0) cI (bI true) (itN (nR z) (lkR (people z) z) pe) (itN (nR z) (lkR ((fun r s => colsW z r s (-1))) z) cn) (itN (nR z) (lkR (rkN z) z) rk)) := hD
      have ec_pe_9 : ((itN (nR z) (lkR (people z) z) pe) : ZZ) = (lkP lk (people z) z pe) := by first | rfl | omega | (simp [lkP, lkF, Int32.not_lt, Int32.not_le, c_4_0, c_18_6, Nat.not_lt.mpr c_18_6]; done) | (simp [lkP, lkF, Int32.not_lt, Int32.not_le, c_4_0, c_18_6, Nat.not_lt.mpr c_18_6]; omega) | (revert c_4_0 c_18_6; simp +contextual [lkP, lkF, Int32.not_lt, Int32.not_le]; done) | (revert c_4_0 c_18_6; simp +contextual [lkP, lkF, Int32.not_lt, Int32.not_le]; omega)
      have ec_cn_10 : ((itN (nR z) (lkR ((fun r s => colsW z r s (-1))) z) cn) : ZZ) = (lkP lk ((fun r s => colsW z r s (-1))) z cn) := by first | rfl | omega | (simp [lkP, lkF, Int32.not_lt, Int32.not_le, c_4_0, c_18_6, Nat.not_lt.mpr c_18_6]; done) | (simp [lkP, lkF, Int32.not_lt, Int32.not_le, c_4_0, c_18_6, Nat.not_lt.mpr c_18_6]; omega) | (revert c_4_0 c_18_6; simp +contextual [lkP, lkF, Int32.not_lt, Int32.not_le]; done) | (revert c_4_0 c_18_6; simp +contextual [lkP, lkF, Int32.not_lt, Int32.not_le]; omega)
      have ec_rk_11 : ((itN (nR z) (lkR (rkN z) z) rk) : ZZ) = (lkP lk (rkN z) z rk) := by first | rfl | omega | (simp [lkP, lkF, Int32.not_lt, Int32.not_le, c_4_0, c_18_6, Nat.not_lt.mpr c_18_6]; done) | (simp [lkP, lkF, Int32.not_lt, Int32.not_le, c_4_0, c_18_6, Nat.not_lt.mpr c_18_6]; omega) | (revert c_4_0 c_18_6; simp +contextual [lkP, lkF, Int32.not_lt, Int32.not_le]; done) | (revert c_4_0 c_18_6; simp +contextual [lkP, lkF, Int32.not_lt, Int32.not_le]; omega)
      have ew_12 : (HW b cI z ++ SW v (b 0) cI (bI true) (itN (nR z) (lkR (people z) z) pe) (itN (nR z) (lkR ((fun r s => colsW z r s (-1))) z) cn) (itN (nR z) (lkR (rkN z) z) rk) : va_W) = (HW b cI z ++ SW v (b 0) cI (bI true) (lkP lk (people z) z pe) (lkP lk ((fun r s => colsW z r s (-1))) z cn) (lkP lk (rkN z) z rk)) := sv_c rfl ec_pe_9 ec_cn_10 ec_rk_11
      rw [ew_12] at hP hD
      subst hw0
      exact kq_vret hx hb hrt hlocks hP hD hS dX3_look_101
    · refine lv_iconst (v := nI 0) hx hb dX3_look_21 (by decide) ?_
      refine lv_istore_n (lv' := [(2, .int (nI 0)), (0, .ref (v 0)), (1, .int (nI ir))]) hx hb dX3_look_22 rfl hl (by decide) rfl (fun ls hl => ?_)
      have ec_pe_13 : ((itN ir (lkR (people z) z) pe) : ZZ) = (itN 0 (lkS (people z) ir) (itN ir (lkR (people z) z) pe)) := by first | rfl | omega | (simp [lkP, lkF, Int32.not_lt, Int32.not_le, c_4_0, c_18_7, Nat.not_le.mpr c_18_7]; done) | (simp [lkP, lkF, Int32.not_lt, Int32.not_le, c_4_0, c_18_7, Nat.not_le.mpr c_18_7]; omega) | (revert c_4_0 c_18_7; simp +contextual [lkP, lkF, Int32.not_lt, Int32.not_le]; done) | (revert c_4_0 c_18_7; simp +contextual [lkP, lkF, Int32.not_lt, Int32.not_le]; omega)
      have ec_cn_14 : ((itN ir (lkR ((fun r s => colsW z r s (-1))) z) cn) : ZZ) = (itN 0 (lkS ((fun r s => colsW z r s (-1))) ir) (itN ir (lkR ((fun r s => colsW z r s (-1))) z) cn)) := by first | rfl | omega | (simp [lkP, lkF, Int32.not_lt, Int32.not_le, c_4_0, c_18_7, Nat.not_le.mpr c_18_7]; done) | (simp [lkP, lkF, Int32.not_lt, Int32.not_le, c_4_0, c_18_7, Nat.not_le.mpr c_18_7]; omega) | (revert c_4_0 c_18_7; simp +contextual [lkP, lkF, Int32.not_lt, Int32.not_le]; done) | (revert c_4_0 c_18_7; simp +contextual [lkP, lkF, Int32.not_lt, Int32.not_le]; omega)
      have ec_rk_15 : ((itN ir (lkR (rkN z) z) rk) : ZZ) = (itN 0 (lkS (rkN z) ir) (itN ir (lkR (rkN z) z) rk)) := by first | rfl | omega | (simp [lkP, lkF, Int32.not_lt, Int32.not_le, c_4_0, c_18_7, Nat.not_le.mpr c_18_7]; done) | (simp [lkP, lkF, Int32.not_lt, Int32.not_le, c_4_0, c_18_7, Nat.not_le.mpr c_18_7]; omega) | (revert c_4_0 c_18_7; simp +contextual [lkP, lkF, Int32.not_lt, Int32.not_le]; done) | (revert c_4_0 c_18_7; simp +contextual [lkP, lkF, Int32.not_lt, Int32.not_le]; omega)
      have ew_16 : (HW b cI z ++ SW v (b 0) cI (bI lk) (itN ir (lkR (people z) z) pe) (itN ir (lkR ((fun r s => colsW z r s (-1))) z) cn) (itN ir (lkR (rkN z) z) rk) : va_W) = (HW b cI z ++ SW v (b 0) cI (bI lk) (itN 0 (lkS (people z) ir) (itN ir (lkR (people z) z) pe)) (itN 0 (lkS ((fun r s => colsW z r s (-1))) ir) (itN ir (lkR ((fun r s => colsW z r s (-1))) z) cn)) (itN 0 (lkS (rkN z) ir) (itN ir (lkR (rkN z) z) rk))) := sv_c rfl ec_pe_13 ec_cn_14 ec_rk_15
      rw [ew_16] at hP hD
      refine kx_upW (fun k H locs ls => (va_P D vwCl (HW b cI z ++ SW v (b 0) cI (bI lk) (itN k (lkS (people z) ir) (itN ir (lkR (people z) z) pe)) (itN k (lkS ((fun r s => colsW z r s (-1))) ir) (itN ir (lkR ((fun r s => colsW z r s (-1))) z) cn)) (itN k (lkS (rkN z) ir) (itN ir (lkR (rkN z) z) rk))) H ∧ va_D (kA w0) (HW b cI z ++ SW v (b 0) cI (bI lk) (itN k (lkS (people z) ir) (itN ir (lkR (people z) z) pe)) (itN k (lkS ((fun r s => colsW z r s (-1))) ir) (itN ir (lkR ((fun r s => colsW z r s (-1))) z) cn)) (itN k (lkS (rkN z) ir) (itN ir (lkR (rkN z) z) rk))) ∧ va_S (kA w0) s.heap H locs) ∧ lv_has ls 4 [(0, .ref (v 0)), (1, .int (nI ir)), (2, .int (nI k))]) (0) (nS z ir) (by omega) _ _ ls ⟨⟨hP, hD, hS⟩, (lv_sub hl [1, 2, 0] rfl)⟩ ?_
      clear hP hD hS
      intro iw H locs ls hiwl hiwh hp ih23
      obtain ⟨⟨hP, hD, hS⟩, hp⟩ := hp
      have hl := hp
      have hSi := wf_S12 hw (show ir < nR z by omega)
      refine lv_iload_n hx hb dX3_look_23 rfl (lv_at hl 2 rfl) ?_
      refine lv_aload_n hx hb dX3_look_24 rfl (lv_at hl 0 rfl) ?_
      refine va_get (D := D) (ci := 3) (v := .ref (b 0)) (C := RX3) (T := TX3) (N := 5) hx hb hts iX3_look_3 hown hK hP 9 rfl rfl 0 (by decide) (hts (.fieldLink RX3 12 "HallSights$Survey" "hall" "LHallSights$Hall;") (List.mem_of_getElem? (i := 2) rfl)) (fun _ h9 => h9) rfl dX3_look_25 ?_
      refine va_get (D := D) (ci := 0) (v := .ref (b 3)) (C := RX0) (T := TX0) (N := 10) hx hb hts iX3_look_0 hown hK hP 0 rfl rfl 3 (by decide) (hts (.fieldLink RX3 36 "HallSights$Hall" "seats" "[I") (List.mem_of_getElem? (i := 4) rfl)) (fun _ h9 => h9) rfl dX3_look_28 ?_
      refine lv_iload_n hx hb dX3_look_31 rfl (lv_at hl 1 rfl) ?_
      refine kx_iald hx hb hK hP 3 0 rfl rfl (by omega) (by decide) dX3_look_32 ?_
      refine kx_top (wf_S hw (show (ir) < nR z by omega)) ?_
      have hS12_17 := wf_S12 hw (show (ir) < nR z by omega)
      refine kx_icmp_ge (tgt := 90) hx hb (by omega) (by omega) dX3_look_33 (by decide) (fun c_33_18 => ?_) (fun c_33_19 => ?_)
      · have hq20 : nS z ir = iw := by omega
        subst hq20
        refine lv_iinc (v := nI (ir + 1)) (lv' := [(1, .int (nI (ir + 1))), (0, .ref (v 0)), (2, .int (nI (nS z ir)))]) hx hb dX3_look_90 hl (k := 1) rfl (kx_inc 1) (by decide) rfl (fun ls hl => ?_)
        refine lv_goto (tgt := 10) hx hb dX3_look_93 (by decide) ?_
        have e10_21 : (ir + 1 : Nat) = ((ir + 1)) := by first | rfl | omega | (simp [lkP, lkF, Int32.not_lt, Int32.not_le, c_4_0, c_18_7, Nat.not_le.mpr c_18_7, c_33_18, Nat.not_lt.mpr c_33_18]; done) | (simp [lkP, lkF, Int32.not_lt, Int32.not_le, c_4_0, c_18_7, Nat.not_le.mpr c_18_7, c_33_18, Nat.not_lt.mpr c_33_18]; omega) | (revert c_4_0 c_18_7 c_33_18; simp +contextual [lkP, lkF, Int32.not_lt, Int32.not_le]; done) | (revert c_4_0 c_18_7 c_33_18; simp +contextual [lkP, lkF, Int32.not_lt, Int32.not_le]; omega)
        have hl10_22 : lv_has ls 4 [(0, .ref (v 0)), (1, .int (nI (ir + 1)))] := lv_eqv (l1 := [(0, .ref (v 0)), (1, .int (nI (ir + 1)))]) (lv_sub hl [1, 0] rfl) (lv_ce rfl (lv_ce (congrArg (fun x => Value.int (nI x)) e10_21) rfl))
        have ec_pe_23 : ((itN (nS z ir) (lkS (people z) ir) (itN ir (lkR (people z) z) pe)) : ZZ) = (itN (ir + 1) (lkR (people z) z) pe) := by first | rfl | omega | (simp [lkP, lkF, Int32.not_lt, Int32.not_le, c_4_0, c_18_7, Nat.not_le.mpr c_18_7, c_33_18, Nat.not_lt.mpr c_33_18]; done) | (simp [lkP, lkF, Int32.not_lt, Int32.not_le, c_4_0, c_18_7, Nat.not_le.mpr c_18_7, c_33_18, Nat.not_lt.mpr c_33_18]; omega) | (revert c_4_0 c_18_7 c_33_18; simp +contextual [lkP, lkF, Int32.not_lt, Int32.not_le]; done) | (revert c_4_0 c_18_7 c_33_18; simp +contextual [lkP, lkF, Int32.not_lt, Int32.not_le]; omega)
        have ec_cn_24 : ((itN (nS z ir) (lkS ((fun r s => colsW z r s (-1))) ir) (itN ir (lkR ((fun r s => colsW z r s (-1))) z) cn)) : ZZ) = (itN (ir + 1) (lkR ((fun r s => colsW z r s (-1))) z) cn) := by first | rfl | omega | (simp [lkP, lkF, Int32.not_lt, Int32.not_le, c_4_0, c_18_7, Nat.not_le.mpr c_18_7, c_33_18, Nat.not_lt.mpr c_33_18]; done) | (simp [lkP, lkF, Int32.not_lt, Int32.not_le, c_4_0, c_18_7, Nat.not_le.mpr c_18_7, c_33_18, Nat.not_lt.mpr c_33_18]; omega) | (revert c_4_0 c_18_7 c_33_18; simp +contextual [lkP, lkF, Int32.not_lt, Int32.not_le]; done) | (revert c_4_0 c_18_7 c_33_18; simp +contextual [lkP, lkF, Int32.not_lt, Int32.not_le]; omega)
        have ec_rk_25 : ((itN (nS z ir) (lkS (rkN z) ir) (itN ir (lkR (rkN z) z) rk)) : ZZ) = (itN (ir + 1) (lkR (rkN z) z) rk) := by first | rfl | omega | (simp [lkP, lkF, Int32.not_lt, Int32.not_le, c_4_0, c_18_7, Nat.not_le.mpr c_18_7, c_33_18, Nat.not_lt.mpr c_33_18]; done) | (simp [lkP, lkF, Int32.not_lt, Int32.not_le, c_4_0, c_18_7, Nat.not_le.mpr c_18_7, c_33_18, Nat.not_lt.mpr c_33_18]; omega) | (revert c_4_0 c_18_7 c_33_18; simp +contextual [lkP, lkF, Int32.not_lt, Int32.not_le]; done) | (revert c_4_0 c_18_7 c_33_18; simp +contextual [lkP, lkF, Int32.not_lt, Int32.not_le]; omega)
        have ew_26 : (HW b cI z ++ SW v (b 0) cI (bI lk) (itN (nS z ir) (lkS (people z) ir) (itN ir (lkR (people z) z) pe)) (itN (nS z ir) (lkS ((fun r s => colsW z r s (-1))) ir) (itN ir (lkR ((fun r s => colsW z r s (-1))) z) cn)) (itN (nS z ir) (lkS (rkN z) ir) (itN ir (lkR (rkN z) z) rk)) : va_W) = (HW b cI z ++ SW v (b 0) cI (bI lk) (itN (ir + 1) (lkR (people z) z) pe) (itN (ir + 1) (lkR ((fun r s => colsW z r s (-1))) z) cn) (itN (ir + 1) (lkR (rkN z) z) rk)) := sv_c rfl ec_pe_23 ec_cn_24 ec_rk_25
        rw [ew_26] at hP hD
        exact ih10 _ _ _ (by omega) ⟨⟨hP, hD, hS⟩, hl10_22⟩
      · refine lv_iload_n hx hb dX3_look_36 rfl (lv_at hl 1 rfl) ?_
        refine lv_iload_n hx hb dX3_look_37 rfl (lv_at hl 2 rfl) ?_
        refine kr_S (As := [.int (nI ir), .int (nI iw)]) (rest := []) (own := RX3) ⟨hx, hb, hml, hown, hts⟩ (c_X3_cellOf l D cI cC cH cL  ir iw ) (va_cwS 2 hts gX3_look_X3_cellOf rfl rfl rfl k_X3_cellOfS ⟨Nat.le_of_ble_eq_true rfl, Nat.le_of_ble_eq_true rfl⟩) (hP.sub (ws' := []) [] rfl) hK rfl hl.1 rfl (Nat.le_of_ble_eq_true rfl) dX3_look_38 ⟨Nat.le_of_ble_eq_true rfl, Nat.le_of_ble_eq_true rfl⟩ ?_
        refine lv_istore_n (lv' := [(3, .int (nI (ir * 12 + iw))), (0, .ref (v 0)), (1, .int (nI ir)), (2, .int (nI iw))]) hx hb dX3_look_41 rfl hl (by decide) rfl (fun ls hl => ?_)
        refine lv_aload_n hx hb dX3_look_42 rfl (lv_at hl 1 rfl) ?_
        refine va_get (D := D) (ci := 3) (v := .ref (v 1)) (C := RX3) (T := TX3) (N := 5) hx hb hts iX3_look_3 hown hK hP 9 rfl rfl 2 (by decide) (hts (.fieldLink RX3 18 "HallSights$Survey" "people" "[I") (List.mem_of_getElem? (i := 5) rfl)) (fun _ h9 => h9) rfl dX3_look_43 ?_
        refine lv_iload_n hx hb dX3_look_46 rfl (lv_at hl 0 rfl) ?_
        refine lv_aload_n hx hb dX3_look_47 rfl (lv_at hl 1 rfl) ?_
        refine va_get (D := D) (ci := 3) (v := .ref (b 0)) (C := RX3) (T := TX3) (N := 5) hx hb hts iX3_look_3 hown hK hP 9 rfl rfl 0 (by decide) (hts (.fieldLink RX3 12 "HallSights$Survey" "hall" "LHallSights$Hall;") (List.mem_of_getElem? (i := 2) rfl)) (fun _ h9 => h9) rfl dX3_look_48 ?_
        refine lv_iload_n hx hb dX3_look_51 rfl (lv_at hl 2 rfl) ?_
        refine lv_iload_n hx hb dX3_look_52 rfl (lv_at hl 3 rfl) ?_
        refine kr_V (As := [.int (nI ir), .int (nI iw)]) (rest := [.int (nI (ir * 12 + iw)), .ref (v 1)]) (C := RX0) (own := RX3) ⟨hx, hb, hml, hown, hts⟩ (c_X0_peopleInWay l D cI cC cH cL b z ir iw (by first | assumption | omega) (by first | assumption | omega) (by first | assumption | omega)) (cwV 2 hts gX3_look_X0_peopleInWay rfl rfl rfl k_X0_peopleInWay ⟨Nat.le_of_ble_eq_true rfl, Nat.le_of_ble_eq_true rfl⟩) (hP.sub (ws' := (HW b cI z)) [0, 1, 2, 3, 4, 5, 6, 7, 8] rfl) hK (va_recv (q := (RX0, TX0, 10)) hK hP (ci := 0) (q0 := 0) rfl rfl) rfl hl.1 rfl (Nat.le_of_ble_eq_true rfl) dX3_look_53 ⟨Nat.le_of_ble_eq_true rfl, Nat.le_of_ble_eq_true rfl⟩ ?_
        refine kx_iast hx hb hK hP hD hS 10 0 rfl rfl (by omega) (by decide) dX3_look_56 (fun H locs hP hD hS => ?_)
        have hP : va_P D vwCl (HW b cI z ++ SW v (b 0) cI (bI lk) (upd (itN iw (lkS (people z) ir) (itN ir (lkR (people z) z) pe)) (ir * 12 + iw) (nI (people z ir iw))) (itN iw (lkS ((fun r s => colsW z r s (-1))) ir) (itN ir (lkR ((fun r s => colsW z r s (-1))) z) cn)) (itN iw (lkS (rkN z) ir) (itN ir (lkR (rkN z) z) rk))) H := hP
        have hD : va_D (kA w0) (HW b cI z ++ SW v (b 0) cI (bI lk) (upd (itN iw (lkS (people z) ir) (itN ir (lkR (people z) z) pe)) (ir * 12 + iw) (nI (people z ir iw))) (itN iw (lkS ((fun r s => colsW z r s (-1))) ir) (itN ir (lkR ((fun r s => colsW z r s (-1))) z) cn)) (itN iw (lkS (rkN z) ir) (itN ir (lkR (rkN z) z) rk))) := hD
        refine lv_aload_n hx hb dX3_look_57 rfl (lv_at hl 1 rfl) ?_
        refine va_get (D := D) (ci := 3) (v := .ref (v 2)) (C := RX3) (T := TX3) (N := 5) hx hb hts iX3_look_3 hown hK hP 9 rfl rfl 3 (by decide) (hts (.fieldLink RX3 22 "HallSights$Survey" "columns" "[I") (List.mem_of_getElem? (i := 6) rfl)) (fun _ h9 => h9) rfl dX3_look_58 ?_
        refine lv_iload_n hx hb dX3_look_61 rfl (lv_at hl 0 rfl) ?_
        refine lv_aload_n hx hb dX3_look_62 rfl (lv_at hl 1 rfl) ?_
        refine va_get (D := D) (ci := 3) (v := .ref (b 0)) (C := RX3) (T := TX3) (N := 5) hx hb hts iX3_look_3 hown hK hP 9 rfl rfl 0 (by decide) (hts (.fieldLink RX3 12 "HallSights$Survey" "hall" "LHallSights$Hall;") (List.mem_of_getElem? (i := 2) rfl)) (fun _ h9 => h9) rfl dX3_look_63 ?_
        refine lv_iload_n hx hb dX3_look_66 rfl (lv_at hl 2 rfl) ?_
        refine lv_iload_n hx hb dX3_look_67 rfl (lv_at hl 3 rfl) ?_
        refine kr_V (As := [.int (nI ir), .int (nI iw)]) (rest := [.int (nI (ir * 12 + iw)), .ref (v 2)]) (C := RX0) (own := RX3) ⟨hx, hb, hml, hown, hts⟩ (c_X0_columnsInWay l D cI cC cH cL b z ir iw (by first | assumption | omega) (by first | assumption | omega)) (cwV 2 hts gX3_look_X0_columnsInWay rfl rfl rfl k_X0_columnsInWay ⟨Nat.le_of_ble_eq_true rfl, Nat.le_of_ble_eq_true rfl⟩) (hP.sub (ws' := (HW b cI z)) [0, 1, 2, 3, 4, 5, 6, 7, 8] rfl) hK (va_recv (q := (RX0, TX0, 10)) hK hP (ci := 0) (q0 := 0) rfl rfl) rfl hl.1 rfl (Nat.le_of_ble_eq_true rfl) dX3_look_68 ⟨Nat.le_of_ble_eq_true rfl, Nat.le_of_ble_eq_true rfl⟩ ?_
        refine kx_top (show (nI (colsN z ir iw) : Int32) = nI (colsW z ir iw (-1)) from by rw [colsN_W hw]) ?_
        refine kx_iast hx hb hK hP hD hS 11 0 rfl rfl (by omega) (by decide) dX3_look_71 (fun H locs hP hD hS => ?_)
        have hP : va_P D vwCl (HW b cI z ++ SW v (b 0) cI (bI lk) (upd (itN iw (lkS (people z) ir) (itN ir (lkR (people z) z) pe)) (ir * 12 + iw) (nI (people z ir iw))) (upd (itN iw (lkS ((fun r s => colsW z r s (-1))) ir) (itN ir (lkR ((fun r s => colsW z r s (-1))) z) cn)) (ir * 12 + iw) (nI (colsW z ir iw (-1)))) (itN iw (lkS (rkN z) ir) (itN ir (lkR (rkN z) z) rk))) H := hP
        have hD : va_D (kA w0) (HW b cI z ++ SW v (b 0) cI (bI lk) (upd (itN iw (lkS (people z) ir) (itN ir (lkR (people z) z) pe)) (ir * 12 + iw) (nI (people z ir iw))) (upd (itN iw (lkS ((fun r s => colsW z r s (-1))) ir) (itN ir (lkR ((fun r s => colsW z r s (-1))) z) cn)) (ir * 12 + iw) (nI (colsW z ir iw (-1)))) (itN iw (lkS (rkN z) ir) (itN ir (lkR (rkN z) z) rk))) := hD
        refine lv_aload_n hx hb dX3_look_72 rfl (lv_at hl 1 rfl) ?_
        refine va_get (D := D) (ci := 3) (v := .ref (v 3)) (C := RX3) (T := TX3) (N := 5) hx hb hts iX3_look_3 hown hK hP 9 rfl rfl 4 (by decide) (hts (.fieldLink RX3 25 "HallSights$Survey" "ranks" "[I") (List.mem_of_getElem? (i := 7) rfl)) (fun _ h9 => h9) rfl dX3_look_73 ?_
        refine lv_iload_n hx hb dX3_look_76 rfl (lv_at hl 0 rfl) ?_
        refine lv_aload_n hx hb dX3_look_77 rfl (lv_at hl 1 rfl) ?_
        refine lv_iload_n hx hb dX3_look_78 rfl (lv_at hl 2 rfl) ?_
        refine lv_iload_n hx hb dX3_look_79 rfl (lv_at hl 3 rfl) ?_
        refine kr_V (As := [.int (nI ir), .int (nI iw)]) (rest := [.int (nI (ir * 12 + iw)), .ref (v 3)]) (C := RX3) (own := RX3) ⟨hx, hb, hml, hown, hts⟩ (c_X3_rankOf l D cI cC cH cL v b z lk (upd (itN iw (lkS (people z) ir) (itN ir (lkR (people z) z) pe)) (ir * 12 + iw) (nI (people z ir iw))) (upd (itN iw (lkS ((fun r s => colsW z r s (-1))) ir) (itN ir (lkR ((fun r s => colsW z r s (-1))) z) cn)) (ir * 12 + iw) (nI (colsW z ir iw (-1)))) (itN iw (lkS (rkN z) ir) (itN ir (lkR (rkN z) z) rk)) ir iw (by first | assumption | omega) (by first | assumption | omega) (by first | assumption | omega) (by unfold lkS; exact upd_eq) (by unfold lkS; exact upd_eq)) (cwV 2 hts gX3_look_X3_rankOf rfl rfl rfl k_X3_rankOf ⟨Nat.le_of_ble_eq_true rfl, Nat.le_of_ble_eq_true rfl⟩) hP hK (va_recv (q := (RX3, TX3, 5)) hK hP (ci := 3) (q0 := 9) rfl rfl) rfl hl.1 rfl (Nat.le_of_ble_eq_true rfl) dX3_look_80 ⟨Nat.le_of_ble_eq_true rfl, Nat.le_of_ble_eq_true rfl⟩ ?_
        refine kx_iast hx hb hK hP hD hS 12 0 rfl rfl (by omega) (by decide) dX3_look_83 (fun H locs hP hD hS => ?_)
        have hP : va_P D vwCl (HW b cI z ++ SW v (b 0) cI (bI lk) (upd (itN iw (lkS (people z) ir) (itN ir (lkR (people z) z) pe)) (ir * 12 + iw) (nI (people z ir iw))) (upd (itN iw (lkS ((fun r s => colsW z r s (-1))) ir) (itN ir (lkR ((fun r s => colsW z r s (-1))) z) cn)) (ir * 12 + iw) (nI (colsW z ir iw (-1)))) (upd (itN iw (lkS (rkN z) ir) (itN ir (lkR (rkN z) z) rk)) (ir * 12 + iw) (nI (rkN z ir iw)))) H := hP
        have hD : va_D (kA w0) (HW b cI z ++ SW v (b 0) cI (bI lk) (upd (itN iw (lkS (people z) ir) (itN ir (lkR (people z) z) pe)) (ir * 12 + iw) (nI (people z ir iw))) (upd (itN iw (lkS ((fun r s => colsW z r s (-1))) ir) (itN ir (lkR ((fun r s => colsW z r s (-1))) z) cn)) (ir * 12 + iw) (nI (colsW z ir iw (-1)))) (upd (itN iw (lkS (rkN z) ir) (itN ir (lkR (rkN z) z) rk)) (ir * 12 + iw) (nI (rkN z ir iw)))) := hD
        refine lv_iinc (v := nI (iw + 1)) (lv' := [(2, .int (nI (iw + 1))), (3, .int (nI (ir * 12 + iw))), (0, .ref (v 0)), (1, .int (nI ir))]) hx hb dX3_look_84 hl (k := 3) rfl (kx_inc 1) (by decide) rfl (fun ls hl => ?_)
        refine lv_goto (tgt := 23) hx hb dX3_look_87 (by decide) ?_
        have e23_27 : (iw + 1 : Nat) = ((iw + 1)) := by first | rfl | omega | (simp [lkP, lkF, Int32.not_lt, Int32.not_le, c_4_0, c_18_7, Nat.not_le.mpr c_18_7, c_33_19, Nat.not_le.mpr c_33_19]; done) | (simp [lkP, lkF, Int32.not_lt, Int32.not_le, c_4_0, c_18_7, Nat.not_le.mpr c_18_7, c_33_19, Nat.not_le.mpr c_33_19]; omega) | (revert c_4_0 c_18_7 c_33_19; simp +contextual [lkP, lkF, Int32.not_lt, Int32.not_le]; done) | (revert c_4_0 c_18_7 c_33_19; simp +contextual [lkP, lkF, Int32.not_lt, Int32.not_le]; omega)
        have hl23_28 : lv_has ls 4 [(0, .ref (v 0)), (1, .int (nI ir)), (2, .int (nI (iw + 1)))] := lv_eqv (l1 := [(0, .ref (v 0)), (1, .int (nI ir)), (2, .int (nI (iw + 1)))]) (lv_sub hl [2, 3, 0] rfl) (lv_ce rfl (lv_ce rfl (lv_ce (congrArg (fun x => Value.int (nI x)) e23_27) rfl)))
        have ec_pe_29 : ((upd (itN iw (lkS (people z) ir) (itN ir (lkR (people z) z) pe)) (ir * 12 + iw) (nI (people z ir iw))) : ZZ) = (itN (iw + 1) (lkS (people z) ir) (itN ir (lkR (people z) z) pe)) := by first | rfl | omega | (simp [lkP, lkF, Int32.not_lt, Int32.not_le, c_4_0, c_18_7, Nat.not_le.mpr c_18_7, c_33_19, Nat.not_le.mpr c_33_19]; done) | (simp [lkP, lkF, Int32.not_lt, Int32.not_le, c_4_0, c_18_7, Nat.not_le.mpr c_18_7, c_33_19, Nat.not_le.mpr c_33_19]; omega) | (revert c_4_0 c_18_7 c_33_19; simp +contextual [lkP, lkF, Int32.not_lt, Int32.not_le]; done) | (revert c_4_0 c_18_7 c_33_19; simp +contextual [lkP, lkF, Int32.not_lt, Int32.not_le]; omega)
        have ec_cn_30 : ((upd (itN iw (lkS ((fun r s => colsW z r s (-1))) ir) (itN ir (lkR ((fun r s => colsW z r s (-1))) z) cn)) (ir * 12 + iw) (nI (colsW z ir iw (-1)))) : ZZ) = (itN (iw + 1) (lkS ((fun r s => colsW z r s (-1))) ir) (itN ir (lkR ((fun r s => colsW z r s (-1))) z) cn)) := by first | rfl | omega | (simp [lkP, lkF, Int32.not_lt, Int32.not_le, c_4_0, c_18_7, Nat.not_le.mpr c_18_7, c_33_19, Nat.not_le.mpr c_33_19]; done) | (simp [lkP, lkF, Int32.not_lt, Int32.not_le, c_4_0, c_18_7, Nat.not_le.mpr c_18_7, c_33_19, Nat.not_le.mpr c_33_19]; omega) | (revert c_4_0 c_18_7 c_33_19; simp +contextual [lkP, lkF, Int32.not_lt, Int32.not_le]; done) | (revert c_4_0 c_18_7 c_33_19; simp +contextual [lkP, lkF, Int32.not_lt, Int32.not_le]; omega)
        have ec_rk_31 : ((upd (itN iw (lkS (rkN z) ir) (itN ir (lkR (rkN z) z) rk)) (ir * 12 + iw) (nI (rkN z ir iw))) : ZZ) = (itN (iw + 1) (lkS (rkN z) ir) (itN ir (lkR (rkN z) z) rk)) := by first | rfl | omega | (simp [lkP, lkF, Int32.not_lt, Int32.not_le, c_4_0, c_18_7, Nat.not_le.mpr c_18_7, c_33_19, Nat.not_le.mpr c_33_19]; done) | (simp [lkP, lkF, Int32.not_lt, Int32.not_le, c_4_0, c_18_7, Nat.not_le.mpr c_18_7, c_33_19, Nat.not_le.mpr c_33_19]; omega) | (revert c_4_0 c_18_7 c_33_19; simp +contextual [lkP, lkF, Int32.not_lt, Int32.not_le]; done) | (revert c_4_0 c_18_7 c_33_19; simp +contextual [lkP, lkF, Int32.not_lt, Int32.not_le]; omega)
        have ew_32 : (HW b cI z ++ SW v (b 0) cI (bI lk) (upd (itN iw (lkS (people z) ir) (itN ir (lkR (people z) z) pe)) (ir * 12 + iw) (nI (people z ir iw))) (upd (itN iw (lkS ((fun r s => colsW z r s (-1))) ir) (itN ir (lkR ((fun r s => colsW z r s (-1))) z) cn)) (ir * 12 + iw) (nI (colsW z ir iw (-1)))) (upd (itN iw (lkS (rkN z) ir) (itN ir (lkR (rkN z) z) rk)) (ir * 12 + iw) (nI (rkN z ir iw))) : va_W) = (HW b cI z ++ SW v (b 0) cI (bI lk) (itN (iw + 1) (lkS (people z) ir) (itN ir (lkR (people z) z) pe)) (itN (iw + 1) (lkS ((fun r s => colsW z r s (-1))) ir) (itN ir (lkR ((fun r s => colsW z r s (-1))) z) cn)) (itN (iw + 1) (lkS (rkN z) ir) (itN ir (lkR (rkN z) z) rk))) := sv_c rfl ec_pe_29 ec_cn_30 ec_rk_31
        rw [ew_32] at hP hD
        exact ih23 _ _ _ (by omega) ⟨⟨hP, hD, hS⟩, hl23_28⟩
  · have ec_lk_33 : ((bI lk) : Int32) = (bI true) := by first | rfl | omega | (simp [lkP, lkF, Int32.not_lt, Int32.not_le, c_4_1]; done) | (simp [lkP, lkF, Int32.not_lt, Int32.not_le, c_4_1]; omega) | (revert c_4_1; simp +contextual [lkP, lkF, Int32.not_lt, Int32.not_le]; done) | (revert c_4_1; simp +contextual [lkP, lkF, Int32.not_lt, Int32.not_le]; omega)
    have ec_pe_34 : (pe : ZZ) = (lkP lk (people z) z pe) := by first | rfl | omega | (simp [lkP, lkF, Int32.not_lt, Int32.not_le, c_4_1]; done) | (simp [lkP, lkF, Int32.not_lt, Int32.not_le, c_4_1]; omega) | (revert c_4_1; simp +contextual [lkP, lkF, Int32.not_lt, Int32.not_le]; done) | (revert c_4_1; simp +contextual [lkP, lkF, Int32.not_lt, Int32.not_le]; omega)
    have ec_cn_35 : (cn : ZZ) = (lkP lk ((fun r s => colsW z r s (-1))) z cn) := by first | rfl | omega | (simp [lkP, lkF, Int32.not_lt, Int32.not_le, c_4_1]; done) | (simp [lkP, lkF, Int32.not_lt, Int32.not_le, c_4_1]; omega) | (revert c_4_1; simp +contextual [lkP, lkF, Int32.not_lt, Int32.not_le]; done) | (revert c_4_1; simp +contextual [lkP, lkF, Int32.not_lt, Int32.not_le]; omega)
    have ec_rk_36 : (rk : ZZ) = (lkP lk (rkN z) z rk) := by first | rfl | omega | (simp [lkP, lkF, Int32.not_lt, Int32.not_le, c_4_1]; done) | (simp [lkP, lkF, Int32.not_lt, Int32.not_le, c_4_1]; omega) | (revert c_4_1; simp +contextual [lkP, lkF, Int32.not_lt, Int32.not_le]; done) | (revert c_4_1; simp +contextual [lkP, lkF, Int32.not_lt, Int32.not_le]; omega)
    have ew_37 : (HW b cI z ++ SW v (b 0) cI (bI lk) pe cn rk : va_W) = (HW b cI z ++ SW v (b 0) cI (bI true) (lkP lk (people z) z pe) (lkP lk ((fun r s => colsW z r s (-1))) z cn) (lkP lk (rkN z) z rk)) := sv_c ec_lk_33 ec_pe_34 ec_cn_35 ec_rk_36
    rw [ew_37] at hP hD
    subst hw0
    exact kq_vret hx hb hrt hlocks hP hD hS dX3_look_7
