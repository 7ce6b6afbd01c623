theorem k_X0_eyeOverPoint : yX0_eyeOverPoint.cls = RX0 ∧ yX0_eyeOverPoint.cls ≠ "java/lang/invoke/MethodHandle" ∧ yX0_eyeOverPoint.cls ≠ "java/lang/invoke/VarHandle" ∧ (parseMethodDescriptor yX0_eyeOverPoint.desc).map (fun d => d.parameters.length) = some 1 := by decide +kernel
theorem k_X0_eyeOverPointS : yX0_eyeOverPoint.cls ≠ "java/lang/invoke/MethodHandle" ∧ yX0_eyeOverPoint.cls ≠ "java/lang/invoke/VarHandle" ∧ (parseMethodDescriptor yX0_eyeOverPoint.desc).map (fun d => d.parameters.length) = some 1 := k_X0_eyeOverPoint.2
theorem k_X0_headOverPoint : yX0_headOverPoint.cls = RX0 ∧ yX0_headOverPoint.cls ≠ "java/lang/invoke/MethodHandle" ∧ yX0_headOverPoint.cls ≠ "java/lang/invoke/VarHandle" ∧ (parseMethodDescriptor yX0_headOverPoint.desc).map (fun d => d.parameters.length) = some 1 := by decide +kernel
theorem k_X0_headOverPointS : yX0_headOverPoint.cls ≠ "java/lang/invoke/MethodHandle" ∧ yX0_headOverPoint.cls ≠ "java/lang/invoke/VarHandle" ∧ (parseMethodDescriptor yX0_headOverPoint.desc).map (fun d => d.parameters.length) = some 1 := k_X0_headOverPoint.2
theorem k_X0_isColumnInWay : yX0_isColumnInWay.cls = RX0 ∧ yX0_isColumnInWay.cls ≠ "java/lang/invoke/MethodHandle" ∧ yX0_isColumnInWay.cls ≠ "java/lang/invoke/VarHandle" ∧ (parseMethodDescriptor yX0_isColumnInWay.desc).map (fun d => d.parameters.length) = some 3 := by decide +kernel
theorem k_X0_isColumnInWayS : yX0_isColumnInWay.cls ≠ "java/lang/invoke/MethodHandle" ∧ yX0_isColumnInWay.cls ≠ "java/lang/invoke/VarHandle" ∧ (parseMethodDescriptor yX0_isColumnInWay.desc).map (fun d => d.parameters.length) = some 3 := k_X0_isColumnInWay.2
theorem k_X0_isHeadInWay : yX0_isHeadInWay.cls = RX0 ∧ yX0_isHeadInWay.cls ≠ "java/lang/invoke/MethodHandle" ∧ yX0_isHeadInWay.cls ≠ "java/lang/invoke/VarHandle" ∧ (parseMethodDescriptor yX0_isHeadInWay.desc).map (fun d => d.parameters.length) = some 4 := by decide +kernel
theorem k_X0_isHeadInWayS : yX0_isHeadInWay.cls ≠ "java/lang/invoke/MethodHandle" ∧ yX0_isHeadInWay.cls ≠ "java/lang/invoke/VarHandle" ∧ (parseMethodDescriptor yX0_isHeadInWay.desc).map (fun d => d.parameters.length) = some 4 := k_X0_isHeadInWay.2
theorem k_X0_isTaken : yX0_isTaken.cls = RX0 ∧ yX0_isTaken.cls ≠ "java/lang/invoke/MethodHandle" ∧ yX0_isTaken.cls ≠ "java/lang/invoke/VarHandle" ∧ (parseMethodDescriptor yX0_isTaken.desc).map (fun d => d.parameters.length) = some 2 := by decide +kernel
theorem k_X0_isTakenS : yX0_isTaken.cls ≠ "java/lang/invoke/MethodHandle" ∧ yX0_isTaken.cls ≠ "java/lang/invoke/VarHandle" ∧ (parseMethodDescriptor yX0_isTaken.desc).map (fun d => d.parameters.length) = some 2 := k_X0_isTaken.2
theorem k_X0_sideOf : yX0_sideOf.cls = RX0 ∧ yX0_sideOf.cls ≠ "java/lang/invoke/MethodHandle" ∧ yX0_sideOf.cls ≠ "java/lang/invoke/VarHandle" ∧ (parseMethodDescriptor yX0_sideOf.desc).map (fun d => d.parameters.length) = some 2 := by decide +kernel
theorem k_X0_sideOfS : yX0_sideOf.cls ≠ "java/lang/invoke/MethodHandle" ∧ yX0_sideOf.cls ≠ "java/lang/invoke/VarHandle" ∧ (parseMethodDescriptor yX0_sideOf.desc).map (fun d => d.parameters.length) = some 2 := k_X0_sideOf.2
set_option maxRecDepth 20000 in
theorem iX0_isTaken_0 : ∀ w ∈ wsX00, w ∈ wsX0_isTaken := by decide +kernel
set_option maxHeartbeats 4000000 in
set_option maxRecDepth 100000 in
theorem c_X0_isTaken (l : Launch) (D : va_G) (cI cC cH cL : ClassId) (b : Nat → Nat) (z : ZZ) (r0 : Nat) (s0 : Nat) (hr : r0 < 10) : Met l yX0_isTaken wsX0_isTaken ({ frames := 0, cells := 0, slots := 0, locals := 0 }) (kp [.ref (b 0), .int (nI r0), .int (nI s0)] D (HW b cI z) (kT cI cC cH cL)) (kr (.returned (some (.int (bI (tk z r0 s0)))))) 0 0 (fun _ => False) := by
  refine Met.ofW (cc := cX0_isTaken) (maxL := 3) (ret := (some .boolean)) (by decide) rfl ?_
  intro p e s m args below meth c s₁ B hml hv
  obtain ⟨rfl, hP, hK⟩ := hv
  have hx := B.exec
  have hb := B.bytes
  have hrt := B.returns
  have hts := atoms_spec (ws := wsX0_isTaken) B.pre
  have hown : s.vm.findClass RX0 = some m.cls := findClass_of_methodNamed B.named
  have hlocks := B.notSynchronized
  have hl := lv_entry ([.ref (b 0), .int (nI r0), .int (nI s0)]) (n := 3) (Nat.le_of_ble_eq_true rfl)
  rw [lg_entry_eq]
  generalize (lg_sl ([.ref (b 0), .int (nI r0), .int (nI s0)]) ++ List.replicate (3 - (lg_sl ([.ref (b 0), .int (nI r0), .int (nI s0)])).length) Slot.unset).toArray = ls at hl ⊢
  have hl : lv_has ls 3 [(0, .ref (b 0)), (1, .int (nI r0)), (2, .int (nI s0))] := hl
  refine lv_aload_n hx hb dX0_isTaken_0 rfl (lv_at hl 0 rfl) ?_
  refine va_get (D := D) (ci := 0) (v := .ref (b 4)) (C := RX0) (T := TX0) (N := 10) hx hb hts iX0_isTaken_0 hown hK hP 0 rfl rfl 4 (by decide) (hts (.fieldLink RX0 21 "HallSights$Hall" "taken" "[I") (List.mem_of_getElem? (i := 1) rfl)) (fun _ h9 => h9) rfl dX0_isTaken_1 ?_
  refine lv_iload_n hx hb dX0_isTaken_4 rfl (lv_at hl 1 rfl) ?_
  refine kx_iald hx hb hK hP 4 0 rfl rfl (by omega) (by decide) dX0_isTaken_5 ?_
  refine lv_iload_n hx hb dX0_isTaken_6 rfl (lv_at hl 2 rfl) ?_
  refine lv_ishr hx hb dX0_isTaken_7 ?_
  refine lv_iconst (v := nI 1) hx hb dX0_isTaken_8 (by decide) ?_
  refine lv_iand hx hb dX0_isTaken_9 ?_
  refine lv_iconst (v := nI 1) hx hb dX0_isTaken_10 (by decide) ?_
  refine lv_icmp_ne (tgt := 18) hx hb dX0_isTaken_11 (by decide) (fun c_11_0 => ?_) (fun c_11_1 => ?_)
  · have c_11_0 : ¬ ((((z (5 + 4 * r0 + 3)) >>> ((nI s0) &&& 31)) &&& (nI 1)) : Int32) = (nI 1) := c_11_0
    refine lv_iconst (v := nI 0) hx hb dX0_isTaken_18 (by decide) ?_
    have e_2 : (false : Bool) = (tk z r0 s0) := by first | rfl | omega | (simp [tk, Int32.not_lt, Int32.not_le, c_11_0]; done) | (simp [tk, Int32.not_lt, Int32.not_le, c_11_0]; omega) | (revert c_11_0; simp +contextual [tk, Int32.not_lt, Int32.not_le]; done) | (revert c_11_0; simp +contextual [tk, Int32.not_lt, Int32.not_le]; omega)
    exact kr_zret hx hb hrt hlocks (congrArg bI e_2) rfl dX0_isTaken_19
  · have c_11_1 : ((((z (5 + 4 * r0 + 3)) >>> ((nI s0) &&& 31)) &&& (nI 1)) : Int32) = (nI 1) := c_11_1
    refine lv_iconst (v := nI 1) hx hb dX0_isTaken_14 (by decide) ?_
    refine lv_goto (tgt := 19) hx hb dX0_isTaken_15 (by decide) ?_
    have e_3 : (true : Bool) = (tk z r0 s0) := by first | rfl | omega | (simp [tk, Int32.not_lt, Int32.not_le, c_11_1]; done) | (simp [tk, Int32.not_lt, Int32.not_le, c_11_1]; omega) | (revert c_11_1; simp +contextual [tk, Int32.not_lt, Int32.not_le]; done) | (revert c_11_1; simp +contextual [tk, Int32.not_lt, Int32.not_le]; omega)
    exact kr_zret hx hb hrt hlocks (congrArg bI e_3) rfl dX0_isTaken_19
set_option maxRecDepth 20000 in
theorem iX0_sideOf_0 : ∀ w ∈ wsX00, w ∈ wsX0_sideOf := by decide +kernel
set_option maxHeartbeats 4000000 in
set_option maxRecDepth 100000 in
theorem c_X0_sideOf (l : Launch) (D : va_G) (cI cC cH cL : ClassId) (b : Nat → Nat) (z : ZZ) (r0 : Nat) (s0 : Nat) (hw : WF z) (hr : r0 < nR z) : Met l yX0_sideOf wsX0_sideOf ({ frames := 0, cells := 0, slots := 0, locals := 0 }) (kp [.ref (b 0), .int (nI r0), .int (nI s0)] D (HW b cI z) (kT cI cC cH cL)) (kr (.returned (some (.int (side z r0 s0))))) 0 0 (fun _ => False) := by
  refine Met.ofW (cc := cX0_sideOf) (maxL := 3) (ret := (some .int)) (by decide) rfl ?_
  intro p e s m args below meth c s₁ B hml hv
  obtain ⟨rfl, hP, hK⟩ := hv
  have hx := B.exec
  have hb := B.bytes
  have hrt := B.returns
  have hts := atoms_spec (ws := wsX0_sideOf) B.pre
  have hown : s.vm.findClass RX0 = some m.cls := findClass_of_methodNamed B.named
  have hlocks := B.notSynchronized
  have hl := lv_entry ([.ref (b 0), .int (nI r0), .int (nI s0)]) (n := 3) (Nat.le_of_ble_eq_true rfl)
  rw [lg_entry_eq]
  generalize (lg_sl ([.ref (b 0), .int (nI r0), .int (nI s0)]) ++ List.replicate (3 - (lg_sl ([.ref (b 0), .int (nI r0), .int (nI s0)])).length) Slot.unset).toArray = ls at hl ⊢
  have hl : lv_has ls 3 [(0, .ref (b 0)), (1, .int (nI r0)), (2, .int (nI s0))] := hl
  have hR10 := wf_R10 hw
  have hC4 := wf_C4 hw
  refine lv_iconst (v := nI 2) hx hb dX0_sideOf_0 (by decide) ?_
  refine lv_iload_n hx hb dX0_sideOf_1 rfl (lv_at hl 2 rfl) ?_
  refine kx_imul hx hb dX0_sideOf_2 ?_
  refine lv_aload_n hx hb dX0_sideOf_3 rfl (lv_at hl 0 rfl) ?_
  refine va_get (D := D) (ci := 0) (v := .ref (b 3)) (C := RX0) (T := TX0) (N := 10) hx hb hts iX0_sideOf_0 hown hK hP 0 rfl rfl 3 (by decide) (hts (.fieldLink RX0 18 "HallSights$Hall" "seats" "[I") (List.mem_of_getElem? (i := 1) rfl)) (fun _ h9 => h9) rfl dX0_sideOf_4 ?_
  refine lv_iload_n hx hb dX0_sideOf_7 rfl (lv_at hl 1 rfl) ?_
  refine kx_iald hx hb hK hP 3 0 rfl rfl (by omega) (by decide) dX0_sideOf_8 ?_
  refine kx_top (wf_S hw (show (r0) < nR z by omega)) ?_
  have hS12_0 := wf_S12 hw (show (r0) < nR z by omega)
  refine lv_iconst (v := nI 1) hx hb dX0_sideOf_9 (by decide) ?_
  refine lv_isub hx hb dX0_sideOf_10 ?_
  refine lv_isub hx hb dX0_sideOf_11 ?_
  have e_1 : (((nI (2 * s0)) - ((nI (nS z (r0))) - (nI 1))) : Int32) = (side z r0 s0) := by first | rfl | omega | (simp [side, Int32.not_lt, Int32.not_le]; done) | (simp [side, Int32.not_lt, Int32.not_le]; omega)
  exact kr_iret hx hb hrt hlocks e_1 rfl dX0_sideOf_12
set_option maxRecDepth 20000 in
theorem iX0_eyeOverPoint_0 : ∀ w ∈ wsX00, w ∈ wsX0_eyeOverPoint := by decide +kernel
set_option maxHeartbeats 4000000 in
set_option maxRecDepth 100000 in
theorem c_X0_eyeOverPoint (l : Launch) (D : va_G) (cI cC cH cL : ClassId) (b : Nat → Nat) (z : ZZ) (r0 : Nat) (hr : r0 < 10) : Met l yX0_eyeOverPoint wsX0_eyeOverPoint ({ frames := 0, cells := 0, slots := 0, locals := 0 }) (kp [.ref (b 0), .int (nI r0)] D (HW b cI z) (kT cI cC cH cL)) (kr (.returned (some (.int (eyeP z r0))))) 0 0 (fun _ => False) := by
  refine Met.ofW (cc := cX0_eyeOverPoint) (maxL := 2) (ret := (some .int)) (by decide) rfl ?_
  intro p e s m args below meth c s₁ B hml hv
  obtain ⟨rfl, hP, hK⟩ := hv
  have hx := B.exec
  have hb := B.bytes
  have hrt := B.returns
  have hts := atoms_spec (ws := wsX0_eyeOverPoint) B.pre
  have hown : s.vm.findClass RX0 = some m.cls := findClass_of_methodNamed B.named
  have hlocks := B.notSynchronized
  have hl := lv_entry ([.ref (b 0), .int (nI r0)]) (n := 2) (Nat.le_of_ble_eq_true rfl)
  rw [lg_entry_eq]
  generalize (lg_sl ([.ref (b 0), .int (nI r0)]) ++ List.replicate (2 - (lg_sl ([.ref (b 0), .int (nI r0)])).length) Slot.unset).toArray = ls at hl ⊢
  have hl : lv_has ls 2 [(0, .ref (b 0)), (1, .int (nI r0))] := hl
  refine lv_aload_n hx hb dX0_eyeOverPoint_0 rfl (lv_at hl 0 rfl) ?_
  refine va_get (D := D) (ci := 0) (v := .ref (b 2)) (C := RX0) (T := TX0) (N := 10) hx hb hts iX0_eyeOverPoint_0 hown hK hP 0 rfl rfl 2 (by decide) (hts (.fieldLink RX0 15 "HallSights$Hall" "heights" "[I") (List.mem_of_getElem? (i := 1) rfl)) (fun _ h9 => h9) rfl dX0_eyeOverPoint_1 ?_
  refine lv_iload_n hx hb dX0_eyeOverPoint_4 rfl (lv_at hl 1 rfl) ?_
  refine kx_iald hx hb hK hP 2 0 rfl rfl (by omega) (by decide) dX0_eyeOverPoint_5 ?_
  refine lv_aload_n hx hb dX0_eyeOverPoint_6 rfl (lv_at hl 0 rfl) ?_
  refine va_get (D := D) (ci := 0) (v := .ref (b 8)) (C := RX0) (T := TX0) (N := 10) hx hb hts iX0_eyeOverPoint_0 hown hK hP 0 rfl rfl 9 (by decide) (hts (.fieldLink RX0 33 "HallSights$Hall" "settings" "[I") (List.mem_of_getElem? (i := 2) rfl)) (fun _ h9 => h9) rfl dX0_eyeOverPoint_7 ?_
  refine lv_iconst (v := nI 1) hx hb dX0_eyeOverPoint_10 (by decide) ?_
  refine kx_iald hx hb hK hP 8 0 rfl rfl (by omega) (by decide) dX0_eyeOverPoint_11 ?_
  refine lv_iadd hx hb dX0_eyeOverPoint_12 ?_
  refine lv_aload_n hx hb dX0_eyeOverPoint_13 rfl (lv_at hl 0 rfl) ?_
  refine va_get (D := D) (ci := 0) (v := .ref (b 8)) (C := RX0) (T := TX0) (N := 10) hx hb hts iX0_eyeOverPoint_0 hown hK hP 0 rfl rfl 9 (by decide) (hts (.fieldLink RX0 33 "HallSights$Hall" "settings" "[I") (List.mem_of_getElem? (i := 2) rfl)) (fun _ h9 => h9) rfl dX0_eyeOverPoint_14 ?_
  refine lv_iconst (v := nI 0) hx hb dX0_eyeOverPoint_17 (by decide) ?_
  refine kx_iald hx hb hK hP 8 0 rfl rfl (by omega) (by decide) dX0_eyeOverPoint_18 ?_
  refine lv_isub hx hb dX0_eyeOverPoint_19 ?_
  have e_0 : ((((z (5 + 4 * r0 + 1)) + (z 1)) - (z 0)) : Int32) = (eyeP z r0) := by first | rfl | omega | (simp [eyeP, Int32.not_lt, Int32.not_le]; done) | (simp [eyeP, Int32.not_lt, Int32.not_le]; omega)
  exact kr_iret hx hb hrt hlocks e_0 rfl dX0_eyeOverPoint_20
set_option maxRecDepth 20000 in
theorem iX0_headOverPoint_0 : ∀ w ∈ wsX00, w ∈ wsX0_headOverPoint := by decide +kernel
set_option maxHeartbeats 4000000 in
set_option maxRecDepth 100000 in
theorem c_X0_headOverPoint (l : Launch) (D : va_G) (cI cC cH cL : ClassId) (b : Nat → Nat) (z : ZZ) (r0 : Nat) (hr : r0 < 10) : Met l yX0_headOverPoint wsX0_headOverPoint ({ frames := 0, cells := 0, slots := 0, locals := 0 }) (kp [.ref (b 0), .int (nI r0)] D (HW b cI z) (kT cI cC cH cL)) (kr (.returned (some (.int (headP z r0))))) 0 0 (fun _ => False) := by
  refine Met.ofW (cc := cX0_headOverPoint) (maxL := 2) (ret := (some .int)) (by decide) rfl ?_
  intro p e s m args below meth c s₁ B hml hv
  obtain ⟨rfl, hP, hK⟩ := hv
  have hx := B.exec
  have hb := B.bytes
  have hrt := B.returns
  have hts := atoms_spec (ws := wsX0_headOverPoint) B.pre
  have hown : s.vm.findClass RX0 = some m.cls := findClass_of_methodNamed B.named
  have hlocks := B.notSynchronized
  have hl := lv_entry ([.ref (b 0), .int (nI r0)]) (n := 2) (Nat.le_of_ble_eq_true rfl)
  rw [lg_entry_eq]
  generalize (lg_sl ([.ref (b 0), .int (nI r0)]) ++ List.replicate (2 - (lg_sl ([.ref (b 0), .int (nI r0)])).length) Slot.unset).toArray = ls at hl ⊢
  have hl : lv_has ls 2 [(0, .ref (b 0)), (1, .int (nI r0))] := hl
  refine lv_aload_n hx hb dX0_headOverPoint_0 rfl (lv_at hl 0 rfl) ?_
  refine va_get (D := D) (ci := 0) (v := .ref (b 2)) (C := RX0) (T := TX0) (N := 10) hx hb hts iX0_headOverPoint_0 hown hK hP 0 rfl rfl 2 (by decide) (hts (.fieldLink RX0 15 "HallSights$Hall" "heights" "[I") (List.mem_of_getElem? (i := 1) rfl)) (fun _ h9 => h9) rfl dX0_headOverPoint_1 ?_
  refine lv_iload_n hx hb dX0_headOverPoint_4 rfl (lv_at hl 1 rfl) ?_
  refine kx_iald hx hb hK hP 2 0 rfl rfl (by omega) (by decide) dX0_headOverPoint_5 ?_
  refine lv_aload_n hx hb dX0_headOverPoint_6 rfl (lv_at hl 0 rfl) ?_
  refine va_get (D := D) (ci := 0) (v := .ref (b 8)) (C := RX0) (T := TX0) (N := 10) hx hb hts iX0_headOverPoint_0 hown hK hP 0 rfl rfl 9 (by decide) (hts (.fieldLink RX0 33 "HallSights$Hall" "settings" "[I") (List.mem_of_getElem? (i := 2) rfl)) (fun _ h9 => h9) rfl dX0_headOverPoint_7 ?_
  refine lv_iconst (v := nI 1) hx hb dX0_headOverPoint_10 (by decide) ?_
  refine kx_iald hx hb hK hP 8 0 rfl rfl (by omega) (by decide) dX0_headOverPoint_11 ?_
  refine lv_iadd hx hb dX0_headOverPoint_12 ?_
  refine lv_aload_n hx hb dX0_headOverPoint_13 rfl (lv_at hl 0 rfl) ?_
  refine va_get (D := D) (ci := 0) (v := .ref (b 8)) (C := RX0) (T := TX0) (N := 10) hx hb hts iX0_headOverPoint_0 hown hK hP 0 rfl rfl 9 (by decide) (hts (.fieldLink RX0 33 "HallSights$Hall" "settings" "[I") (List.mem_of_getElem? (i := 2) rfl)) (fun _ h9 => h9) rfl dX0_headOverPoint_14 ?_
  refine lv_iconst (v := nI 2) hx hb dX0_headOverPoint_17 (by decide) ?_
  refine kx_iald hx hb hK hP 8 0 rfl rfl (by omega) (by decide) dX0_headOverPoint_18 ?_
  refine lv_iadd hx hb dX0_headOverPoint_19 ?_
  refine lv_aload_n hx hb dX0_headOverPoint_20 rfl (lv_at hl 0 rfl) ?_
  refine va_get (D := D) (ci := 0) (v := .ref (b 8)) (C := RX0) (T := TX0) (N := 10) hx hb hts iX0_headOverPoint_0 hown hK hP 0 rfl rfl 9 (by decide) (hts (.fieldLink RX0 33 "HallSights$Hall" "settings" "[I") (List.mem_of_getElem? (i := 2) rfl)) (fun _ h9 => h9) rfl dX0_headOverPoint_21 ?_
  refine lv_iconst (v := nI 0) hx hb dX0_headOverPoint_24 (by decide) ?_
  refine kx_iald hx hb hK hP 8 0 rfl rfl (by omega) (by decide) dX0_headOverPoint_25 ?_
  refine lv_isub hx hb dX0_headOverPoint_26 ?_
  have e_0 : (((((z (5 + 4 * r0 + 1)) + (z 1)) + (z 2)) - (z 0)) : Int32) = (headP z r0) := by first | rfl | omega | (simp [headP, Int32.not_lt, Int32.not_le]; done) | (simp [headP, Int32.not_lt, Int32.not_le]; omega)
  exact kr_iret hx hb hrt hlocks e_0 rfl dX0_headOverPoint_27
set_option maxRecDepth 20000 in
theorem iX0_isHeadInWay_0 : ∀ w ∈ wsX00, w ∈ wsX0_isHeadInWay := by decide +kernel
set_option maxHeartbeats 4000000 in
set_option maxRecDepth 100000 in
theorem c_X0_isHeadInWay (l : Launch) (D : va_G) (cI cC cH cL : ClassId) (b : Nat → Nat) (z : ZZ) (r0 : Nat) (s0 : Nat) (a0 : Nat) (w0 : Nat) (hw : WF z) (hs : WS z) (hr : r0 < nR z) (ha : a0 < r0) : Met l yX0_isHeadInWay wsX0_isHeadInWay ({ frames := 1, cells := 0, slots := 0, locals := 40 }) (kp [.ref (b 0), .int (nI r0), .int (nI s0), .int (nI a0), .int (nI w0)] D (HW b cI z) (kT cI cC cH cL)) (kr (.returned (some (.int (bI (blk z a0 w0 r0 s0)))))) 0 0 (fun _ => False) := by
  refine Met.ofW (cc := cX0_isHeadInWay) (maxL := 8) (ret := (some .boolean)) (by decide) rfl ?_
  intro p e s m args below meth c s₁ B hml hv
  obtain ⟨rfl, hP, hK⟩ := hv
  have hx := B.exec
  have hb := B.bytes
  have hrt := B.returns
  have hts := atoms_spec (ws := wsX0_isHeadInWay) B.pre
  have hown : s.vm.findClass RX0 = some m.cls := findClass_of_methodNamed B.named
  have hlocks := B.notSynchronized
  have hl := lv_entry ([.ref (b 0), .int (nI r0), .int (nI s0), .int (nI a0), .int (nI w0)]) (n := 8) (Nat.le_of_ble_eq_true rfl)
  rw [lg_entry_eq]
  generalize (lg_sl ([.ref (b 0), .int (nI r0), .int (nI s0), .int (nI a0), .int (nI w0)]) ++ List.replicate (8 - (lg_sl ([.ref (b 0), .int (nI r0), .int (nI s0), .int (nI a0), .int (nI w0)])).length) Slot.unset).toArray = ls at hl ⊢
  have hl : lv_has ls 8 [(0, .ref (b 0)), (1, .int (nI r0)), (2, .int (nI s0)), (3, .int (nI a0)), (4, .int (nI w0))] := hl
  have hR10 := wf_R10 hw
  have hC4 := wf_C4 hw
  have hsd := hs a0 r0 ha hr
  refine lv_aload_n hx hb dX0_isHeadInWay_0 rfl (lv_at hl 0 rfl) ?_
  refine va_get (D := D) (ci := 0) (v := .ref (b 1)) (C := RX0) (T := TX0) (N := 10) hx hb hts iX0_isHeadInWay_0 hown hK hP 0 rfl rfl 1 (by decide) (hts (.fieldLink RX0 9 "HallSights$Hall" "distances" "[I") (List.mem_of_getElem? (i := 1) rfl)) (fun _ h9 => h9) rfl dX0_isHeadInWay_1 ?_
  refine lv_iload_n hx hb dX0_isHeadInWay_4 rfl (lv_at hl 1 rfl) ?_
  refine kx_iald hx hb hK hP 1 0 rfl rfl (by omega) (by decide) dX0_isHeadInWay_5 ?_
  refine lv_istore (lv' := [(5, .int (z (5 + 4 * r0))), (0, .ref (b 0)), (1, .int (nI r0)), (2, .int (nI s0)), (3, .int (nI a0)), (4, .int (nI w0))]) hx hb dX0_isHeadInWay_6 hl (by decide) rfl (fun ls hl => ?_)
  refine lv_aload_n hx hb dX0_isHeadInWay_8 rfl (lv_at hl 1 rfl) ?_
  refine va_get (D := D) (ci := 0) (v := .ref (b 1)) (C := RX0) (T := TX0) (N := 10) hx hb hts iX0_isHeadInWay_0 hown hK hP 0 rfl rfl 1 (by decide) (hts (.fieldLink RX0 9 "HallSights$Hall" "distances" "[I") (List.mem_of_getElem? (i := 1) rfl)) (fun _ h9 => h9) rfl dX0_isHeadInWay_9 ?_
  refine lv_iload_n hx hb dX0_isHeadInWay_12 rfl (lv_at hl 4 rfl) ?_
  refine kx_iald hx hb hK hP 1 0 rfl rfl (by omega) (by decide) dX0_isHeadInWay_13 ?_
  refine lv_istore (lv' := [(6, .int (z (5 + 4 * a0))), (5, .int (z (5 + 4 * r0))), (0, .ref (b 0)), (1, .int (nI r0)), (2, .int (nI s0)), (3, .int (nI a0)), (4, .int (nI w0))]) hx hb dX0_isHeadInWay_14 hl (by decide) rfl (fun ls hl => ?_)
  refine lv_aload_n hx hb dX0_isHeadInWay_16 rfl (lv_at hl 2 rfl) ?_
  refine lv_iload_n hx hb dX0_isHeadInWay_17 rfl (lv_at hl 5 rfl) ?_
  refine lv_iload hx hb dX0_isHeadInWay_18 (lv_at hl 6 rfl) ?_
  refine kr_V (As := [.int (nI a0), .int (nI w0)]) (rest := []) (C := RX0) (own := RX0) ⟨hx, hb, hml, hown, hts⟩ (c_X0_sideOf l D cI cC cH cL b z a0 w0 (by first | assumption | omega) (by first | assumption | omega)) (cwV 2 hts gX0_isHeadInWay_X0_sideOf rfl rfl rfl k_X0_sideOf ⟨Nat.le_of_ble_eq_true rfl, Nat.le_of_ble_eq_true rfl⟩) hP hK (va_recv (q := (RX0, TX0, 10)) hK hP (ci := 0) (q0 := 0) rfl rfl) rfl hl.1 rfl (Nat.le_of_ble_eq_true rfl) dX0_isHeadInWay_20 ⟨Nat.le_of_ble_eq_true rfl, Nat.le_of_ble_eq_true rfl⟩ ?_
  refine lv_iload hx hb dX0_isHeadInWay_23 (lv_at hl 1 rfl) ?_
  refine lv_imul hx hb dX0_isHeadInWay_25 ?_
  refine lv_aload_n hx hb dX0_isHeadInWay_26 rfl (lv_at hl 2 rfl) ?_
  refine lv_iload_n hx hb dX0_isHeadInWay_27 rfl (lv_at hl 3 rfl) ?_
  refine lv_iload_n hx hb dX0_isHeadInWay_28 rfl (lv_at hl 4 rfl) ?_
  refine kr_V (As := [.int (nI r0), .int (nI s0)]) (rest := [.int ((side z a0 w0) * (z (5 + 4 * r0)))]) (C := RX0) (own := RX0) ⟨hx, hb, hml, hown, hts⟩ (c_X0_sideOf l D cI cC cH cL b z r0 s0 (by first | assumption | omega) (by first | assumption | omega)) (cwV 2 hts gX0_isHeadInWay_X0_sideOf rfl rfl rfl k_X0_sideOf ⟨Nat.le_of_ble_eq_true rfl, Nat.le_of_ble_eq_true rfl⟩) hP hK (va_recv (q := (RX0, TX0, 10)) hK hP (ci := 0) (q0 := 0) rfl rfl) rfl hl.1 rfl (Nat.le_of_ble_eq_true rfl) dX0_isHeadInWay_29 ⟨Nat.le_of_ble_eq_true rfl, Nat.le_of_ble_eq_true rfl⟩ ?_
  refine lv_iload hx hb dX0_isHeadInWay_32 (lv_at hl 0 rfl) ?_
  refine lv_imul hx hb dX0_isHeadInWay_34 ?_
  refine lv_isub hx hb dX0_isHeadInWay_35 ?_
  refine lv_istore (lv' := [(7, .int (((side z a0 w0) * (z (5 + 4 * r0))) - ((side z r0 s0) * (z (5 + 4 * a0))))), (6, .int (z (5 + 4 * a0))), (5, .int (z (5 + 4 * r0))), (0, .ref (b 0)), (1, .int (nI r0)), (2, .int (nI s0)), (3, .int (nI a0)), (4, .int (nI w0))]) hx hb dX0_isHeadInWay_36 hl (by decide) rfl (fun ls hl => ?_)
  refine lv_iload hx hb dX0_isHeadInWay_38 (lv_at hl 1 rfl) ?_
  refine lv_iload hx hb dX0_isHeadInWay_40 (lv_at hl 2 rfl) ?_
  refine lv_icmp_ge (tgt := 55) hx hb dX0_isHeadInWay_42 (by decide) (fun c_42_0 => ?_) (fun c_42_1 => ?_)
  · have c_42_0 : ((z (5 + 4 * r0)) : Int32) ≤ (z (5 + 4 * a0)) := c_42_0
    refine lv_iconst (v := nI 0) hx hb dX0_isHeadInWay_55 (by decide) ?_
    have e_2 : (false : Bool) = (blk z a0 w0 r0 s0) := by first | (simp [blk, nearH, higher, Int32.not_lt, Int32.not_le, c_42_0, Int32.not_lt.mpr c_42_0, ha]; done) | exact absurd hsd (Int32.not_lt.mpr c_42_0)
    exact kr_zret hx hb hrt hlocks (congrArg bI e_2) rfl dX0_isHeadInWay_56
  · have c_42_1 : ¬ ((z (5 + 4 * r0)) : Int32) ≤ (z (5 + 4 * a0)) := c_42_1
    refine lv_iload hx hb dX0_isHeadInWay_45 (lv_at hl 0 rfl) ?_
    refine va_mabs hx hb (hml.trans hl.1.symm) hown (hts (.methodLink RX0 78 Lib.Math.abs.name) (List.mem_of_getElem? (i := 2) rfl)) (hts (.static Lib.Math.abs.name) (List.mem_of_getElem? (i := 3) rfl)) (hts (.initialized "java/lang/Math") (List.mem_of_getElem? (i := 4) rfl)) (hts (.code Lib.Math.abs.name Lib.Math.abs.code 1 (some .int)) (List.mem_of_getElem? (i := 5) rfl)) (Nat.le_of_ble_eq_true rfl) (Nat.le_of_ble_eq_true rfl) (Nat.le_of_ble_eq_true rfl) (Nat.le_of_ble_eq_true rfl) dX0_isHeadInWay_47 ?_
    refine kx_top (absI_m _) ?_
    refine lv_iload hx hb dX0_isHeadInWay_50 (lv_at hl 2 rfl) ?_
    refine lv_icmp_lt (tgt := 57) hx hb dX0_isHeadInWay_52 (by decide) (fun c_52_3 => ?_) (fun c_52_4 => ?_)
    · have c_52_3 : ((absI (((side z a0 w0) * (z (5 + 4 * r0))) - ((side z r0 s0) * (z (5 + 4 * a0))))) : Int32) < (z (5 + 4 * r0)) := c_52_3
      refine lv_aload_n hx hb dX0_isHeadInWay_57 rfl (lv_at hl 3 rfl) ?_
      refine lv_iload_n hx hb dX0_isHeadInWay_58 rfl (lv_at hl 6 rfl) ?_
      refine kr_V (As := [.int (nI a0)]) (rest := []) (C := RX0) (own := RX0) ⟨hx, hb, hml, hown, hts⟩ (c_X0_headOverPoint l D cI cC cH cL b z a0 (by first | assumption | omega)) (cwV 1 hts gX0_isHeadInWay_X0_headOverPoint rfl rfl rfl k_X0_headOverPoint ⟨Nat.le_of_ble_eq_true rfl, Nat.le_of_ble_eq_true rfl⟩) hP hK (va_recv (q := (RX0, TX0, 10)) hK hP (ci := 0) (q0 := 0) rfl rfl) rfl hl.1 rfl (Nat.le_of_ble_eq_true rfl) dX0_isHeadInWay_59 ⟨Nat.le_of_ble_eq_true rfl, Nat.le_of_ble_eq_true rfl⟩ ?_
      refine lv_iload hx hb dX0_isHeadInWay_62 (lv_at hl 2 rfl) ?_
      refine lv_imul hx hb dX0_isHeadInWay_64 ?_
      refine lv_aload_n hx hb dX0_isHeadInWay_65 rfl (lv_at hl 3 rfl) ?_
      refine lv_iload_n hx hb dX0_isHeadInWay_66 rfl (lv_at hl 4 rfl) ?_
      refine kr_V (As := [.int (nI r0)]) (rest := [.int ((headP z a0) * (z (5 + 4 * r0)))]) (C := RX0) (own := RX0) ⟨hx, hb, hml, hown, hts⟩ (c_X0_eyeOverPoint l D cI cC cH cL b z r0 (by first | assumption | omega)) (cwV 1 hts gX0_isHeadInWay_X0_eyeOverPoint rfl rfl rfl k_X0_eyeOverPoint ⟨Nat.le_of_ble_eq_true rfl, Nat.le_of_ble_eq_true rfl⟩) hP hK (va_recv (q := (RX0, TX0, 10)) hK hP (ci := 0) (q0 := 0) rfl rfl) rfl hl.1 rfl (Nat.le_of_ble_eq_true rfl) dX0_isHeadInWay_67 ⟨Nat.le_of_ble_eq_true rfl, Nat.le_of_ble_eq_true rfl⟩ ?_
      refine lv_iload hx hb dX0_isHeadInWay_70 (lv_at hl 1 rfl) ?_
      refine lv_imul hx hb dX0_isHeadInWay_72 ?_
      refine lv_icmp_le (tgt := 80) hx hb dX0_isHeadInWay_73 (by decide) (fun c_73_5 => ?_) (fun c_73_6 => ?_)
      · have c_73_5 : (((headP z a0) * (z (5 + 4 * r0))) : Int32) ≤ ((eyeP z r0) * (z (5 + 4 * a0))) := c_73_5
        refine lv_iconst (v := nI 0) hx hb dX0_isHeadInWay_80 (by decide) ?_
        have e_7 : (false : Bool) = (blk z a0 w0 r0 s0) := by simp [blk, nearH, higher, Int32.not_lt, Int32.not_le, c_42_1, Int32.not_le.mp c_42_1, c_52_3, Int32.not_le.mpr c_52_3, c_73_5, Int32.not_lt.mpr c_73_5, ha]
        exact kr_zret hx hb hrt hlocks (congrArg bI e_7) rfl dX0_isHeadInWay_81
      · have c_73_6 : ¬ (((headP z a0) * (z (5 + 4 * r0))) : Int32) ≤ ((eyeP z r0) * (z (5 + 4 * a0))) := c_73_6
        refine lv_iconst (v := nI 1) hx hb dX0_isHeadInWay_76 (by decide) ?_
        refine lv_goto (tgt := 81) hx hb dX0_isHeadInWay_77 (by decide) ?_
        have e_8 : (true : Bool) = (blk z a0 w0 r0 s0) := by simp [blk, nearH, higher, Int32.not_lt, Int32.not_le, c_42_1, Int32.not_le.mp c_42_1, c_52_3, Int32.not_le.mpr c_52_3, c_73_6, Int32.not_le.mp c_73_6, ha]
        exact kr_zret hx hb hrt hlocks (congrArg bI e_8) rfl dX0_isHeadInWay_81
    · have c_52_4 : ¬ ((absI (((side z a0 w0) * (z (5 + 4 * r0))) - ((side z r0 s0) * (z (5 + 4 * a0))))) : Int32) < (z (5 + 4 * r0)) := c_52_4
      refine lv_iconst (v := nI 0) hx hb dX0_isHeadInWay_55 (by decide) ?_
      have e_9 : (false : Bool) = (blk z a0 w0 r0 s0) := by first | (simp [blk, nearH, higher, Int32.not_lt, Int32.not_le, c_42_1, Int32.not_le.mp c_42_1, c_52_4, Int32.not_lt.mp c_52_4, ha]; done) | exact absurd hsd (Int32.not_lt.mpr c_42_0)
      exact kr_zret hx hb hrt hlocks (congrArg bI e_9) rfl dX0_isHeadInWay_56
set_option maxRecDepth 20000 in
theorem iX0_isColumnInWay_0 : ∀ w ∈ wsX00, w ∈ wsX0_isColumnInWay := by decide +kernel
set_option maxHeartbeats 4000000 in
set_option maxRecDepth 100000 in
theorem c_X0_isColumnInWay (l : Launch) (D : va_G) (cI cC cH cL : ClassId) (b : Nat → Nat) (z : ZZ) (r0 : Nat) (s0 : Nat) (k0 : Nat) (hw : WF z) (hr : r0 < nR z) (hk : k0 < 4) : Met l yX0_isColumnInWay wsX0_isColumnInWay ({ frames := 1, cells := 0, slots := 0, locals := 40 }) (kp [.ref (b 0), .int (nI r0), .int (nI s0), .int (nI k0)] D (HW b cI z) (kT cI cC cH cL)) (kr (.returned (some (.int (bI (cblk z k0 r0 s0)))))) 0 0 (fun _ => False) := by
  refine Met.ofW (cc := cX0_isColumnInWay) (maxL := 7) (ret := (some .boolean)) (by decide) rfl ?_
  intro p e s m args below meth c s₁ B hml hv
  obtain ⟨rfl, hP, hK⟩ := hv
  have hx := B.exec
  have hb := B.bytes
  have hrt := B.returns
  have hts := atoms_spec (ws := wsX0_isColumnInWay) B.pre
  have hown : s.vm.findClass RX0 = some m.cls := findClass_of_methodNamed B.named
  have hlocks := B.notSynchronized
  have hl := lv_entry ([.ref (b 0), .int (nI r0), .int (nI s0), .int (nI k0)]) (n := 7) (Nat.le_of_ble_eq_true rfl)
  rw [lg_entry_eq]
  generalize (lg_sl ([.ref (b 0), .int (nI r0), .int (nI s0), .int (nI k0)]) ++ List.replicate (7 - (lg_sl ([.ref (b 0), .int (nI r0), .int (nI s0), .int (nI k0)])).length) Slot.unset).toArray = ls at hl ⊢
  have hl : lv_has ls 7 [(0, .ref (b 0)), (1, .int (nI r0)), (2, .int (nI s0)), (3, .int (nI k0))] := hl
  have hR10 := wf_R10 hw
  have hC4 := wf_C4 hw
  refine lv_aload_n hx hb dX0_isColumnInWay_0 rfl (lv_at hl 0 rfl) ?_
  refine va_get (D := D) (ci := 0) (v := .ref (b 1)) (C := RX0) (T := TX0) (N := 10) hx hb hts iX0_isColumnInWay_0 hown hK hP 0 rfl rfl 1 (by decide) (hts (.fieldLink RX0 9 "HallSights$Hall" "distances" "[I") (List.mem_of_getElem? (i := 1) rfl)) (fun _ h9 => h9) rfl dX0_isColumnInWay_1 ?_
  refine lv_iload_n hx hb dX0_isColumnInWay_4 rfl (lv_at hl 1 rfl) ?_
  refine kx_iald hx hb hK hP 1 0 rfl rfl (by omega) (by decide) dX0_isColumnInWay_5 ?_
  refine lv_istore (lv' := [(4, .int (z (5 + 4 * r0))), (0, .ref (b 0)), (1, .int (nI r0)), (2, .int (nI s0)), (3, .int (nI k0))]) hx hb dX0_isColumnInWay_6 hl (by decide) rfl (fun ls hl => ?_)
  refine lv_aload_n hx hb dX0_isColumnInWay_8 rfl (lv_at hl 1 rfl) ?_
  refine va_get (D := D) (ci := 0) (v := .ref (b 5)) (C := RX0) (T := TX0) (N := 10) hx hb hts iX0_isColumnInWay_0 hown hK hP 0 rfl rfl 6 (by decide) (hts (.fieldLink RX0 24 "HallSights$Hall" "columnDistances" "[I") (List.mem_of_getElem? (i := 2) rfl)) (fun _ h9 => h9) rfl dX0_isColumnInWay_9 ?_
  refine lv_iload_n hx hb dX0_isColumnInWay_12 rfl (lv_at hl 4 rfl) ?_
  refine kx_iald hx hb hK hP 5 0 rfl rfl (by omega) (by decide) dX0_isColumnInWay_13 ?_
  refine lv_istore (lv' := [(5, .int (z (45 + 3 * k0))), (4, .int (z (5 + 4 * r0))), (0, .ref (b 0)), (1, .int (nI r0)), (2, .int (nI s0)), (3, .int (nI k0))]) hx hb dX0_isColumnInWay_14 hl (by decide) rfl (fun ls hl => ?_)
  refine lv_aload_n hx hb dX0_isColumnInWay_16 rfl (lv_at hl 2 rfl) ?_
  refine va_get (D := D) (ci := 0) (v := .ref (b 6)) (C := RX0) (T := TX0) (N := 10) hx hb hts iX0_isColumnInWay_0 hown hK hP 0 rfl rfl 7 (by decide) (hts (.fieldLink RX0 27 "HallSights$Hall" "columnSides" "[I") (List.mem_of_getElem? (i := 3) rfl)) (fun _ h9 => h9) rfl dX0_isColumnInWay_17 ?_
  refine lv_iload_n hx hb dX0_isColumnInWay_20 rfl (lv_at hl 5 rfl) ?_
  refine kx_iald hx hb hK hP 6 0 rfl rfl (by omega) (by decide) dX0_isColumnInWay_21 ?_
  refine lv_iload hx hb dX0_isColumnInWay_22 (lv_at hl 1 rfl) ?_
  refine lv_imul hx hb dX0_isColumnInWay_24 ?_
  refine lv_aload_n hx hb dX0_isColumnInWay_25 rfl (lv_at hl 2 rfl) ?_
  refine lv_iload_n hx hb dX0_isColumnInWay_26 rfl (lv_at hl 3 rfl) ?_
  refine lv_iload_n hx hb dX0_isColumnInWay_27 rfl (lv_at hl 4 rfl) ?_
  refine kr_V (As := [.int (nI r0), .int (nI s0)]) (rest := [.int ((z (45 + 3 * k0 + 1)) * (z (5 + 4 * r0)))]) (C := RX0) (own := RX0) ⟨hx, hb, hml, hown, hts⟩ (c_X0_sideOf l D cI cC cH cL b z r0 s0 (by first | assumption | omega) (by first | assumption | omega)) (cwV 2 hts gX0_isColumnInWay_X0_sideOf rfl rfl rfl k_X0_sideOf ⟨Nat.le_of_ble_eq_true rfl, Nat.le_of_ble_eq_true rfl⟩) hP hK (va_recv (q := (RX0, TX0, 10)) hK hP (ci := 0) (q0 := 0) rfl rfl) rfl hl.1 rfl (Nat.le_of_ble_eq_true rfl) dX0_isColumnInWay_28 ⟨Nat.le_of_ble_eq_true rfl, Nat.le_of_ble_eq_true rfl⟩ ?_
  refine lv_iload hx hb dX0_isColumnInWay_31 (lv_at hl 0 rfl) ?_
  refine lv_imul hx hb dX0_isColumnInWay_33 ?_
  refine lv_isub hx hb dX0_isColumnInWay_34 ?_
  refine lv_istore (lv' := [(6, .int (((z (45 + 3 * k0 + 1)) * (z (5 + 4 * r0))) - ((side z r0 s0) * (z (45 + 3 * k0))))), (5, .int (z (45 + 3 * k0))), (4, .int (z (5 + 4 * r0))), (0, .ref (b 0)), (1, .int (nI r0)), (2, .int (nI s0)), (3, .int (nI k0))]) hx hb dX0_isColumnInWay_35 hl (by decide) rfl (fun ls hl => ?_)
  refine lv_iload hx hb dX0_isColumnInWay_37 (lv_at hl 1 rfl) ?_
  refine lv_iload hx hb dX0_isColumnInWay_39 (lv_at hl 2 rfl) ?_
  refine lv_icmp_ge (tgt := 65) hx hb dX0_isColumnInWay_41 (by decide) (fun c_41_0 => ?_) (fun c_41_1 => ?_)
  · have c_41_0 : ((z (5 + 4 * r0)) : Int32) ≤ (z (45 + 3 * k0)) := c_41_0
    refine lv_iconst (v := nI 0) hx hb dX0_isColumnInWay_65 (by decide) ?_
    have e_2 : (false : Bool) = (cblk z k0 r0 s0) := by first | rfl | omega | (simp [cblk, Int32.not_lt, Int32.not_le, c_41_0, Int32.not_lt.mpr c_41_0]; done) | (simp [cblk, Int32.not_lt, Int32.not_le, c_41_0, Int32.not_lt.mpr c_41_0]; omega) | (revert c_41_0; simp +contextual [cblk, Int32.not_lt, Int32.not_le]; done) | (revert c_41_0; simp +contextual [cblk, Int32.not_lt, Int32.not_le]; omega)
    exact kr_zret hx hb hrt hlocks (congrArg bI e_2) rfl dX0_isColumnInWay_66
  · have c_41_1 : ¬ ((z (5 + 4 * r0)) : Int32) ≤ (z (45 + 3 * k0)) := c_41_1
    refine lv_iload hx hb dX0_isColumnInWay_44 (lv_at hl 0 rfl) ?_
    refine va_mabs hx hb (hml.trans hl.1.symm) hown (hts (.methodLink RX0 78 Lib.Math.abs.name) (List.mem_of_getElem? (i := 4) rfl)) (hts (.static Lib.Math.abs.name) (List.mem_of_getElem? (i := 5) rfl)) (hts (.initialized "java/lang/Math") (List.mem_of_getElem? (i := 6) rfl)) (hts (.code Lib.Math.abs.name Lib.Math.abs.code 1 (some .int)) (List.mem_of_getElem? (i := 7) rfl)) (Nat.le_of_ble_eq_true rfl) (Nat.le_of_ble_eq_true rfl) (Nat.le_of_ble_eq_true rfl) (Nat.le_of_ble_eq_true rfl) dX0_isColumnInWay_46 ?_
    refine kx_top (absI_m _) ?_
    refine lv_aload_n hx hb dX0_isColumnInWay_49 rfl (lv_at hl 3 rfl) ?_
    refine va_get (D := D) (ci := 0) (v := .ref (b 7)) (C := RX0) (T := TX0) (N := 10) hx hb hts iX0_isColumnInWay_0 hown hK hP 0 rfl rfl 8 (by decide) (hts (.fieldLink RX0 30 "HallSights$Hall" "columnHalves" "[I") (List.mem_of_getElem? (i := 8) rfl)) (fun _ h9 => h9) rfl dX0_isColumnInWay_50 ?_
    refine lv_iload_n hx hb dX0_isColumnInWay_53 rfl (lv_at hl 6 rfl) ?_
    refine kx_iald hx hb hK hP 7 0 rfl rfl (by omega) (by decide) dX0_isColumnInWay_54 ?_
    refine lv_iload hx hb dX0_isColumnInWay_55 (lv_at hl 2 rfl) ?_
    refine lv_imul hx hb dX0_isColumnInWay_57 ?_
    refine lv_icmp_gt (tgt := 65) hx hb dX0_isColumnInWay_58 (by decide) (fun c_58_3 => ?_) (fun c_58_4 => ?_)
    · have c_58_3 : (((z (45 + 3 * k0 + 2)) * (z (5 + 4 * r0))) : Int32) < (absI (((z (45 + 3 * k0 + 1)) * (z (5 + 4 * r0))) - ((side z r0 s0) * (z (45 + 3 * k0))))) := c_58_3
      refine lv_iconst (v := nI 0) hx hb dX0_isColumnInWay_65 (by decide) ?_
      have e_5 : (false : Bool) = (cblk z k0 r0 s0) := by first | rfl | omega | (simp [cblk, Int32.not_lt, Int32.not_le, c_41_1, Int32.not_le.mp c_41_1, c_58_3, Int32.not_le.mpr c_58_3]; done) | (simp [cblk, Int32.not_lt, Int32.not_le, c_41_1, Int32.not_le.mp c_41_1, c_58_3, Int32.not_le.mpr c_58_3]; omega) | (revert c_41_1 c_58_3; simp +contextual [cblk, Int32.not_lt, Int32.not_le]; done) | (revert c_41_1 c_58_3; simp +contextual [cblk, Int32.not_lt, Int32.not_le]; omega)
      exact kr_zret hx hb hrt hlocks (congrArg bI e_5) rfl dX0_isColumnInWay_66
    · have c_58_4 : ¬ (((z (45 + 3 * k0 + 2)) * (z (5 + 4 * r0))) : Int32) < (absI (((z (45 + 3 * k0 + 1)) * (z (5 + 4 * r0))) - ((side z r0 s0) * (z (45 + 3 * k0))))) := c_58_4
      refine lv_iconst (v := nI 1) hx hb dX0_isColumnInWay_61 (by decide) ?_
      refine lv_goto (tgt := 66) hx hb dX0_isColumnInWay_62 (by decide) ?_
      have e_6 : (true : Bool) = (cblk z k0 r0 s0) := by first | rfl | omega | (simp [cblk, Int32.not_lt, Int32.not_le, c_41_1, Int32.not_le.mp c_41_1, c_58_4, Int32.not_lt.mp c_58_4]; done) | (simp [cblk, Int32.not_lt, Int32.not_le, c_41_1, Int32.not_le.mp c_41_1, c_58_4, Int32.not_lt.mp c_58_4]; omega) | (revert c_41_1 c_58_4; simp +contextual [cblk, Int32.not_lt, Int32.not_le]; done) | (revert c_41_1 c_58_4; simp +contextual [cblk, Int32.not_lt, Int32.not_le]; omega)
      exact kr_zret hx hb hrt hlocks (congrArg bI e_6) rfl dX0_isColumnInWay_66
set_option maxRecDepth 20000 in
theorem iX0_peopleInWay_0 : ∀ w ∈ wsX00, w ∈ wsX0_peopleInWay := by decide +kernel
set_option maxHeartbeats 4000000 in
set_option maxRecDepth 100000 in
theorem c_X0_peopleInWay (l : Launch) (D : va_G) (cI cC cH cL : ClassId) (b : Nat → Nat) (z : ZZ) (r0 : Nat) (s0 : Nat) (hw : WF z) (hs : WS z) (hr : r0 < nR z) : Met l yX0_peopleInWay wsX0_peopleInWay ({ frames := 2, cells := 0, slots := 0, locals := 67 }) (kp [.ref (b 0), .int (nI r0), .int (nI s0)] D (HW b cI z) (kT cI cC cH cL)) (kr (.returned (some (.int (nI (people z r0 s0)))))) 0 0 (fun _ => False) := by
  refine Met.ofW (cc := cX0_peopleInWay) (maxL := 6) (ret := (some .int)) (by decide) rfl ?_
  intro p e s m args below meth c s₁ B hml hv
  obtain ⟨rfl, hP, hK⟩ := hv
  have hx := B.exec
  have hb := B.bytes
  have hrt := B.returns
  have hts := atoms_spec (ws := wsX0_peopleInWay) B.pre
  have hown : s.vm.findClass RX0 = some m.cls := findClass_of_methodNamed B.named
  have hlocks := B.notSynchronized
  have hl := lv_entry ([.ref (b 0), .int (nI r0), .int (nI s0)]) (n := 6) (Nat.le_of_ble_eq_true rfl)
  rw [lg_entry_eq]
  generalize (lg_sl ([.ref (b 0), .int (nI r0), .int (nI s0)]) ++ List.replicate (6 - (lg_sl ([.ref (b 0), .int (nI r0), .int (nI s0)])).length) Slot.unset).toArray = ls at hl ⊢
  have hl : lv_has ls 6 [(0, .ref (b 0)), (1, .int (nI r0)), (2, .int (nI s0))] := hl
  have hR10 := wf_R10 hw
  have hC4 := wf_C4 hw
  refine lv_iconst (v := nI 0) hx hb dX0_peopleInWay_0 (by decide) ?_
  refine lv_istore_n (lv' := [(3, .int (nI 0)), (0, .ref (b 0)), (1, .int (nI r0)), (2, .int (nI s0))]) hx hb dX0_peopleInWay_1 rfl hl (by decide) rfl (fun ls hl => ?_)
  refine lv_iconst (v := nI 0) hx hb dX0_peopleInWay_2 (by decide) ?_
  refine lv_istore (lv' := [(4, .int (nI 0)), (3, .int (nI 0)), (0, .ref (b 0)), (1, .int (nI r0)), (2, .int (nI s0))]) hx hb dX0_peopleInWay_3 hl (by decide) rfl (fun ls hl => ?_)
  have e5_0 : (0 : Nat) = (sumN 0 (fun a => pplA z a r0 s0)) := by first | rfl | omega | (simp [people, sumN_s, b2, Int32.not_lt, Int32.not_le]; done) | (simp [people, sumN_s, b2, Int32.not_lt, Int32.not_le]; omega)
  have hl5_1 : lv_has ls 6 [(0, .ref (b 0)), (1, .int (nI r0)), (2, .int (nI s0)), (3, .int (nI (sumN 0 (fun a => pplA z a r0 s0)))), (4, .int (nI 0))] := lv_eqv (l1 := [(0, .ref (b 0)), (1, .int (nI r0)), (2, .int (nI s0)), (3, .int (nI 0)), (4, .int (nI 0))]) (lv_sub hl [2, 3, 4, 1, 0] rfl) (lv_ce rfl (lv_ce rfl (lv_ce rfl (lv_ce (congrArg (fun x => Value.int (nI x)) e5_0) (lv_ce rfl rfl)))))
  refine kx_up (fun k ls => lv_has ls 6 [(0, .ref (b 0)), (1, .int (nI r0)), (2, .int (nI s0)), (3, .int (nI (sumN k (fun a => pplA z a r0 s0)))), (4, .int (nI k))]) (0) (r0) (by omega) ls (hl5_1) ?_
  intro ir ls hirl hirh hp ih5
  have hl := hp
  refine lv_iload hx hb dX0_peopleInWay_5 (lv_at hl 4 rfl) ?_
  refine lv_iload_n hx hb dX0_peopleInWay_7 rfl (lv_at hl 1 rfl) ?_
  refine kx_icmp_ge (tgt := 65) hx hb (by omega) (by omega) dX0_peopleInWay_8 (by decide) (fun c_8_2 => ?_) (fun c_8_3 => ?_)
  · have hq4 : r0 = ir := by omega
    subst hq4
    refine lv_iload_n hx hb dX0_peopleInWay_65 rfl (lv_at hl 3 rfl) ?_
    have e_5 : (sumN r0 (fun a => pplA z a r0 s0) : Nat) = (people z r0 s0) := by first | rfl | omega | (simp [people, sumN_s, b2, Int32.not_lt, Int32.not_le, c_8_2, Nat.not_lt.mpr c_8_2]; done) | (simp [people, sumN_s, b2, Int32.not_lt, Int32.not_le, c_8_2, Nat.not_lt.mpr c_8_2]; omega) | (revert c_8_2; simp +contextual [people, sumN_s, b2, Int32.not_lt, Int32.not_le]; done) | (revert c_8_2; simp +contextual [people, sumN_s, b2, Int32.not_lt, Int32.not_le]; omega)
    exact kr_iret hx hb hrt hlocks (congrArg nI e_5) rfl dX0_peopleInWay_66
  · refine lv_iconst (v := nI 0) hx hb dX0_peopleInWay_11 (by decide) ?_
    refine lv_istore (lv' := [(5, .int (nI 0)), (0, .ref (b 0)), (1, .int (nI r0)), (2, .int (nI s0)), (3, .int (nI (sumN ir (fun a => pplA z a r0 s0)))), (4, .int (nI ir))]) hx hb dX0_peopleInWay_12 hl (by decide) rfl (fun ls hl => ?_)
    have e14_6 : (sumN ir (fun a => pplA z a r0 s0) : Nat) = (sumN ir (fun a => pplA z a r0 s0) + sumN 0 (fun w => b2 (tk z ir w && blk z ir w r0 s0))) := by first | rfl | omega | (simp [people, sumN_s, b2, Int32.not_lt, Int32.not_le, c_8_3, Nat.not_le.mpr c_8_3]; done) | (simp [people, sumN_s, b2, Int32.not_lt, Int32.not_le, c_8_3, Nat.not_le.mpr c_8_3]; omega) | (revert c_8_3; simp +contextual [people, sumN_s, b2, Int32.not_lt, Int32.not_le]; done) | (revert c_8_3; simp +contextual [people, sumN_s, b2, Int32.not_lt, Int32.not_le]; omega)
    have hl14_7 : lv_has ls 6 [(0, .ref (b 0)), (1, .int (nI r0)), (2, .int (nI s0)), (4, .int (nI ir)), (3, .int (nI (sumN ir (fun a => pplA z a r0 s0) + sumN 0 (fun w => b2 (tk z ir w && blk z ir w r0 s0))))), (5, .int (nI 0))] := lv_eqv (l1 := [(0, .ref (b 0)), (1, .int (nI r0)), (2, .int (nI s0)), (4, .int (nI ir)), (3, .int (nI (sumN ir (fun a => pplA z a r0 s0)))), (5, .int (nI 0))]) (lv_sub hl [1, 2, 3, 5, 4, 0] rfl) (lv_ce rfl (lv_ce rfl (lv_ce rfl (lv_ce rfl (lv_ce (congrArg (fun x => Value.int (nI x)) e14_6) (lv_ce rfl rfl))))))
    refine kx_up (fun k ls => lv_has ls 6 [(0, .ref (b 0)), (1, .int (nI r0)), (2, .int (nI s0)), (4, .int (nI ir)), (3, .int (nI (sumN ir (fun a => pplA z a r0 s0) + sumN k (fun w => b2 (tk z ir w && blk z ir w r0 s0))))), (5, .int (nI k))]) (0) (nS z ir) (by omega) ls (hl14_7) ?_
    intro iw ls hiwl hiwh hp ih14
    have hl := hp
    refine lv_iload hx hb dX0_peopleInWay_14 (lv_at hl 5 rfl) ?_
    refine lv_aload_n hx hb dX0_peopleInWay_16 rfl (lv_at hl 0 rfl) ?_
    refine va_get (D := D) (ci := 0) (v := .ref (b 3)) (C := RX0) (T := TX0) (N := 10) hx hb hts iX0_peopleInWay_0 hown hK hP 0 rfl rfl 3 (by decide) (hts (.fieldLink RX0 18 "HallSights$Hall" "seats" "[I") (List.mem_of_getElem? (i := 1) rfl)) (fun _ h9 => h9) rfl dX0_peopleInWay_17 ?_
    refine lv_iload hx hb dX0_peopleInWay_20 (lv_at hl 3 rfl) ?_
    refine kx_iald hx hb hK hP 3 0 rfl rfl (by omega) (by decide) dX0_peopleInWay_22 ?_
    refine kx_top (wf_S hw (show (ir) < nR z by omega)) ?_
    have hS12_8 := wf_S12 hw (show (ir) < nR z by omega)
    refine kx_icmp_ge (tgt := 59) hx hb (by omega) (by omega) dX0_peopleInWay_23 (by decide) (fun c_23_9 => ?_) (fun c_23_10 => ?_)
    · have hq11 : nS z ir = iw := by omega
      subst hq11
      refine lv_iinc (v := nI (ir + 1)) (lv' := [(4, .int (nI (ir + 1))), (0, .ref (b 0)), (1, .int (nI r0)), (2, .int (nI s0)), (3, .int (nI (sumN ir (fun a => pplA z a r0 s0) + sumN (nS z ir) (fun w => b2 (tk z ir w && blk z ir w r0 s0))))), (5, .int (nI (nS z ir)))]) hx hb dX0_peopleInWay_59 hl (k := 3) rfl (kx_inc 1) (by decide) rfl (fun ls hl => ?_)
      refine lv_goto (tgt := 5) hx hb dX0_peopleInWay_62 (by decide) ?_
      have e5_12 : (sumN ir (fun a => pplA z a r0 s0) + sumN (nS z ir) (fun w => b2 (tk z ir w && blk z ir w r0 s0)) : Nat) = (sumN (ir + 1) (fun a => pplA z a r0 s0)) := by first | rfl | omega | (simp [people, sumN_s, b2, Int32.not_lt, Int32.not_le, c_8_3, Nat.not_le.mpr c_8_3, c_23_9, Nat.not_lt.mpr c_23_9]; done) | (simp [people, sumN_s, b2, Int32.not_lt, Int32.not_le, c_8_3, Nat.not_le.mpr c_8_3, c_23_9, Nat.not_lt.mpr c_23_9]; omega) | (revert c_8_3 c_23_9; simp +contextual [people, sumN_s, b2, Int32.not_lt, Int32.not_le]; done) | (revert c_8_3 c_23_9; simp +contextual [people, sumN_s, b2, Int32.not_lt, Int32.not_le]; omega)
      have e5_13 : (ir + 1 : Nat) = ((ir + 1)) := by first | rfl | omega | (simp [people, sumN_s, b2, Int32.not_lt, Int32.not_le, c_8_3, Nat.not_le.mpr c_8_3, c_23_9, Nat.not_lt.mpr c_23_9]; done) | (simp [people, sumN_s, b2, Int32.not_lt, Int32.not_le, c_8_3, Nat.not_le.mpr c_8_3, c_23_9, Nat.not_lt.mpr c_23_9]; omega) | (revert c_8_3 c_23_9; simp +contextual [people, sumN_s, b2, Int32.not_lt, Int32.not_le]; done) | (revert c_8_3 c_23_9; simp +contextual [people, sumN_s, b2, Int32.not_lt, Int32.not_le]; omega)
      have hl5_14 : lv_has ls 6 [(0, .ref (b 0)), (1, .int (nI r0)), (2, .int (nI s0)), (3, .int (nI (sumN (ir + 1) (fun a => pplA z a r0 s0)))), (4, .int (nI (ir + 1)))] := lv_eqv (l1 := [(0, .ref (b 0)), (1, .int (nI r0)), (2, .int (nI s0)), (3, .int (nI (sumN ir (fun a => pplA z a r0 s0) + sumN (nS z ir) (fun w => b2 (tk z ir w && blk z ir w r0 s0))))), (4, .int (nI (ir + 1)))]) (lv_sub hl [1, 2, 3, 4, 0] rfl) (lv_ce rfl (lv_ce rfl (lv_ce rfl (lv_ce (congrArg (fun x => Value.int (nI x)) e5_12) (lv_ce (congrArg (fun x => Value.int (nI x)) e5_13) rfl)))))
      exact ih5 _ (by omega) (hl5_14)
    · refine lv_aload_n hx hb dX0_peopleInWay_26 rfl (lv_at hl 0 rfl) ?_
      refine lv_iload hx hb dX0_peopleInWay_27 (lv_at hl 3 rfl) ?_
      refine lv_iload hx hb dX0_peopleInWay_29 (lv_at hl 5 rfl) ?_
      refine kr_V (As := [.int (nI ir), .int (nI iw)]) (rest := []) (C := RX0) (own := RX0) ⟨hx, hb, hml, hown, hts⟩ (c_X0_isTaken l D cI cC cH cL b z ir iw (by first | assumption | omega)) (cwV 2 hts gX0_peopleInWay_X0_isTaken rfl rfl rfl k_X0_isTaken ⟨Nat.le_of_ble_eq_true rfl, Nat.le_of_ble_eq_true rfl⟩) hP hK (va_recv (q := (RX0, TX0, 10)) hK hP (ci := 0) (q0 := 0) rfl rfl) rfl hl.1 rfl (Nat.le_of_ble_eq_true rfl) dX0_peopleInWay_31 ⟨Nat.le_of_ble_eq_true rfl, Nat.le_of_ble_eq_true rfl⟩ ?_
      refine kx_if_eqb (tgt := 53) hx hb dX0_peopleInWay_34 (by decide) (fun c_34_15 => ?_) (fun c_34_16 => ?_)
      · refine lv_iinc (v := nI (iw + 1)) (lv' := [(5, .int (nI (iw + 1))), (0, .ref (b 0)), (1, .int (nI r0)), (2, .int (nI s0)), (4, .int (nI ir)), (3, .int (nI (sumN ir (fun a => pplA z a r0 s0) + sumN iw (fun w => b2 (tk z ir w && blk z ir w r0 s0)))))]) hx hb dX0_peopleInWay_53 hl (k := 5) rfl (kx_inc 1) (by decide) rfl (fun ls hl => ?_)
        refine lv_goto (tgt := 14) hx hb dX0_peopleInWay_56 (by decide) ?_
        have e14_17 : (sumN ir (fun a => pplA z a r0 s0) + sumN iw (fun w => b2 (tk z ir w && blk z ir w r0 s0)) : Nat) = (sumN ir (fun a => pplA z a r0 s0) + sumN (iw + 1) (fun w => b2 (tk z ir w && blk z ir w r0 s0))) := by first | rfl | omega | (simp [people, sumN_s, b2, Int32.not_lt, Int32.not_le, c_8_3, Nat.not_le.mpr c_8_3, c_23_10, Nat.not_le.mpr c_23_10, c_34_15]; done) | (simp [people, sumN_s, b2, Int32.not_lt, Int32.not_le, c_8_3, Nat.not_le.mpr c_8_3, c_23_10, Nat.not_le.mpr c_23_10, c_34_15]; omega) | (revert c_8_3 c_23_10 c_34_15; simp +contextual [people, sumN_s, b2, Int32.not_lt, Int32.not_le]; done) | (revert c_8_3 c_23_10 c_34_15; simp +contextual [people, sumN_s, b2, Int32.not_lt, Int32.not_le]; omega)
        have e14_18 : (iw + 1 : Nat) = ((iw + 1)) := by first | rfl | omega | (simp [people, sumN_s, b2, Int32.not_lt, Int32.not_le, c_8_3, Nat.not_le.mpr c_8_3, c_23_10, Nat.not_le.mpr c_23_10, c_34_15]; done) | (simp [people, sumN_s, b2, Int32.not_lt, Int32.not_le, c_8_3, Nat.not_le.mpr c_8_3, c_23_10, Nat.not_le.mpr c_23_10, c_34_15]; omega) | (revert c_8_3 c_23_10 c_34_15; simp +contextual [people, sumN_s, b2, Int32.not_lt, Int32.not_le]; done) | (revert c_8_3 c_23_10 c_34_15; simp +contextual [people, sumN_s, b2, Int32.not_lt, Int32.not_le]; omega)
        have hl14_19 : lv_has ls 6 [(0, .ref (b 0)), (1, .int (nI r0)), (2, .int (nI s0)), (4, .int (nI ir)), (3, .int (nI (sumN ir (fun a => pplA z a r0 s0) + sumN (iw + 1) (fun w => b2 (tk z ir w && blk z ir w r0 s0))))), (5, .int (nI (iw + 1)))] := lv_eqv (l1 := [(0, .ref (b 0)), (1, .int (nI r0)), (2, .int (nI s0)), (4, .int (nI ir)), (3, .int (nI (sumN ir (fun a => pplA z a r0 s0) + sumN iw (fun w => b2 (tk z ir w && blk z ir w r0 s0))))), (5, .int (nI (iw + 1)))]) (lv_sub hl [1, 2, 3, 4, 5, 0] rfl) (lv_ce rfl (lv_ce rfl (lv_ce rfl (lv_ce rfl (lv_ce (congrArg (fun x => Value.int (nI x)) e14_17) (lv_ce (congrArg (fun x => Value.int (nI x)) e14_18) rfl))))))
        exact ih14 _ (by omega) (hl14_19)
      · refine lv_aload_n hx hb dX0_peopleInWay_37 rfl (lv_at hl 0 rfl) ?_
        refine lv_iload_n hx hb dX0_peopleInWay_38 rfl (lv_at hl 1 rfl) ?_
        refine lv_iload_n hx hb dX0_peopleInWay_39 rfl (lv_at hl 2 rfl) ?_
        refine lv_iload hx hb dX0_peopleInWay_40 (lv_at hl 3 rfl) ?_
        refine lv_iload hx hb dX0_peopleInWay_42 (lv_at hl 5 rfl) ?_
        refine kr_V (As := [.int (nI r0), .int (nI s0), .int (nI ir), .int (nI iw)]) (rest := []) (C := RX0) (own := RX0) ⟨hx, hb, hml, hown, hts⟩ (c_X0_isHeadInWay l D cI cC cH cL b z r0 s0 ir iw (by first | assumption | omega) (by first | assumption | omega) (by first | assumption | omega) (by first | assumption | omega)) (cwV 4 hts gX0_peopleInWay_X0_isHeadInWay rfl rfl rfl k_X0_isHeadInWay ⟨Nat.le_of_ble_eq_true rfl, Nat.le_of_ble_eq_true rfl⟩) hP hK (va_recv (q := (RX0, TX0, 10)) hK hP (ci := 0) (q0 := 0) rfl rfl) rfl hl.1 rfl (Nat.le_of_ble_eq_true rfl) dX0_peopleInWay_44 ⟨Nat.le_of_ble_eq_true rfl, Nat.le_of_ble_eq_true rfl⟩ ?_
        refine kx_if_eqb (tgt := 53) hx hb dX0_peopleInWay_47 (by decide) (fun c_47_20 => ?_) (fun c_47_21 => ?_)
        · refine lv_iinc (v := nI (iw + 1)) (lv' := [(5, .int (nI (iw + 1))), (0, .ref (b 0)), (1, .int (nI r0)), (2, .int (nI s0)), (4, .int (nI ir)), (3, .int (nI (sumN ir (fun a => pplA z a r0 s0) + sumN iw (fun w => b2 (tk z ir w && blk z ir w r0 s0)))))]) hx hb dX0_peopleInWay_53 hl (k := 5) rfl (kx_inc 1) (by decide) rfl (fun ls hl => ?_)
          refine lv_goto (tgt := 14) hx hb dX0_peopleInWay_56 (by decide) ?_
          have e14_22 : (sumN ir (fun a => pplA z a r0 s0) + sumN iw (fun w => b2 (tk z ir w && blk z ir w r0 s0)) : Nat) = (sumN ir (fun a => pplA z a r0 s0) + sumN (iw + 1) (fun w => b2 (tk z ir w && blk z ir w r0 s0))) := by first | rfl | omega | (simp [people, sumN_s, b2, Int32.not_lt, Int32.not_le, c_8_3, Nat.not_le.mpr c_8_3, c_23_10, Nat.not_le.mpr c_23_10, c_34_16, c_47_20]; done) | (simp [people, sumN_s, b2, Int32.not_lt, Int32.not_le, c_8_3, Nat.not_le.mpr c_8_3, c_23_10, Nat.not_le.mpr c_23_10, c_34_16, c_47_20]; omega) | (revert c_8_3 c_23_10 c_34_16 c_47_20; simp +contextual [people, sumN_s, b2, Int32.not_lt, Int32.not_le]; done) | (revert c_8_3 c_23_10 c_34_16 c_47_20; simp +contextual [people, sumN_s, b2, Int32.not_lt, Int32.not_le]; omega)
          have e14_23 : (iw + 1 : Nat) = ((iw + 1)) := by first | rfl | omega | (simp [people, sumN_s, b2, Int32.not_lt, Int32.not_le, c_8_3, Nat.not_le.mpr c_8_3, c_23_10, Nat.not_le.mpr c_23_10, c_34_16, c_47_20]; done) | (simp [people, sumN_s, b2, Int32.not_lt, Int32.not_le, c_8_3, Nat.not_le.mpr c_8_3, c_23_10, Nat.not_le.mpr c_23_10, c_34_16, c_47_20]; omega) | (revert c_8_3 c_23_10 c_34_16 c_47_20; simp +contextual [people, sumN_s, b2, Int32.not_lt, Int32.not_le]; done) | (revert c_8_3 c_23_10 c_34_16 c_47_20; simp +contextual [people, sumN_s, b2, Int32.not_lt, Int32.not_le]; omega)
          have hl14_24 : lv_has ls 6 [(0, .ref (b 0)), (1, .int (nI r0)), (2, .int (nI s0)), (4, .int (nI ir)), (3, .int (nI (sumN ir (fun a => pplA z a r0 s0) + sumN (iw + 1) (fun w => b2 (tk z ir w && blk z ir w r0 s0))))), (5, .int (nI (iw + 1)))] := lv_eqv (l1 := [(0, .ref (b 0)), (1, .int (nI r0)), (2, .int (nI s0)), (4, .int (nI ir)), (3, .int (nI (sumN ir (fun a => pplA z a r0 s0) + sumN iw (fun w => b2 (tk z ir w && blk z ir w r0 s0))))), (5, .int (nI (iw + 1)))]) (lv_sub hl [1, 2, 3, 4, 5, 0] rfl) (lv_ce rfl (lv_ce rfl (lv_ce rfl (lv_ce rfl (lv_ce (congrArg (fun x => Value.int (nI x)) e14_22) (lv_ce (congrArg (fun x => Value.int (nI x)) e14_23) rfl))))))
          exact ih14 _ (by omega) (hl14_24)
        · refine lv_iinc (v := nI ((sumN ir (fun a => pplA z a r0 s0) + sumN iw (fun w => b2 (tk z ir w && blk z ir w r0 s0))) + 1)) (lv' := [(3, .int (nI ((sumN ir (fun a => pplA z a r0 s0) + sumN iw (fun w => b2 (tk z ir w && blk z ir w r0 s0))) + 1))), (0, .ref (b 0)), (1, .int (nI r0)), (2, .int (nI s0)), (4, .int (nI ir)), (5, .int (nI iw))]) hx hb dX0_peopleInWay_50 hl (k := 4) rfl (kx_inc 1) (by decide) rfl (fun ls hl => ?_)
          refine lv_iinc (v := nI (iw + 1)) (lv' := [(5, .int (nI (iw + 1))), (3, .int (nI ((sumN ir (fun a => pplA z a r0 s0) + sumN iw (fun w => b2 (tk z ir w && blk z ir w r0 s0))) + 1))), (0, .ref (b 0)), (1, .int (nI r0)), (2, .int (nI s0)), (4, .int (nI ir))]) hx hb dX0_peopleInWay_53 hl (k := 5) rfl (kx_inc 1) (by decide) rfl (fun ls hl => ?_)
          refine lv_goto (tgt := 14) hx hb dX0_peopleInWay_56 (by decide) ?_
          have e14_25 : ((sumN ir (fun a => pplA z a r0 s0) + sumN iw (fun w => b2 (tk z ir w && blk z ir w r0 s0))) + 1 : Nat) = (sumN ir (fun a => pplA z a r0 s0) + sumN (iw + 1) (fun w => b2 (tk z ir w && blk z ir w r0 s0))) := by first | rfl | omega | (simp [people, sumN_s, b2, Int32.not_lt, Int32.not_le, c_8_3, Nat.not_le.mpr c_8_3, c_23_10, Nat.not_le.mpr c_23_10, c_34_16, c_47_21]; done) | (simp [people, sumN_s, b2, Int32.not_lt, Int32.not_le, c_8_3, Nat.not_le.mpr c_8_3, c_23_10, Nat.not_le.mpr c_23_10, c_34_16, c_47_21]; omega) | (revert c_8_3 c_23_10 c_34_16 c_47_21; simp +contextual [people, sumN_s, b2, Int32.not_lt, Int32.not_le]; done) | (revert c_8_3 c_23_10 c_34_16 c_47_21; simp +contextual [people, sumN_s, b2, Int32.not_lt, Int32.not_le]; omega)
          have e14_26 : (iw + 1 : Nat) = ((iw + 1)) := by first | rfl | omega | (simp [people, sumN_s, b2, Int32.not_lt, Int32.not_le, c_8_3, Nat.not_le.mpr c_8_3, c_23_10, Nat.not_le.mpr c_23_10, c_34_16, c_47_21]; done) | (simp [people, sumN_s, b2, Int32.not_lt, Int32.not_le, c_8_3, Nat.not_le.mpr c_8_3, c_23_10, Nat.not_le.mpr c_23_10, c_34_16, c_47_21]; omega) | (revert c_8_3 c_23_10 c_34_16 c_47_21; simp +contextual [people, sumN_s, b2, Int32.not_lt, Int32.not_le]; done) | (revert c_8_3 c_23_10 c_34_16 c_47_21; simp +contextual [people, sumN_s, b2, Int32.not_lt, Int32.not_le]; omega)
          have hl14_27 : lv_has ls 6 [(0, .ref (b 0)), (1, .int (nI r0)), (2, .int (nI s0)), (4, .int (nI ir)), (3, .int (nI (sumN ir (fun a => pplA z a r0 s0) + sumN (iw + 1) (fun w => b2 (tk z ir w && blk z ir w r0 s0))))), (5, .int (nI (iw + 1)))] := lv_eqv (l1 := [(0, .ref (b 0)), (1, .int (nI r0)), (2, .int (nI s0)), (4, .int (nI ir)), (3, .int (nI ((sumN ir (fun a => pplA z a r0 s0) + sumN iw (fun w => b2 (tk z ir w && blk z ir w r0 s0))) + 1))), (5, .int (nI (iw + 1)))]) (lv_sub hl [2, 3, 4, 5, 1, 0] rfl) (lv_ce rfl (lv_ce rfl (lv_ce rfl (lv_ce rfl (lv_ce (congrArg (fun x => Value.int (nI x)) e14_25) (lv_ce (congrArg (fun x => Value.int (nI x)) e14_26) rfl))))))
          exact ih14 _ (by omega) (hl14_27)
set_option maxRecDepth 20000 in
theorem iX0_columnsInWay_0 : ∀ w ∈ wsX00, w ∈ wsX0_columnsInWay := by decide +kernel
set_option maxHeartbeats 4000000 in
set_option maxRecDepth 100000 in
theorem c_X0_columnsInWay (l : Launch) (D : va_G) (cI cC cH cL : ClassId) (b : Nat → Nat) (z : ZZ) (r0 : Nat) (s0 : Nat) (hw : WF z) (hr : r0 < nR z) : Met l yX0_columnsInWay wsX0_columnsInWay ({ frames := 2, cells := 0, slots := 0, locals := 66 }) (kp [.ref (b 0), .int (nI r0), .int (nI s0)] D (HW b cI z) (kT cI cC cH cL)) (kr (.returned (some (.int (nI (colsN z r0 s0)))))) 0 0 (fun _ => False) := by
  refine Met.ofW (cc := cX0_columnsInWay) (maxL := 5) (ret := (some .int)) (by decide) rfl ?_
  intro p e s m args below meth c s₁ B hml hv
  obtain ⟨rfl, hP, hK⟩ := hv
  have hx := B.exec
  have hb := B.bytes
  have hrt := B.returns
  have hts := atoms_spec (ws := wsX0_columnsInWay) B.pre
  have hown : s.vm.findClass RX0 = some m.cls := findClass_of_methodNamed B.named
  have hlocks := B.notSynchronized
  have hl := lv_entry ([.ref (b 0), .int (nI r0), .int (nI s0)]) (n := 5) (Nat.le_of_ble_eq_true rfl)
  rw [lg_entry_eq]
  generalize (lg_sl ([.ref (b 0), .int (nI r0), .int (nI s0)]) ++ List.replicate (5 - (lg_sl ([.ref (b 0), .int (nI r0), .int (nI s0)])).length) Slot.unset).toArray = ls at hl ⊢
  have hl : lv_has ls 5 [(0, .ref (b 0)), (1, .int (nI r0)), (2, .int (nI s0))] := hl
  have hR10 := wf_R10 hw
  have hC4 := wf_C4 hw
  refine lv_iconst (v := nI 0) hx hb dX0_columnsInWay_0 (by decide) ?_
  refine lv_istore_n (lv' := [(3, .int (nI 0)), (0, .ref (b 0)), (1, .int (nI r0)), (2, .int (nI s0))]) hx hb dX0_columnsInWay_1 rfl hl (by decide) rfl (fun ls hl => ?_)
  refine lv_iconst (v := nI 0) hx hb dX0_columnsInWay_2 (by decide) ?_
  refine lv_istore (lv' := [(4, .int (nI 0)), (3, .int (nI 0)), (0, .ref (b 0)), (1, .int (nI r0)), (2, .int (nI s0))]) hx hb dX0_columnsInWay_3 hl (by decide) rfl (fun ls hl => ?_)
  have e5_0 : (0 : Nat) = (sumN 0 (fun k => b2 (cblk z k r0 s0))) := by first | rfl | omega | (simp [colsN, sumN_s, b2, Int32.not_lt, Int32.not_le]; done) | (simp [colsN, sumN_s, b2, Int32.not_lt, Int32.not_le]; omega)
  have hl5_1 : lv_has ls 5 [(0, .ref (b 0)), (1, .int (nI r0)), (2, .int (nI s0)), (3, .int (nI (sumN 0 (fun k => b2 (cblk z k r0 s0))))), (4, .int (nI 0))] := lv_eqv (l1 := [(0, .ref (b 0)), (1, .int (nI r0)), (2, .int (nI s0)), (3, .int (nI 0)), (4, .int (nI 0))]) (lv_sub hl [2, 3, 4, 1, 0] rfl) (lv_ce rfl (lv_ce rfl (lv_ce rfl (lv_ce (congrArg (fun x => Value.int (nI x)) e5_0) (lv_ce rfl rfl)))))
  refine kx_up (fun k ls => lv_has ls 5 [(0, .ref (b 0)), (1, .int (nI r0)), (2, .int (nI s0)), (3, .int (nI (sumN k (fun k => b2 (cblk z k r0 s0))))), (4, .int (nI k))]) (0) (nC z) (by omega) ls (hl5_1) ?_
  intro ik ls hikl hikh hp ih5
  have hl := hp
  refine lv_iload hx hb dX0_columnsInWay_5 (lv_at hl 4 rfl) ?_
  refine lv_aload_n hx hb dX0_columnsInWay_7 rfl (lv_at hl 0 rfl) ?_
  refine va_get (D := D) (ci := 0) (v := .int (z 4)) (C := RX0) (T := TX0) (N := 10) hx hb hts iX0_columnsInWay_0 hown hK hP 0 rfl rfl 5 (by decide) (hts (.fieldLink RX0 46 "HallSights$Hall" "columns" "I") (List.mem_of_getElem? (i := 1) rfl)) (fun _ h9 => h9) rfl dX0_columnsInWay_8 ?_
  refine kx_top (wf_C hw) ?_
  refine kx_icmp_ge (tgt := 34) hx hb (by omega) (by omega) dX0_columnsInWay_11 (by decide) (fun c_11_2 => ?_) (fun c_11_3 => ?_)
  · have hq4 : nC z = ik := by omega
    subst hq4
    refine lv_iload_n hx hb dX0_columnsInWay_34 rfl (lv_at hl 3 rfl) ?_
    have e_5 : (sumN (nC z) (fun k => b2 (cblk z k r0 s0)) : Nat) = (colsN z r0 s0) := by first | rfl | omega | (simp [colsN, sumN_s, b2, Int32.not_lt, Int32.not_le, c_11_2, Nat.not_lt.mpr c_11_2]; done) | (simp [colsN, sumN_s, b2, Int32.not_lt, Int32.not_le, c_11_2, Nat.not_lt.mpr c_11_2]; omega) | (revert c_11_2; simp +contextual [colsN, sumN_s, b2, Int32.not_lt, Int32.not_le]; done) | (revert c_11_2; simp +contextual [colsN, sumN_s, b2, Int32.not_lt, Int32.not_le]; omega)
    exact kr_iret hx hb hrt hlocks (congrArg nI e_5) rfl dX0_columnsInWay_35
  · refine lv_aload_n hx hb dX0_columnsInWay_14 rfl (lv_at hl 0 rfl) ?_
    refine lv_iload_n hx hb dX0_columnsInWay_15 rfl (lv_at hl 1 rfl) ?_
    refine lv_iload_n hx hb dX0_columnsInWay_16 rfl (lv_at hl 2 rfl) ?_
    refine lv_iload hx hb dX0_columnsInWay_17 (lv_at hl 4 rfl) ?_
    refine kr_V (As := [.int (nI r0), .int (nI s0), .int (nI ik)]) (rest := []) (C := RX0) (own := RX0) ⟨hx, hb, hml, hown, hts⟩ (c_X0_isColumnInWay l D cI cC cH cL b z r0 s0 ik (by first | assumption | omega) (by first | assumption | omega) (by first | assumption | omega)) (cwV 3 hts gX0_columnsInWay_X0_isColumnInWay rfl rfl rfl k_X0_isColumnInWay ⟨Nat.le_of_ble_eq_true rfl, Nat.le_of_ble_eq_true rfl⟩) hP hK (va_recv (q := (RX0, TX0, 10)) hK hP (ci := 0) (q0 := 0) rfl rfl) rfl hl.1 rfl (Nat.le_of_ble_eq_true rfl) dX0_columnsInWay_19 ⟨Nat.le_of_ble_eq_true rfl, Nat.le_of_ble_eq_true rfl⟩ ?_
    refine kx_if_eqb (tgt := 28) hx hb dX0_columnsInWay_22 (by decide) (fun c_22_6 => ?_) (fun c_22_7 => ?_)
    · refine lv_iinc (v := nI (ik + 1)) (lv' := [(4, .int (nI (ik + 1))), (0, .ref (b 0)), (1, .int (nI r0)), (2, .int (nI s0)), (3, .int (nI (sumN ik (fun k => b2 (cblk z k r0 s0)))))]) hx hb dX0_columnsInWay_28 hl (k := 4) rfl (kx_inc 1) (by decide) rfl (fun ls hl => ?_)
      refine lv_goto (tgt := 5) hx hb dX0_columnsInWay_31 (by decide) ?_
      have e5_8 : (sumN ik (fun k => b2 (cblk z k r0 s0)) : Nat) = (sumN (ik + 1) (fun k => b2 (cblk z k r0 s0))) := by first | rfl | omega | (simp [colsN, sumN_s, b2, Int32.not_lt, Int32.not_le, c_11_3, Nat.not_le.mpr c_11_3, c_22_6]; done) | (simp [colsN, sumN_s, b2, Int32.not_lt, Int32.not_le, c_11_3, Nat.not_le.mpr c_11_3, c_22_6]; omega) | (revert c_11_3 c_22_6; simp +contextual [colsN, sumN_s, b2, Int32.not_lt, Int32.not_le]; done) | (revert c_11_3 c_22_6; simp +contextual [colsN, sumN_s, b2, Int32.not_lt, Int32.not_le]; omega)
      have e5_9 : (ik + 1 : Nat) = ((ik + 1)) := by first | rfl | omega | (simp [colsN, sumN_s, b2, Int32.not_lt, Int32.not_le, c_11_3, Nat.not_le.mpr c_11_3, c_22_6]; done) | (simp [colsN, sumN_s, b2, Int32.not_lt, Int32.not_le, c_11_3, Nat.not_le.mpr c_11_3, c_22_6]; omega) | (revert c_11_3 c_22_6; simp +contextual [colsN, sumN_s, b2, Int32.not_lt, Int32.not_le]; done) | (revert c_11_3 c_22_6; simp +contextual [colsN, sumN_s, b2, Int32.not_lt, Int32.not_le]; omega)
      have hl5_10 : lv_has ls 5 [(0, .ref (b 0)), (1, .int (nI r0)), (2, .int (nI s0)), (3, .int (nI (sumN (ik + 1) (fun k => b2 (cblk z k r0 s0))))), (4, .int (nI (ik + 1)))] := lv_eqv (l1 := [(0, .ref (b 0)), (1, .int (nI r0)), (2, .int (nI s0)), (3, .int (nI (sumN ik (fun k => b2 (cblk z k r0 s0))))), (4, .int (nI (ik + 1)))]) (lv_sub hl [1, 2, 3, 4, 0] rfl) (lv_ce rfl (lv_ce rfl (lv_ce rfl (lv_ce (congrArg (fun x => Value.int (nI x)) e5_8) (lv_ce (congrArg (fun x => Value.int (nI x)) e5_9) rfl)))))
      exact ih5 _ (by omega) (hl5_10)
    · refine lv_iinc (v := nI ((sumN ik (fun k => b2 (cblk z k r0 s0))) + 1)) (lv' := [(3, .int (nI ((sumN ik (fun k => b2 (cblk z k r0 s0))) + 1))), (0, .ref (b 0)), (1, .int (nI r0)), (2, .int (nI s0)), (4, .int (nI ik))]) hx hb dX0_columnsInWay_25 hl (k := 3) rfl (kx_inc 1) (by decide) rfl (fun ls hl => ?_)
      refine lv_iinc (v := nI (ik + 1)) (lv' := [(4, .int (nI (ik + 1))), (3, .int (nI ((sumN ik (fun k => b2 (cblk z k r0 s0))) + 1))), (0, .ref (b 0)), (1, .int (nI r0)), (2, .int (nI s0))]) hx hb dX0_columnsInWay_28 hl (k := 4) rfl (kx_inc 1) (by decide) rfl (fun ls hl => ?_)
      refine lv_goto (tgt := 5) hx hb dX0_columnsInWay_31 (by decide) ?_
      have e5_11 : ((sumN ik (fun k => b2 (cblk z k r0 s0))) + 1 : Nat) = (sumN (ik + 1) (fun k => b2 (cblk z k r0 s0))) := by first | rfl | omega | (simp [colsN, sumN_s, b2, Int32.not_lt, Int32.not_le, c_11_3, Nat.not_le.mpr c_11_3, c_22_7]; done) | (simp [colsN, sumN_s, b2, Int32.not_lt, Int32.not_le, c_11_3, Nat.not_le.mpr c_11_3, c_22_7]; omega) | (revert c_11_3 c_22_7; simp +contextual [colsN, sumN_s, b2, Int32.not_lt, Int32.not_le]; done) | (revert c_11_3 c_22_7; simp +contextual [colsN, sumN_s, b2, Int32.not_lt, Int32.not_le]; omega)
      have e5_12 : (ik + 1 : Nat) = ((ik + 1)) := by first | rfl | omega | (simp [colsN, sumN_s, b2, Int32.not_lt, Int32.not_le, c_11_3, Nat.not_le.mpr c_11_3, c_22_7]; done) | (simp [colsN, sumN_s, b2, Int32.not_lt, Int32.not_le, c_11_3, Nat.not_le.mpr c_11_3, c_22_7]; omega) | (revert c_11_3 c_22_7; simp +contextual [colsN, sumN_s, b2, Int32.not_lt, Int32.not_le]; done) | (revert c_11_3 c_22_7; simp +contextual [colsN, sumN_s, b2, Int32.not_lt, Int32.not_le]; omega)
      have hl5_13 : lv_has ls 5 [(0, .ref (b 0)), (1, .int (nI r0)), (2, .int (nI s0)), (3, .int (nI (sumN (ik + 1) (fun k => b2 (cblk z k r0 s0))))), (4, .int (nI (ik + 1)))] := lv_eqv (l1 := [(0, .ref (b 0)), (1, .int (nI r0)), (2, .int (nI s0)), (3, .int (nI ((sumN ik (fun k => b2 (cblk z k r0 s0))) + 1))), (4, .int (nI (ik + 1)))]) (lv_sub hl [2, 3, 4, 1, 0] rfl) (lv_ce rfl (lv_ce rfl (lv_ce rfl (lv_ce (congrArg (fun x => Value.int (nI x)) e5_11) (lv_ce (congrArg (fun x => Value.int (nI x)) e5_12) rfl)))))
      exact ih5 _ (by omega) (hl5_13)
set_option maxRecDepth 20000 in
theorem iX0_takenBehind_0 : ∀ w ∈ wsX00, w ∈ wsX0_takenBehind := by decide +kernel
set_option maxHeartbeats 4000000 in
set_option maxRecDepth 100000 in
theorem c_X0_takenBehind (l : Launch) (D : va_G) (cI cC cH cL : ClassId) (b : Nat → Nat) (z : ZZ) (r0 : Nat) (s0 : Nat) (hw : WF z) (hs : WS z) (hr : r0 < nR z) : Met l yX0_takenBehind wsX0_takenBehind ({ frames := 2, cells := 0, slots := 0, locals := 67 }) (kp [.ref (b 0), .int (nI r0), .int (nI s0)] D (HW b cI z) (kT cI cC cH cL)) (kr (.returned (some (.int (nI (blkd z r0 s0 false)))))) 0 0 (fun _ => False) := by
  refine Met.ofW (cc := cX0_takenBehind) (maxL := 6) (ret := (some .int)) (by decide) rfl ?_
  intro p e s m args below meth c s₁ B hml hv
  obtain ⟨rfl, hP, hK⟩ := hv
  have hx := B.exec
  have hb := B.bytes
  have hrt := B.returns
  have hts := atoms_spec (ws := wsX0_takenBehind) B.pre
  have hown : s.vm.findClass RX0 = some m.cls := findClass_of_methodNamed B.named
  have hlocks := B.notSynchronized
  have hl := lv_entry ([.ref (b 0), .int (nI r0), .int (nI s0)]) (n := 6) (Nat.le_of_ble_eq_true rfl)
  rw [lg_entry_eq]
  generalize (lg_sl ([.ref (b 0), .int (nI r0), .int (nI s0)]) ++ List.replicate (6 - (lg_sl ([.ref (b 0), .int (nI r0), .int (nI s0)])).length) Slot.unset).toArray = ls at hl ⊢
  have hl : lv_has ls 6 [(0, .ref (b 0)), (1, .int (nI r0)), (2, .int (nI s0))] := hl
  have hR10 := wf_R10 hw
  have hC4 := wf_C4 hw
  refine lv_iconst (v := nI 0) hx hb dX0_takenBehind_0 (by decide) ?_
  refine lv_istore_n (lv' := [(3, .int (nI 0)), (0, .ref (b 0)), (1, .int (nI r0)), (2, .int (nI s0))]) hx hb dX0_takenBehind_1 rfl hl (by decide) rfl (fun ls hl => ?_)
  refine lv_iload_n hx hb dX0_takenBehind_2 rfl (lv_at hl 2 rfl) ?_
  refine lv_iconst (v := nI 1) hx hb dX0_takenBehind_3 (by decide) ?_
  refine kx_iadd hx hb dX0_takenBehind_4 ?_
  refine lv_istore (lv' := [(4, .int (nI (r0 + 1))), (3, .int (nI 0)), (0, .ref (b 0)), (1, .int (nI r0)), (2, .int (nI s0))]) hx hb dX0_takenBehind_5 hl (by decide) rfl (fun ls hl => ?_)
  have e7_0 : (0 : Nat) = (sumN 0 (fun j => blkA z r0 s0 false (r0 + 1 + j))) := by first | rfl | omega | (simp [blkd, blkA, sumN_s, b2, Int32.not_lt, Int32.not_le]; done) | (simp [blkd, blkA, sumN_s, b2, Int32.not_lt, Int32.not_le]; omega)
  have e7_1 : (r0 + 1 : Nat) = (r0 + 1 + 0) := by first | rfl | omega | (simp [blkd, blkA, sumN_s, b2, Int32.not_lt, Int32.not_le]; done) | (simp [blkd, blkA, sumN_s, b2, Int32.not_lt, Int32.not_le]; omega)
  have hl7_2 : lv_has ls 6 [(0, .ref (b 0)), (1, .int (nI r0)), (2, .int (nI s0)), (3, .int (nI (sumN 0 (fun j => blkA z r0 s0 false (r0 + 1 + j))))), (4, .int (nI (r0 + 1 + 0)))] := lv_eqv (l1 := [(0, .ref (b 0)), (1, .int (nI r0)), (2, .int (nI s0)), (3, .int (nI 0)), (4, .int (nI (r0 + 1)))]) (lv_sub hl [2, 3, 4, 1, 0] rfl) (lv_ce rfl (lv_ce rfl (lv_ce rfl (lv_ce (congrArg (fun x => Value.int (nI x)) e7_0) (lv_ce (congrArg (fun x => Value.int (nI x)) e7_1) rfl)))))
  refine kx_up (fun k ls => lv_has ls 6 [(0, .ref (b 0)), (1, .int (nI r0)), (2, .int (nI s0)), (3, .int (nI (sumN k (fun j => blkA z r0 s0 false (r0 + 1 + j))))), (4, .int (nI (r0 + 1 + k)))]) (0) (nR z - (r0 + 1)) (by omega) ls (hl7_2) ?_
  intro ir ls hirl hirh hp ih7
  have hl := hp
  refine lv_iload hx hb dX0_takenBehind_7 (lv_at hl 4 rfl) ?_
  refine lv_aload_n hx hb dX0_takenBehind_9 rfl (lv_at hl 0 rfl) ?_
  refine va_get (D := D) (ci := 0) (v := .int (z 3)) (C := RX0) (T := TX0) (N := 10) hx hb hts iX0_takenBehind_0 hown hK hP 0 rfl rfl 0 (by decide) (hts (.fieldLink RX0 36 "HallSights$Hall" "rows" "I") (List.mem_of_getElem? (i := 1) rfl)) (fun _ h9 => h9) rfl dX0_takenBehind_10 ?_
  refine kx_top (wf_R hw) ?_
  refine kx_icmp_ge (tgt := 70) hx hb (by omega) (by omega) dX0_takenBehind_13 (by decide) (fun c_13_3 => ?_) (fun c_13_4 => ?_)
  · have hq5 : nR z - (r0 + 1) = ir := by omega
    subst hq5
    refine lv_iload_n hx hb dX0_takenBehind_70 rfl (lv_at hl 3 rfl) ?_
    have e_6 : (sumN (nR z - (r0 + 1)) (fun j => blkA z r0 s0 false (r0 + 1 + j)) : Nat) = (blkd z r0 s0 false) := by first | rfl | omega | (simp [blkd, blkA, sumN_s, b2, Int32.not_lt, Int32.not_le, c_13_3, Nat.not_lt.mpr c_13_3]; done) | (simp [blkd, blkA, sumN_s, b2, Int32.not_lt, Int32.not_le, c_13_3, Nat.not_lt.mpr c_13_3]; omega) | (revert c_13_3; simp +contextual [blkd, blkA, sumN_s, b2, Int32.not_lt, Int32.not_le]; done) | (revert c_13_3; simp +contextual [blkd, blkA, sumN_s, b2, Int32.not_lt, Int32.not_le]; omega)
    exact kr_iret hx hb hrt hlocks (congrArg nI e_6) rfl dX0_takenBehind_71
  · refine lv_iconst (v := nI 0) hx hb dX0_takenBehind_16 (by decide) ?_
    refine lv_istore (lv' := [(5, .int (nI 0)), (0, .ref (b 0)), (1, .int (nI r0)), (2, .int (nI s0)), (3, .int (nI (sumN ir (fun j => blkA z r0 s0 false (r0 + 1 + j))))), (4, .int (nI (r0 + 1 + ir)))]) hx hb dX0_takenBehind_17 hl (by decide) rfl (fun ls hl => ?_)
    have e19_7 : (sumN ir (fun j => blkA z r0 s0 false (r0 + 1 + j)) : Nat) = (sumN ir (fun j => blkA z r0 s0 false (r0 + 1 + j)) + sumN 0 (fun w => b2 ((tk z (r0 + 1 + ir) w && blk z r0 s0 (r0 + 1 + ir) w) && (!false || seesB z (r0 + 1 + ir) w)))) := by first | rfl | omega | (simp [blkd, blkA, sumN_s, b2, Int32.not_lt, Int32.not_le, c_13_4, Nat.not_le.mpr c_13_4]; done) | (simp [blkd, blkA, sumN_s, b2, Int32.not_lt, Int32.not_le, c_13_4, Nat.not_le.mpr c_13_4]; omega) | (revert c_13_4; simp +contextual [blkd, blkA, sumN_s, b2, Int32.not_lt, Int32.not_le]; done) | (revert c_13_4; simp +contextual [blkd, blkA, sumN_s, b2, Int32.not_lt, Int32.not_le]; omega)
    have hl19_8 : lv_has ls 6 [(0, .ref (b 0)), (1, .int (nI r0)), (2, .int (nI s0)), (4, .int (nI (r0 + 1 + ir))), (3, .int (nI (sumN ir (fun j => blkA z r0 s0 false (r0 + 1 + j)) + sumN 0 (fun w => b2 ((tk z (r0 + 1 + ir) w && blk z r0 s0 (r0 + 1 + ir) w) && (!false || seesB z (r0 + 1 + ir) w)))))), (5, .int (nI 0))] := lv_eqv (l1 := [(0, .ref (b 0)), (1, .int (nI r0)), (2, .int (nI s0)), (4, .int (nI (r0 + 1 + ir))), (3, .int (nI (sumN ir (fun j => blkA z r0 s0 false (r0 + 1 + j))))), (5, .int (nI 0))]) (lv_sub hl [1, 2, 3, 5, 4, 0] rfl) (lv_ce rfl (lv_ce rfl (lv_ce rfl (lv_ce rfl (lv_ce (congrArg (fun x => Value.int (nI x)) e19_7) (lv_ce rfl rfl))))))
    refine kx_up (fun k ls => lv_has ls 6 [(0, .ref (b 0)), (1, .int (nI r0)), (2, .int (nI s0)), (4, .int (nI (r0 + 1 + ir))), (3, .int (nI (sumN ir (fun j => blkA z r0 s0 false (r0 + 1 + j)) + sumN k (fun w => b2 ((tk z (r0 + 1 + ir) w && blk z r0 s0 (r0 + 1 + ir) w) && (!false || seesB z (r0 + 1 + ir) w)))))), (5, .int (nI k))]) (0) (nS z (r0 + 1 + ir)) (by omega) ls (hl19_8) ?_
    intro iw ls hiwl hiwh hp ih19
    have hl := hp
    refine lv_iload hx hb dX0_takenBehind_19 (lv_at hl 5 rfl) ?_
    refine lv_aload_n hx hb dX0_takenBehind_21 rfl (lv_at hl 0 rfl) ?_
    refine va_get (D := D) (ci := 0) (v := .ref (b 3)) (C := RX0) (T := TX0) (N := 10) hx hb hts iX0_takenBehind_0 hown hK hP 0 rfl rfl 3 (by decide) (hts (.fieldLink RX0 18 "HallSights$Hall" "seats" "[I") (List.mem_of_getElem? (i := 2) rfl)) (fun _ h9 => h9) rfl dX0_takenBehind_22 ?_
    refine lv_iload hx hb dX0_takenBehind_25 (lv_at hl 3 rfl) ?_
    refine kx_iald hx hb hK hP 3 0 rfl rfl (by omega) (by decide) dX0_takenBehind_27 ?_
    refine kx_top (wf_S hw (show ((r0 + 1 + ir)) < nR z by omega)) ?_
    have hS12_9 := wf_S12 hw (show ((r0 + 1 + ir)) < nR z by omega)
    refine kx_icmp_ge (tgt := 64) hx hb (by omega) (by omega) dX0_takenBehind_28 (by decide) (fun c_28_10 => ?_) (fun c_28_11 => ?_)
    · have hq12 : nS z (r0 + 1 + ir) = iw := by omega
      subst hq12
      refine lv_iinc (v := nI ((r0 + 1 + ir) + 1)) (lv' := [(4, .int (nI ((r0 + 1 + ir) + 1))), (0, .ref (b 0)), (1, .int (nI r0)), (2, .int (nI s0)), (3, .int (nI (sumN ir (fun j => blkA z r0 s0 false (r0 + 1 + j)) + sumN (nS z (r0 + 1 + ir)) (fun w => b2 ((tk z (r0 + 1 + ir) w && blk z r0 s0 (r0 + 1 + ir) w) && (!false || seesB z (r0 + 1 + ir) w)))))), (5, .int (nI (nS z (r0 + 1 + ir))))]) hx hb dX0_takenBehind_64 hl (k := 3) rfl (kx_inc 1) (by decide) rfl (fun ls hl => ?_)
      refine lv_goto (tgt := 7) hx hb dX0_takenBehind_67 (by decide) ?_
      have e7_13 : (sumN ir (fun j => blkA z r0 s0 false (r0 + 1 + j)) + sumN (nS z (r0 + 1 + ir)) (fun w => b2 ((tk z (r0 + 1 + ir) w && blk z r0 s0 (r0 + 1 + ir) w) && (!false || seesB z (r0 + 1 + ir) w))) : Nat) = (sumN (ir + 1) (fun j => blkA z r0 s0 false (r0 + 1 + j))) := by first | rfl | omega | (simp [blkd, blkA, sumN_s, b2, Int32.not_lt, Int32.not_le, c_13_4, Nat.not_le.mpr c_13_4, c_28_10, Nat.not_lt.mpr c_28_10]; done) | (simp [blkd, blkA, sumN_s, b2, Int32.not_lt, Int32.not_le, c_13_4, Nat.not_le.mpr c_13_4, c_28_10, Nat.not_lt.mpr c_28_10]; omega) | (revert c_13_4 c_28_10; simp +contextual [blkd, blkA, sumN_s, b2, Int32.not_lt, Int32.not_le]; done) | (revert c_13_4 c_28_10; simp +contextual [blkd, blkA, sumN_s, b2, Int32.not_lt, Int32.not_le]; omega)
      have e7_14 : ((r0 + 1 + ir) + 1 : Nat) = (r0 + 1 + (ir + 1)) := by first | rfl | omega | (simp [blkd, blkA, sumN_s, b2, Int32.not_lt, Int32.not_le, c_13_4, Nat.not_le.mpr c_13_4, c_28_10, Nat.not_lt.mpr c_28_10]; done) | (simp [blkd, blkA, sumN_s, b2, Int32.not_lt, Int32.not_le, c_13_4, Nat.not_le.mpr c_13_4, c_28_10, Nat.not_lt.mpr c_28_10]; omega) | (revert c_13_4 c_28_10; simp +contextual [blkd, blkA, sumN_s, b2, Int32.not_lt, Int32.not_le]; done) | (revert c_13_4 c_28_10; simp +contextual [blkd, blkA, sumN_s, b2, Int32.not_lt, Int32.not_le]; omega)
      have hl7_15 : lv_has ls 6 [(0, .ref (b 0)), (1, .int (nI r0)), (2, .int (nI s0)), (3, .int (nI (sumN (ir + 1) (fun j => blkA z r0 s0 false (r0 + 1 + j))))), (4, .int (nI (r0 + 1 + (ir + 1))))] := lv_eqv (l1 := [(0, .ref (b 0)), (1, .int (nI r0)), (2, .int (nI s0)), (3, .int (nI (sumN ir (fun j => blkA z r0 s0 false (r0 + 1 + j)) + sumN (nS z (r0 + 1 + ir)) (fun w => b2 ((tk z (r0 + 1 + ir) w && blk z r0 s0 (r0 + 1 + ir) w) && (!false || seesB z (r0 + 1 + ir) w)))))), (4, .int (nI ((r0 + 1 + ir) + 1)))]) (lv_sub hl [1, 2, 3, 4, 0] rfl) (lv_ce rfl (lv_ce rfl (lv_ce rfl (lv_ce (congrArg (fun x => Value.int (nI x)) e7_13) (lv_ce (congrArg (fun x => Value.int (nI x)) e7_14) rfl)))))
      exact ih7 _ (by omega) (hl7_15)
    · refine lv_aload_n hx hb dX0_takenBehind_31 rfl (lv_at hl 0 rfl) ?_
      refine lv_iload hx hb dX0_takenBehind_32 (lv_at hl 3 rfl) ?_
      refine lv_iload hx hb dX0_takenBehind_34 (lv_at hl 5 rfl) ?_
      refine kr_V (As := [.int (nI (r0 + 1 + ir)), .int (nI iw)]) (rest := []) (C := RX0) (own := RX0) ⟨hx, hb, hml, hown, hts⟩ (c_X0_isTaken l D cI cC cH cL b z (r0 + 1 + ir) iw (by first | assumption | omega)) (cwV 2 hts gX0_takenBehind_X0_isTaken rfl rfl rfl k_X0_isTaken ⟨Nat.le_of_ble_eq_true rfl, Nat.le_of_ble_eq_true rfl⟩) hP hK (va_recv (q := (RX0, TX0, 10)) hK hP (ci := 0) (q0 := 0) rfl rfl) rfl hl.1 rfl (Nat.le_of_ble_eq_true rfl) dX0_takenBehind_36 ⟨Nat.le_of_ble_eq_true rfl, Nat.le_of_ble_eq_true rfl⟩ ?_
      refine kx_if_eqb (tgt := 58) hx hb dX0_takenBehind_39 (by decide) (fun c_39_16 => ?_) (fun c_39_17 => ?_)
      · refine lv_iinc (v := nI (iw + 1)) (lv' := [(5, .int (nI (iw + 1))), (0, .ref (b 0)), (1, .int (nI r0)), (2, .int (nI s0)), (4, .int (nI (r0 + 1 + ir))), (3, .int (nI (sumN ir (fun j => blkA z r0 s0 false (r0 + 1 + j)) + sumN iw (fun w => b2 ((tk z (r0 + 1 + ir) w && blk z r0 s0 (r0 + 1 + ir) w) && (!false || seesB z (r0 + 1 + ir) w))))))]) hx hb dX0_takenBehind_58 hl (k := 5) rfl (kx_inc 1) (by decide) rfl (fun ls hl => ?_)
        refine lv_goto (tgt := 19) hx hb dX0_takenBehind_61 (by decide) ?_
        have e19_18 : (sumN ir (fun j => blkA z r0 s0 false (r0 + 1 + j)) + sumN iw (fun w => b2 ((tk z (r0 + 1 + ir) w && blk z r0 s0 (r0 + 1 + ir) w) && (!false || seesB z (r0 + 1 + ir) w))) : Nat) = (sumN ir (fun j => blkA z r0 s0 false (r0 + 1 + j)) + sumN (iw + 1) (fun w => b2 ((tk z (r0 + 1 + ir) w && blk z r0 s0 (r0 + 1 + ir) w) && (!false || seesB z (r0 + 1 + ir) w)))) := by first | rfl | omega | (simp [blkd, blkA, sumN_s, b2, Int32.not_lt, Int32.not_le, c_13_4, Nat.not_le.mpr c_13_4, c_28_11, Nat.not_le.mpr c_28_11, c_39_16]; done) | (simp [blkd, blkA, sumN_s, b2, Int32.not_lt, Int32.not_le, c_13_4, Nat.not_le.mpr c_13_4, c_28_11, Nat.not_le.mpr c_28_11, c_39_16]; omega) | (revert c_13_4 c_28_11 c_39_16; simp +contextual [blkd, blkA, sumN_s, b2, Int32.not_lt, Int32.not_le]; done) | (revert c_13_4 c_28_11 c_39_16; simp +contextual [blkd, blkA, sumN_s, b2, Int32.not_lt, Int32.not_le]; omega)
        have e19_19 : (iw + 1 : Nat) = ((iw + 1)) := by first | rfl | omega | (simp [blkd, blkA, sumN_s, b2, Int32.not_lt, Int32.not_le, c_13_4, Nat.not_le.mpr c_13_4, c_28_11, Nat.not_le.mpr c_28_11, c_39_16]; done) | (simp [blkd, blkA, sumN_s, b2, Int32.not_lt, Int32.not_le, c_13_4, Nat.not_le.mpr c_13_4, c_28_11, Nat.not_le.mpr c_28_11, c_39_16]; omega) | (revert c_13_4 c_28_11 c_39_16; simp +contextual [blkd, blkA, sumN_s, b2, Int32.not_lt, Int32.not_le]; done) | (revert c_13_4 c_28_11 c_39_16; simp +contextual [blkd, blkA, sumN_s, b2, Int32.not_lt, Int32.not_le]; omega)
        have hl19_20 : lv_has ls 6 [(0, .ref (b 0)), (1, .int (nI r0)), (2, .int (nI s0)), (4, .int (nI (r0 + 1 + ir))), (3, .int (nI (sumN ir (fun j => blkA z r0 s0 false (r0 + 1 + j)) + sumN (iw + 1) (fun w => b2 ((tk z (r0 + 1 + ir) w && blk z r0 s0 (r0 + 1 + ir) w) && (!false || seesB z (r0 + 1 + ir) w)))))), (5, .int (nI (iw + 1)))] := lv_eqv (l1 := [(0, .ref (b 0)), (1, .int (nI r0)), (2, .int (nI s0)), (4, .int (nI (r0 + 1 + ir))), (3, .int (nI (sumN ir (fun j => blkA z r0 s0 false (r0 + 1 + j)) + sumN iw (fun w => b2 ((tk z (r0 + 1 + ir) w && blk z r0 s0 (r0 + 1 + ir) w) && (!false || seesB z (r0 + 1 + ir) w)))))), (5, .int (nI (iw + 1)))]) (lv_sub hl [1, 2, 3, 4, 5, 0] rfl) (lv_ce rfl (lv_ce rfl (lv_ce rfl (lv_ce rfl (lv_ce (congrArg (fun x => Value.int (nI x)) e19_18) (lv_ce (congrArg (fun x => Value.int (nI x)) e19_19) rfl))))))
        exact ih19 _ (by omega) (hl19_20)
      · refine lv_aload_n hx hb dX0_takenBehind_42 rfl (lv_at hl 0 rfl) ?_
        refine lv_iload hx hb dX0_takenBehind_43 (lv_at hl 3 rfl) ?_
        refine lv_iload hx hb dX0_takenBehind_45 (lv_at hl 5 rfl) ?_
        refine lv_iload_n hx hb dX0_takenBehind_47 rfl (lv_at hl 1 rfl) ?_
        refine lv_iload_n hx hb dX0_takenBehind_48 rfl (lv_at hl 2 rfl) ?_
        refine kr_V (As := [.int (nI (r0 + 1 + ir)), .int (nI iw), .int (nI r0), .int (nI s0)]) (rest := []) (C := RX0) (own := RX0) ⟨hx, hb, hml, hown, hts⟩ (c_X0_isHeadInWay l D cI cC cH cL b z (r0 + 1 + ir) iw r0 s0 (by first | assumption | omega) (by first | assumption | omega) (by first | assumption | omega) (by first | assumption | omega)) (cwV 4 hts gX0_takenBehind_X0_isHeadInWay rfl rfl rfl k_X0_isHeadInWay ⟨Nat.le_of_ble_eq_true rfl, Nat.le_of_ble_eq_true rfl⟩) hP hK (va_recv (q := (RX0, TX0, 10)) hK hP (ci := 0) (q0 := 0) rfl rfl) rfl hl.1 rfl (Nat.le_of_ble_eq_true rfl) dX0_takenBehind_49 ⟨Nat.le_of_ble_eq_true rfl, Nat.le_of_ble_eq_true rfl⟩ ?_
        refine kx_if_eqb (tgt := 58) hx hb dX0_takenBehind_52 (by decide) (fun c_52_21 => ?_) (fun c_52_22 => ?_)
        · refine lv_iinc (v := nI (iw + 1)) (lv' := [(5, .int (nI (iw + 1))), (0, .ref (b 0)), (1, .int (nI r0)), (2, .int (nI s0)), (4, .int (nI (r0 + 1 + ir))), (3, .int (nI (sumN ir (fun j => blkA z r0 s0 false (r0 + 1 + j)) + sumN iw (fun w => b2 ((tk z (r0 + 1 + ir) w && blk z r0 s0 (r0 + 1 + ir) w) && (!false || seesB z (r0 + 1 + ir) w))))))]) hx hb dX0_takenBehind_58 hl (k := 5) rfl (kx_inc 1) (by decide) rfl (fun ls hl => ?_)
          refine lv_goto (tgt := 19) hx hb dX0_takenBehind_61 (by decide) ?_
          have e19_23 : (sumN ir (fun j => blkA z r0 s0 false (r0 + 1 + j)) + sumN iw (fun w => b2 ((tk z (r0 + 1 + ir) w && blk z r0 s0 (r0 + 1 + ir) w) && (!false || seesB z (r0 + 1 + ir) w))) : Nat) = (sumN ir (fun j => blkA z r0 s0 false (r0 + 1 + j)) + sumN (iw + 1) (fun w => b2 ((tk z (r0 + 1 + ir) w && blk z r0 s0 (r0 + 1 + ir) w) && (!false || seesB z (r0 + 1 + ir) w)))) := by first | rfl | omega | (simp [blkd, blkA, sumN_s, b2, Int32.not_lt, Int32.not_le, c_13_4, Nat.not_le.mpr c_13_4, c_28_11, Nat.not_le.mpr c_28_11, c_39_17, c_52_21]; done) | (simp [blkd, blkA, sumN_s, b2, Int32.not_lt, Int32.not_le, c_13_4, Nat.not_le.mpr c_13_4, c_28_11, Nat.not_le.mpr c_28_11, c_39_17, c_52_21]; omega) | (revert c_13_4 c_28_11 c_39_17 c_52_21; simp +contextual [blkd, blkA, sumN_s, b2, Int32.not_lt, Int32.not_le]; done) | (revert c_13_4 c_28_11 c_39_17 c_52_21; simp +contextual [blkd, blkA, sumN_s, b2, Int32.not_lt, Int32.not_le]; omega)
          have e19_24 : (iw + 1 : Nat) = ((iw + 1)) := by first | rfl | omega | (simp [blkd, blkA, sumN_s, b2, Int32.not_lt, Int32.not_le, c_13_4, Nat.not_le.mpr c_13_4, c_28_11, Nat.not_le.mpr c_28_11, c_39_17, c_52_21]; done) | (simp [blkd, blkA, sumN_s, b2, Int32.not_lt, Int32.not_le, c_13_4, Nat.not_le.mpr c_13_4, c_28_11, Nat.not_le.mpr c_28_11, c_39_17, c_52_21]; omega) | (revert c_13_4 c_28_11 c_39_17 c_52_21; simp +contextual [blkd, blkA, sumN_s, b2, Int32.not_lt, Int32.not_le]; done) | (revert c_13_4 c_28_11 c_39_17 c_52_21; simp +contextual [blkd, blkA, sumN_s, b2, Int32.not_lt, Int32.not_le]; omega)
          have hl19_25 : lv_has ls 6 [(0, .ref (b 0)), (1, .int (nI r0)), (2, .int (nI s0)), (4, .int (nI (r0 + 1 + ir))), (3, .int (nI (sumN ir (fun j => blkA z r0 s0 false (r0 + 1 + j)) + sumN (iw + 1) (fun w => b2 ((tk z (r0 + 1 + ir) w && blk z r0 s0 (r0 + 1 + ir) w) && (!false || seesB z (r0 + 1 + ir) w)))))), (5, .int (nI (iw + 1)))] := lv_eqv (l1 := [(0, .ref (b 0)), (1, .int (nI r0)), (2, .int (nI s0)), (4, .int (nI (r0 + 1 + ir))), (3, .int (nI (sumN ir (fun j => blkA z r0 s0 false (r0 + 1 + j)) + sumN iw (fun w => b2 ((tk z (r0 + 1 + ir) w && blk z r0 s0 (r0 + 1 + ir) w) && (!false || seesB z (r0 + 1 + ir) w)))))), (5, .int (nI (iw + 1)))]) (lv_sub hl [1, 2, 3, 4, 5, 0] rfl) (lv_ce rfl (lv_ce rfl (lv_ce rfl (lv_ce rfl (lv_ce (congrArg (fun x => Value.int (nI x)) e19_23) (lv_ce (congrArg (fun x => Value.int (nI x)) e19_24) rfl))))))
          exact ih19 _ (by omega) (hl19_25)
        · refine lv_iinc (v := nI ((sumN ir (fun j => blkA z r0 s0 false (r0 + 1 + j)) + sumN iw (fun w => b2 ((tk z (r0 + 1 + ir) w && blk z r0 s0 (r0 + 1 + ir) w) && (!false || seesB z (r0 + 1 + ir) w)))) + 1)) (lv' := [(3, .int (nI ((sumN ir (fun j => blkA z r0 s0 false (r0 + 1 + j)) + sumN iw (fun w => b2 ((tk z (r0 + 1 + ir) w && blk z r0 s0 (r0 + 1 + ir) w) && (!false || seesB z (r0 + 1 + ir) w)))) + 1))), (0, .ref (b 0)), (1, .int (nI r0)), (2, .int (nI s0)), (4, .int (nI (r0 + 1 + ir))), (5, .int (nI iw))]) hx hb dX0_takenBehind_55 hl (k := 4) rfl (kx_inc 1) (by decide) rfl (fun ls hl => ?_)
          refine lv_iinc (v := nI (iw + 1)) (lv' := [(5, .int (nI (iw + 1))), (3, .int (nI ((sumN ir (fun j => blkA z r0 s0 false (r0 + 1 + j)) + sumN iw (fun w => b2 ((tk z (r0 + 1 + ir) w && blk z r0 s0 (r0 + 1 + ir) w) && (!false || seesB z (r0 + 1 + ir) w)))) + 1))), (0, .ref (b 0)), (1, .int (nI r0)), (2, .int (nI s0)), (4, .int (nI (r0 + 1 + ir)))]) hx hb dX0_takenBehind_58 hl (k := 5) rfl (kx_inc 1) (by decide) rfl (fun ls hl => ?_)
          refine lv_goto (tgt := 19) hx hb dX0_takenBehind_61 (by decide) ?_
          have e19_26 : ((sumN ir (fun j => blkA z r0 s0 false (r0 + 1 + j)) + sumN iw (fun w => b2 ((tk z (r0 + 1 + ir) w && blk z r0 s0 (r0 + 1 + ir) w) && (!false || seesB z (r0 + 1 + ir) w)))) + 1 : Nat) = (sumN ir (fun j => blkA z r0 s0 false (r0 + 1 + j)) + sumN (iw + 1) (fun w => b2 ((tk z (r0 + 1 + ir) w && blk z r0 s0 (r0 + 1 + ir) w) && (!false || seesB z (r0 + 1 + ir) w)))) := by first | rfl | omega | (simp [blkd, blkA, sumN_s, b2, Int32.not_lt, Int32.not_le, c_13_4, Nat.not_le.mpr c_13_4, c_28_11, Nat.not_le.mpr c_28_11, c_39_17, c_52_22]; done) | (simp [blkd, blkA, sumN_s, b2, Int32.not_lt, Int32.not_le, c_13_4, Nat.not_le.mpr c_13_4, c_28_11, Nat.not_le.mpr c_28_11, c_39_17, c_52_22]; omega) | (revert c_13_4 c_28_11 c_39_17 c_52_22; simp +contextual [blkd, blkA, sumN_s, b2, Int32.not_lt, Int32.not_le]; done) | (revert c_13_4 c_28_11 c_39_17 c_52_22; simp +contextual [blkd, blkA, sumN_s, b2, Int32.not_lt, Int32.not_le]; omega)
          have e19_27 : (iw + 1 : Nat) = ((iw + 1)) := by first | rfl | omega | (simp [blkd, blkA, sumN_s, b2, Int32.not_lt, Int32.not_le, c_13_4, Nat.not_le.mpr c_13_4, c_28_11, Nat.not_le.mpr c_28_11, c_39_17, c_52_22]; done) | (simp [blkd, blkA, sumN_s, b2, Int32.not_lt, Int32.not_le, c_13_4, Nat.not_le.mpr c_13_4, c_28_11, Nat.not_le.mpr c_28_11, c_39_17, c_52_22]; omega) | (revert c_13_4 c_28_11 c_39_17 c_52_22; simp +contextual [blkd, blkA, sumN_s, b2, Int32.not_lt, Int32.not_le]; done) | (revert c_13_4 c_28_11 c_39_17 c_52_22; simp +contextual [blkd, blkA, sumN_s, b2, Int32.not_lt, Int32.not_le]; omega)
          have hl19_28 : lv_has ls 6 [(0, .ref (b 0)), (1, .int (nI r0)), (2, .int (nI s0)), (4, .int (nI (r0 + 1 + ir))), (3, .int (nI (sumN ir (fun j => blkA z r0 s0 false (r0 + 1 + j)) + sumN (iw + 1) (fun w => b2 ((tk z (r0 + 1 + ir) w && blk z r0 s0 (r0 + 1 + ir) w) && (!false || seesB z (r0 + 1 + ir) w)))))), (5, .int (nI (iw + 1)))] := lv_eqv (l1 := [(0, .ref (b 0)), (1, .int (nI r0)), (2, .int (nI s0)), (4, .int (nI (r0 + 1 + ir))), (3, .int (nI ((sumN ir (fun j => blkA z r0 s0 false (r0 + 1 + j)) + sumN iw (fun w => b2 ((tk z (r0 + 1 + ir) w && blk z r0 s0 (r0 + 1 + ir) w) && (!false || seesB z (r0 + 1 + ir) w)))) + 1))), (5, .int (nI (iw + 1)))]) (lv_sub hl [2, 3, 4, 5, 1, 0] rfl) (lv_ce rfl (lv_ce rfl (lv_ce rfl (lv_ce rfl (lv_ce (congrArg (fun x => Value.int (nI x)) e19_26) (lv_ce (congrArg (fun x => Value.int (nI x)) e19_27) rfl))))))
          exact ih19 _ (by omega) (hl19_28)
set_option maxRecDepth 20000 in
theorem iX0_seatsBehindColumn_0 : ∀ w ∈ wsX00, w ∈ wsX0_seatsBehindColumn := by decide +kernel
set_option maxHeartbeats 4000000 in
set_option maxRecDepth 100000 in
theorem c_X0_seatsBehindColumn (l : Launch) (D : va_G) (cI cC cH cL : ClassId) (b : Nat → Nat) (z : ZZ) (k0 : Nat) (hw : WF z) (hk : k0 < 4) : Met l yX0_seatsBehindColumn wsX0_seatsBehindColumn ({ frames := 2, cells := 0, slots := 0, locals := 66 }) (kp [.ref (b 0), .int (nI k0)] D (HW b cI z) (kT cI cC cH cL)) (kr (.returned (some (.int (nI (cBeh z k0)))))) 0 0 (fun _ => False) := by
  refine Met.ofW (cc := cX0_seatsBehindColumn) (maxL := 5) (ret := (some .int)) (by decide) rfl ?_
  intro p e s m args below meth c s₁ B hml hv
  obtain ⟨rfl, hP, hK⟩ := hv
  have hx := B.exec
  have hb := B.bytes
  have hrt := B.returns
  have hts := atoms_spec (ws := wsX0_seatsBehindColumn) B.pre
  have hown : s.vm.findClass RX0 = some m.cls := findClass_of_methodNamed B.named
  have hlocks := B.notSynchronized
  have hl := lv_entry ([.ref (b 0), .int (nI k0)]) (n := 5) (Nat.le_of_ble_eq_true rfl)
  rw [lg_entry_eq]
  generalize (lg_sl ([.ref (b 0), .int (nI k0)]) ++ List.replicate (5 - (lg_sl ([.ref (b 0), .int (nI k0)])).length) Slot.unset).toArray = ls at hl ⊢
  have hl : lv_has ls 5 [(0, .ref (b 0)), (1, .int (nI k0))] := hl
  have hR10 := wf_R10 hw
  have hC4 := wf_C4 hw
  refine lv_iconst (v := nI 0) hx hb dX0_seatsBehindColumn_0 (by decide) ?_
  refine lv_istore_n (lv' := [(2, .int (nI 0)), (0, .ref (b 0)), (1, .int (nI k0))]) hx hb dX0_seatsBehindColumn_1 rfl hl (by decide) rfl (fun ls hl => ?_)
  refine lv_iconst (v := nI 0) hx hb dX0_seatsBehindColumn_2 (by decide) ?_
  refine lv_istore_n (lv' := [(3, .int (nI 0)), (2, .int (nI 0)), (0, .ref (b 0)), (1, .int (nI k0))]) hx hb dX0_seatsBehindColumn_3 rfl hl (by decide) rfl (fun ls hl => ?_)
  have e4_0 : (0 : Nat) = (sumN 0 (fun r => cBehR z k0 r)) := by first | rfl | omega | (simp [cBeh, cBehR, sumN_s, b2, Int32.not_lt, Int32.not_le]; done) | (simp [cBeh, cBehR, sumN_s, b2, Int32.not_lt, Int32.not_le]; omega)
  have hl4_1 : lv_has ls 5 [(0, .ref (b 0)), (1, .int (nI k0)), (2, .int (nI (sumN 0 (fun r => cBehR z k0 r)))), (3, .int (nI 0))] := lv_eqv (l1 := [(0, .ref (b 0)), (1, .int (nI k0)), (2, .int (nI 0)), (3, .int (nI 0))]) (lv_sub hl [2, 3, 1, 0] rfl) (lv_ce rfl (lv_ce rfl (lv_ce (congrArg (fun x => Value.int (nI x)) e4_0) (lv_ce rfl rfl))))
  refine kx_up (fun k ls => lv_has ls 5 [(0, .ref (b 0)), (1, .int (nI k0)), (2, .int (nI (sumN k (fun r => cBehR z k0 r)))), (3, .int (nI k))]) (0) (nR z) (by omega) ls (hl4_1) ?_
  intro ir ls hirl hirh hp ih4
  have hl := hp
  refine lv_iload_n hx hb dX0_seatsBehindColumn_4 rfl (lv_at hl 3 rfl) ?_
  refine lv_aload_n hx hb dX0_seatsBehindColumn_5 rfl (lv_at hl 0 rfl) ?_
  refine va_get (D := D) (ci := 0) (v := .int (z 3)) (C := RX0) (T := TX0) (N := 10) hx hb hts iX0_seatsBehindColumn_0 hown hK hP 0 rfl rfl 0 (by decide) (hts (.fieldLink RX0 36 "HallSights$Hall" "rows" "I") (List.mem_of_getElem? (i := 1) rfl)) (fun _ h9 => h9) rfl dX0_seatsBehindColumn_6 ?_
  refine kx_top (wf_R hw) ?_
  refine kx_icmp_ge (tgt := 52) hx hb (by omega) (by omega) dX0_seatsBehindColumn_9 (by decide) (fun c_9_2 => ?_) (fun c_9_3 => ?_)
  · have hq4 : nR z = ir := by omega
    subst hq4
    refine lv_iload_n hx hb dX0_seatsBehindColumn_52 rfl (lv_at hl 2 rfl) ?_
    have e_5 : (sumN (nR z) (fun r => cBehR z k0 r) : Nat) = (cBeh z k0) := by first | rfl | omega | (simp [cBeh, cBehR, sumN_s, b2, Int32.not_lt, Int32.not_le, c_9_2, Nat.not_lt.mpr c_9_2]; done) | (simp [cBeh, cBehR, sumN_s, b2, Int32.not_lt, Int32.not_le, c_9_2, Nat.not_lt.mpr c_9_2]; omega) | (revert c_9_2; simp +contextual [cBeh, cBehR, sumN_s, b2, Int32.not_lt, Int32.not_le]; done) | (revert c_9_2; simp +contextual [cBeh, cBehR, sumN_s, b2, Int32.not_lt, Int32.not_le]; omega)
    exact kr_iret hx hb hrt hlocks (congrArg nI e_5) rfl dX0_seatsBehindColumn_53
  · refine lv_iconst (v := nI 0) hx hb dX0_seatsBehindColumn_12 (by decide) ?_
    refine lv_istore (lv' := [(4, .int (nI 0)), (0, .ref (b 0)), (1, .int (nI k0)), (2, .int (nI (sumN ir (fun r => cBehR z k0 r)))), (3, .int (nI ir))]) hx hb dX0_seatsBehindColumn_13 hl (by decide) rfl (fun ls hl => ?_)
    have e15_6 : (sumN ir (fun r => cBehR z k0 r) : Nat) = (sumN ir (fun r => cBehR z k0 r) + sumN 0 (fun w => b2 (cblk z k0 ir w))) := by first | rfl | omega | (simp [cBeh, cBehR, sumN_s, b2, Int32.not_lt, Int32.not_le, c_9_3, Nat.not_le.mpr c_9_3]; done) | (simp [cBeh, cBehR, sumN_s, b2, Int32.not_lt, Int32.not_le, c_9_3, Nat.not_le.mpr c_9_3]; omega) | (revert c_9_3; simp +contextual [cBeh, cBehR, sumN_s, b2, Int32.not_lt, Int32.not_le]; done) | (revert c_9_3; simp +contextual [cBeh, cBehR, sumN_s, b2, Int32.not_lt, Int32.not_le]; omega)
    have hl15_7 : lv_has ls 5 [(0, .ref (b 0)), (1, .int (nI k0)), (3, .int (nI ir)), (2, .int (nI (sumN ir (fun r => cBehR z k0 r) + sumN 0 (fun w => b2 (cblk z k0 ir w))))), (4, .int (nI 0))] := lv_eqv (l1 := [(0, .ref (b 0)), (1, .int (nI k0)), (3, .int (nI ir)), (2, .int (nI (sumN ir (fun r => cBehR z k0 r)))), (4, .int (nI 0))]) (lv_sub hl [1, 2, 4, 3, 0] rfl) (lv_ce rfl (lv_ce rfl (lv_ce rfl (lv_ce (congrArg (fun x => Value.int (nI x)) e15_6) (lv_ce rfl rfl)))))
    refine kx_up (fun k ls => lv_has ls 5 [(0, .ref (b 0)), (1, .int (nI k0)), (3, .int (nI ir)), (2, .int (nI (sumN ir (fun r => cBehR z k0 r) + sumN k (fun w => b2 (cblk z k0 ir w))))), (4, .int (nI k))]) (0) (nS z ir) (by omega) ls (hl15_7) ?_
    intro iw ls hiwl hiwh hp ih15
    have hl := hp
    refine lv_iload hx hb dX0_seatsBehindColumn_15 (lv_at hl 4 rfl) ?_
    refine lv_aload_n hx hb dX0_seatsBehindColumn_17 rfl (lv_at hl 0 rfl) ?_
    refine va_get (D := D) (ci := 0) (v := .ref (b 3)) (C := RX0) (T := TX0) (N := 10) hx hb hts iX0_seatsBehindColumn_0 hown hK hP 0 rfl rfl 3 (by decide) (hts (.fieldLink RX0 18 "HallSights$Hall" "seats" "[I") (List.mem_of_getElem? (i := 2) rfl)) (fun _ h9 => h9) rfl dX0_seatsBehindColumn_18 ?_
    refine lv_iload_n hx hb dX0_seatsBehindColumn_21 rfl (lv_at hl 2 rfl) ?_
    refine kx_iald hx hb hK hP 3 0 rfl rfl (by omega) (by decide) dX0_seatsBehindColumn_22 ?_
    refine kx_top (wf_S hw (show (ir) < nR z by omega)) ?_
    have hS12_8 := wf_S12 hw (show (ir) < nR z by omega)
    refine kx_icmp_ge (tgt := 46) hx hb (by omega) (by omega) dX0_seatsBehindColumn_23 (by decide) (fun c_23_9 => ?_) (fun c_23_10 => ?_)
    · have hq11 : nS z ir = iw := by omega
      subst hq11
      refine lv_iinc (v := nI (ir + 1)) (lv' := [(3, .int (nI (ir + 1))), (0, .ref (b 0)), (1, .int (nI k0)), (2, .int (nI (sumN ir (fun r => cBehR z k0 r) + sumN (nS z ir) (fun w => b2 (cblk z k0 ir w))))), (4, .int (nI (nS z ir)))]) hx hb dX0_seatsBehindColumn_46 hl (k := 2) rfl (kx_inc 1) (by decide) rfl (fun ls hl => ?_)
      refine lv_goto (tgt := 4) hx hb dX0_seatsBehindColumn_49 (by decide) ?_
      have e4_12 : (sumN ir (fun r => cBehR z k0 r) + sumN (nS z ir) (fun w => b2 (cblk z k0 ir w)) : Nat) = (sumN (ir + 1) (fun r => cBehR z k0 r)) := by first | rfl | omega | (simp [cBeh, cBehR, sumN_s, b2, Int32.not_lt, Int32.not_le, c_9_3, Nat.not_le.mpr c_9_3, c_23_9, Nat.not_lt.mpr c_23_9]; done) | (simp [cBeh, cBehR, sumN_s, b2, Int32.not_lt, Int32.not_le, c_9_3, Nat.not_le.mpr c_9_3, c_23_9, Nat.not_lt.mpr c_23_9]; omega) | (revert c_9_3 c_23_9; simp +contextual [cBeh, cBehR, sumN_s, b2, Int32.not_lt, Int32.not_le]; done) | (revert c_9_3 c_23_9; simp +contextual [cBeh, cBehR, sumN_s, b2, Int32.not_lt, Int32.not_le]; omega)
      have e4_13 : (ir + 1 : Nat) = ((ir + 1)) := by first | rfl | omega | (simp [cBeh, cBehR, sumN_s, b2, Int32.not_lt, Int32.not_le, c_9_3, Nat.not_le.mpr c_9_3, c_23_9, Nat.not_lt.mpr c_23_9]; done) | (simp [cBeh, cBehR, sumN_s, b2, Int32.not_lt, Int32.not_le, c_9_3, Nat.not_le.mpr c_9_3, c_23_9, Nat.not_lt.mpr c_23_9]; omega) | (revert c_9_3 c_23_9; simp +contextual [cBeh, cBehR, sumN_s, b2, Int32.not_lt, Int32.not_le]; done) | (revert c_9_3 c_23_9; simp +contextual [cBeh, cBehR, sumN_s, b2, Int32.not_lt, Int32.not_le]; omega)
      have hl4_14 : lv_has ls 5 [(0, .ref (b 0)), (1, .int (nI k0)), (2, .int (nI (sumN (ir + 1) (fun r => cBehR z k0 r)))), (3, .int (nI (ir + 1)))] := lv_eqv (l1 := [(0, .ref (b 0)), (1, .int (nI k0)), (2, .int (nI (sumN ir (fun r => cBehR z k0 r) + sumN (nS z ir) (fun w => b2 (cblk z k0 ir w))))), (3, .int (nI (ir + 1)))]) (lv_sub hl [1, 2, 3, 0] rfl) (lv_ce rfl (lv_ce rfl (lv_ce (congrArg (fun x => Value.int (nI x)) e4_12) (lv_ce (congrArg (fun x => Value.int (nI x)) e4_13) rfl))))
      exact ih4 _ (by omega) (hl4_14)
    · refine lv_aload_n hx hb dX0_seatsBehindColumn_26 rfl (lv_at hl 0 rfl) ?_
      refine lv_iload_n hx hb dX0_seatsBehindColumn_27 rfl (lv_at hl 2 rfl) ?_
      refine lv_iload hx hb dX0_seatsBehindColumn_28 (lv_at hl 4 rfl) ?_
      refine lv_iload_n hx hb dX0_seatsBehindColumn_30 rfl (lv_at hl 1 rfl) ?_
      refine kr_V (As := [.int (nI ir), .int (nI iw), .int (nI k0)]) (rest := []) (C := RX0) (own := RX0) ⟨hx, hb, hml, hown, hts⟩ (c_X0_isColumnInWay l D cI cC cH cL b z ir iw k0 (by first | assumption | omega) (by first | assumption | omega) (by first | assumption | omega)) (cwV 3 hts gX0_seatsBehindColumn_X0_isColumnInWay rfl rfl rfl k_X0_isColumnInWay ⟨Nat.le_of_ble_eq_true rfl, Nat.le_of_ble_eq_true rfl⟩) hP hK (va_recv (q := (RX0, TX0, 10)) hK hP (ci := 0) (q0 := 0) rfl rfl) rfl hl.1 rfl (Nat.le_of_ble_eq_true rfl) dX0_seatsBehindColumn_31 ⟨Nat.le_of_ble_eq_true rfl, Nat.le_of_ble_eq_true rfl⟩ ?_
      refine kx_if_eqb (tgt := 40) hx hb dX0_seatsBehindColumn_34 (by decide) (fun c_34_15 => ?_) (fun c_34_16 => ?_)
      · refine lv_iinc (v := nI (iw + 1)) (lv' := [(4, .int (nI (iw + 1))), (0, .ref (b 0)), (1, .int (nI k0)), (3, .int (nI ir)), (2, .int (nI (sumN ir (fun r => cBehR z k0 r) + sumN iw (fun w => b2 (cblk z k0 ir w)))))]) hx hb dX0_seatsBehindColumn_40 hl (k := 4) rfl (kx_inc 1) (by decide) rfl (fun ls hl => ?_)
        refine lv_goto (tgt := 15) hx hb dX0_seatsBehindColumn_43 (by decide) ?_
        have e15_17 : (sumN ir (fun r => cBehR z k0 r) + sumN iw (fun w => b2 (cblk z k0 ir w)) : Nat) = (sumN ir (fun r => cBehR z k0 r) + sumN (iw + 1) (fun w => b2 (cblk z k0 ir w))) := by first | rfl | omega | (simp [cBeh, cBehR, sumN_s, b2, Int32.not_lt, Int32.not_le, c_9_3, Nat.not_le.mpr c_9_3, c_23_10, Nat.not_le.mpr c_23_10, c_34_15]; done) | (simp [cBeh, cBehR, sumN_s, b2, Int32.not_lt, Int32.not_le, c_9_3, Nat.not_le.mpr c_9_3, c_23_10, Nat.not_le.mpr c_23_10, c_34_15]; omega) | (revert c_9_3 c_23_10 c_34_15; simp +contextual [cBeh, cBehR, sumN_s, b2, Int32.not_lt, Int32.not_le]; done) | (revert c_9_3 c_23_10 c_34_15; simp +contextual [cBeh, cBehR, sumN_s, b2, Int32.not_lt, Int32.not_le]; omega)
        have e15_18 : (iw + 1 : Nat) = ((iw + 1)) := by first | rfl | omega | (simp [cBeh, cBehR, sumN_s, b2, Int32.not_lt, Int32.not_le, c_9_3, Nat.not_le.mpr c_9_3, c_23_10, Nat.not_le.mpr c_23_10, c_34_15]; done) | (simp [cBeh, cBehR, sumN_s, b2, Int32.not_lt, Int32.not_le, c_9_3, Nat.not_le.mpr c_9_3, c_23_10, Nat.not_le.mpr c_23_10, c_34_15]; omega) | (revert c_9_3 c_23_10 c_34_15; simp +contextual [cBeh, cBehR, sumN_s, b2, Int32.not_lt, Int32.not_le]; done) | (revert c_9_3 c_23_10 c_34_15; simp +contextual [cBeh, cBehR, sumN_s, b2, Int32.not_lt, Int32.not_le]; omega)
        have hl15_19 : lv_has ls 5 [(0, .ref (b 0)), (1, .int (nI k0)), (3, .int (nI ir)), (2, .int (nI (sumN ir (fun r => cBehR z k0 r) + sumN (iw + 1) (fun w => b2 (cblk z k0 ir w))))), (4, .int (nI (iw + 1)))] := lv_eqv (l1 := [(0, .ref (b 0)), (1, .int (nI k0)), (3, .int (nI ir)), (2, .int (nI (sumN ir (fun r => cBehR z k0 r) + sumN iw (fun w => b2 (cblk z k0 ir w))))), (4, .int (nI (iw + 1)))]) (lv_sub hl [1, 2, 3, 4, 0] rfl) (lv_ce rfl (lv_ce rfl (lv_ce rfl (lv_ce (congrArg (fun x => Value.int (nI x)) e15_17) (lv_ce (congrArg (fun x => Value.int (nI x)) e15_18) rfl)))))
        exact ih15 _ (by omega) (hl15_19)
      · refine lv_iinc (v := nI ((sumN ir (fun r => cBehR z k0 r) + sumN iw (fun w => b2 (cblk z k0 ir w))) + 1)) (lv' := [(2, .int (nI ((sumN ir (fun r => cBehR z k0 r) + sumN iw (fun w => b2 (cblk z k0 ir w))) + 1))), (0, .ref (b 0)), (1, .int (nI k0)), (3, .int (nI ir)), (4, .int (nI iw))]) hx hb dX0_seatsBehindColumn_37 hl (k := 3) rfl (kx_inc 1) (by decide) rfl (fun ls hl => ?_)
        refine lv_iinc (v := nI (iw + 1)) (lv' := [(4, .int (nI (iw + 1))), (2, .int (nI ((sumN ir (fun r => cBehR z k0 r) + sumN iw (fun w => b2 (cblk z k0 ir w))) + 1))), (0, .ref (b 0)), (1, .int (nI k0)), (3, .int (nI ir))]) hx hb dX0_seatsBehindColumn_40 hl (k := 4) rfl (kx_inc 1) (by decide) rfl (fun ls hl => ?_)
        refine lv_goto (tgt := 15) hx hb dX0_seatsBehindColumn_43 (by decide) ?_
        have e15_20 : ((sumN ir (fun r => cBehR z k0 r) + sumN iw (fun w => b2 (cblk z k0 ir w))) + 1 : Nat) = (sumN ir (fun r => cBehR z k0 r) + sumN (iw + 1) (fun w => b2 (cblk z k0 ir w))) := by first | rfl | omega | (simp [cBeh, cBehR, sumN_s, b2, Int32.not_lt, Int32.not_le, c_9_3, Nat.not_le.mpr c_9_3, c_23_10, Nat.not_le.mpr c_23_10, c_34_16]; done) | (simp [cBeh, cBehR, sumN_s, b2, Int32.not_lt, Int32.not_le, c_9_3, Nat.not_le.mpr c_9_3, c_23_10, Nat.not_le.mpr c_23_10, c_34_16]; omega) | (revert c_9_3 c_23_10 c_34_16; simp +contextual [cBeh, cBehR, sumN_s, b2, Int32.not_lt, Int32.not_le]; done) | (revert c_9_3 c_23_10 c_34_16; simp +contextual [cBeh, cBehR, sumN_s, b2, Int32.not_lt, Int32.not_le]; omega)
        have e15_21 : (iw + 1 : Nat) = ((iw + 1)) := by first | rfl | omega | (simp [cBeh, cBehR, sumN_s, b2, Int32.not_lt, Int32.not_le, c_9_3, Nat.not_le.mpr c_9_3, c_23_10, Nat.not_le.mpr c_23_10, c_34_16]; done) | (simp [cBeh, cBehR, sumN_s, b2, Int32.not_lt, Int32.not_le, c_9_3, Nat.not_le.mpr c_9_3, c_23_10, Nat.not_le.mpr c_23_10, c_34_16]; omega) | (revert c_9_3 c_23_10 c_34_16; simp +contextual [cBeh, cBehR, sumN_s, b2, Int32.not_lt, Int32.not_le]; done) | (revert c_9_3 c_23_10 c_34_16; simp +contextual [cBeh, cBehR, sumN_s, b2, Int32.not_lt, Int32.not_le]; omega)
        have hl15_22 : lv_has ls 5 [(0, .ref (b 0)), (1, .int (nI k0)), (3, .int (nI ir)), (2, .int (nI (sumN ir (fun r => cBehR z k0 r) + sumN (iw + 1) (fun w => b2 (cblk z k0 ir w))))), (4, .int (nI (iw + 1)))] := lv_eqv (l1 := [(0, .ref (b 0)), (1, .int (nI k0)), (3, .int (nI ir)), (2, .int (nI ((sumN ir (fun r => cBehR z k0 r) + sumN iw (fun w => b2 (cblk z k0 ir w))) + 1))), (4, .int (nI (iw + 1)))]) (lv_sub hl [2, 3, 4, 1, 0] rfl) (lv_ce rfl (lv_ce rfl (lv_ce rfl (lv_ce (congrArg (fun x => Value.int (nI x)) e15_20) (lv_ce (congrArg (fun x => Value.int (nI x)) e15_21) rfl)))))
        exact ih15 _ (by omega) (hl15_22)
set_option maxRecDepth 20000 in
theorem iX0_seatsInAll_0 : ∀ w ∈ wsX00, w ∈ wsX0_seatsInAll := by decide +kernel
set_option maxHeartbeats 4000000 in
set_option maxRecDepth 100000 in
theorem c_X0_seatsInAll (l : Launch) (D : va_G) (cI cC cH cL : ClassId) (b : Nat → Nat) (z : ZZ)  (hw : WF z) : Met l yX0_seatsInAll wsX0_seatsInAll ({ frames := 0, cells := 0, slots := 0, locals := 0 }) (kp [.ref (b 0)] D (HW b cI z) (kT cI cC cH cL)) (kr (.returned (some (.int (nI (seatsAll z)))))) 0 0 (fun _ => False) := by
  refine Met.ofW (cc := cX0_seatsInAll) (maxL := 3) (ret := (some .int)) (by decide) rfl ?_
  intro p e s m args below meth c s₁ B hml hv
  obtain ⟨rfl, hP, hK⟩ := hv
  have hx := B.exec
  have hb := B.bytes
  have hrt := B.returns
  have hts := atoms_spec (ws := wsX0_seatsInAll) B.pre
  have hown : s.vm.findClass RX0 = some m.cls := findClass_of_methodNamed B.named
  have hlocks := B.notSynchronized
  have hl := lv_entry ([.ref (b 0)]) (n := 3) (Nat.le_of_ble_eq_true rfl)
  rw [lg_entry_eq]
  generalize (lg_sl ([.ref (b 0)]) ++ List.replicate (3 - (lg_sl ([.ref (b 0)])).length) Slot.unset).toArray = ls at hl ⊢
  have hl : lv_has ls 3 [(0, .ref (b 0))] := hl
  have hR10 := wf_R10 hw
  have hC4 := wf_C4 hw
  refine lv_iconst (v := nI 0) hx hb dX0_seatsInAll_0 (by decide) ?_
  refine lv_istore_n (lv' := [(1, .int (nI 0)), (0, .ref (b 0))]) hx hb dX0_seatsInAll_1 rfl hl (by decide) rfl (fun ls hl => ?_)
  refine lv_iconst (v := nI 0) hx hb dX0_seatsInAll_2 (by decide) ?_
  refine lv_istore_n (lv' := [(2, .int (nI 0)), (1, .int (nI 0)), (0, .ref (b 0))]) hx hb dX0_seatsInAll_3 rfl hl (by decide) rfl (fun ls hl => ?_)
  have e4_0 : (0 : Nat) = (sumN 0 (fun r => nS z r)) := by first | rfl | omega | (simp [seatsAll, sumN_s, Int32.not_lt, Int32.not_le]; done) | (simp [seatsAll, sumN_s, Int32.not_lt, Int32.not_le]; omega)
  have hl4_1 : lv_has ls 3 [(0, .ref (b 0)), (1, .int (nI (sumN 0 (fun r => nS z r)))), (2, .int (nI 0))] := lv_eqv (l1 := [(0, .ref (b 0)), (1, .int (nI 0)), (2, .int (nI 0))]) (lv_sub hl [2, 1, 0] rfl) (lv_ce rfl (lv_ce (congrArg (fun x => Value.int (nI x)) e4_0) (lv_ce rfl rfl)))
  refine kx_up (fun k ls => lv_has ls 3 [(0, .ref (b 0)), (1, .int (nI (sumN k (fun r => nS z r)))), (2, .int (nI k))]) (0) (nR z) (by omega) ls (hl4_1) ?_
  intro ir ls hirl hirh hp ih4
  have hl := hp
  refine lv_iload_n hx hb dX0_seatsInAll_4 rfl (lv_at hl 2 rfl) ?_
  refine lv_aload_n hx hb dX0_seatsInAll_5 rfl (lv_at hl 0 rfl) ?_
  refine va_get (D := D) (ci := 0) (v := .int (z 3)) (C := RX0) (T := TX0) (N := 10) hx hb hts iX0_seatsInAll_0 hown hK hP 0 rfl rfl 0 (by decide) (hts (.fieldLink RX0 36 "HallSights$Hall" "rows" "I") (List.mem_of_getElem? (i := 1) rfl)) (fun _ h9 => h9) rfl dX0_seatsInAll_6 ?_
  refine kx_top (wf_R hw) ?_
  refine kx_icmp_ge (tgt := 27) hx hb (by omega) (by omega) dX0_seatsInAll_9 (by decide) (fun c_9_2 => ?_) (fun c_9_3 => ?_)
  · have hq4 : nR z = ir := by omega
    subst hq4
    refine lv_iload_n hx hb dX0_seatsInAll_27 rfl (lv_at hl 1 rfl) ?_
    have e_5 : (sumN (nR z) (fun r => nS z r) : Nat) = (seatsAll z) := by first | rfl | omega | (simp [seatsAll, sumN_s, Int32.not_lt, Int32.not_le, c_9_2, Nat.not_lt.mpr c_9_2]; done) | (simp [seatsAll, sumN_s, Int32.not_lt, Int32.not_le, c_9_2, Nat.not_lt.mpr c_9_2]; omega) | (revert c_9_2; simp +contextual [seatsAll, sumN_s, Int32.not_lt, Int32.not_le]; done) | (revert c_9_2; simp +contextual [seatsAll, sumN_s, Int32.not_lt, Int32.not_le]; omega)
    exact kr_iret hx hb hrt hlocks (congrArg nI e_5) rfl dX0_seatsInAll_28
  · refine lv_iload_n hx hb dX0_seatsInAll_12 rfl (lv_at hl 1 rfl) ?_
    refine lv_aload_n hx hb dX0_seatsInAll_13 rfl (lv_at hl 0 rfl) ?_
    refine va_get (D := D) (ci := 0) (v := .ref (b 3)) (C := RX0) (T := TX0) (N := 10) hx hb hts iX0_seatsInAll_0 hown hK hP 0 rfl rfl 3 (by decide) (hts (.fieldLink RX0 18 "HallSights$Hall" "seats" "[I") (List.mem_of_getElem? (i := 2) rfl)) (fun _ h9 => h9) rfl dX0_seatsInAll_14 ?_
    refine lv_iload_n hx hb dX0_seatsInAll_17 rfl (lv_at hl 2 rfl) ?_
    refine kx_iald hx hb hK hP 3 0 rfl rfl (by omega) (by decide) dX0_seatsInAll_18 ?_
    refine kx_top (wf_S hw (show (ir) < nR z by omega)) ?_
    have hS12_6 := wf_S12 hw (show (ir) < nR z by omega)
    refine kx_iadd hx hb dX0_seatsInAll_19 ?_
    refine lv_istore_n (lv' := [(1, .int (nI ((sumN ir (fun r => nS z r)) + (nS z (ir))))), (0, .ref (b 0)), (2, .int (nI ir))]) hx hb dX0_seatsInAll_20 rfl hl (by decide) rfl (fun ls hl => ?_)
    refine lv_iinc (v := nI (ir + 1)) (lv' := [(2, .int (nI (ir + 1))), (1, .int (nI ((sumN ir (fun r => nS z r)) + (nS z (ir))))), (0, .ref (b 0))]) hx hb dX0_seatsInAll_21 hl (k := 2) rfl (kx_inc 1) (by decide) rfl (fun ls hl => ?_)
    refine lv_goto (tgt := 4) hx hb dX0_seatsInAll_24 (by decide) ?_
    have e4_7 : ((sumN ir (fun r => nS z r)) + (nS z (ir)) : Nat) = (sumN (ir + 1) (fun r => nS z r)) := by first | rfl | omega | (simp [seatsAll, sumN_s, Int32.not_lt, Int32.not_le, c_9_3, Nat.not_le.mpr c_9_3]; done) | (simp [seatsAll, sumN_s, Int32.not_lt, Int32.not_le, c_9_3, Nat.not_le.mpr c_9_3]; omega) | (revert c_9_3; simp +contextual [seatsAll, sumN_s, Int32.not_lt, Int32.not_le]; done) | (revert c_9_3; simp +contextual [seatsAll, sumN_s, Int32.not_lt, Int32.not_le]; omega)
    have e4_8 : (ir + 1 : Nat) = ((ir + 1)) := by first | rfl | omega | (simp [seatsAll, sumN_s, Int32.not_lt, Int32.not_le, c_9_3, Nat.not_le.mpr c_9_3]; done) | (simp [seatsAll, sumN_s, Int32.not_lt, Int32.not_le, c_9_3, Nat.not_le.mpr c_9_3]; omega) | (revert c_9_3; simp +contextual [seatsAll, sumN_s, Int32.not_lt, Int32.not_le]; done) | (revert c_9_3; simp +contextual [seatsAll, sumN_s, Int32.not_lt, Int32.not_le]; omega)
    have hl4_9 : lv_has ls 3 [(0, .ref (b 0)), (1, .int (nI (sumN (ir + 1) (fun r => nS z r)))), (2, .int (nI (ir + 1)))] := lv_eqv (l1 := [(0, .ref (b 0)), (1, .int (nI ((sumN ir (fun r => nS z r)) + (nS z (ir))))), (2, .int (nI (ir + 1)))]) (lv_sub hl [2, 1, 0] rfl) (lv_ce rfl (lv_ce (congrArg (fun x => Value.int (nI x)) e4_7) (lv_ce (congrArg (fun x => Value.int (nI x)) e4_8) rfl)))
    exact ih4 _ (by omega) (hl4_9)
set_option maxRecDepth 20000 in
theorem iX0_longestFree_0 : ∀ w ∈ wsX00, w ∈ wsX0_longestFree := by decide +kernel
set_option maxHeartbeats 4000000 in
set_option maxRecDepth 100000 in
theorem c_X0_longestFree (l : Launch) (D : va_G) (cI cC cH cL : ClassId) (b : Nat → Nat) (z : ZZ)  (hw : WF z) : Met l yX0_longestFree wsX0_longestFree ({ frames := 1, cells := 0, slots := 0, locals := 40 }) (kp [.ref (b 0)] D (HW b cI z) (kT cI cC cH cL)) (kr (.returned (some (.int (lgI z))))) 0 0 (fun _ => False) := by
  refine Met.ofW (cc := cX0_longestFree) (maxL := 5) (ret := (some .int)) (by decide) rfl ?_
  intro p e s m args below meth c s₁ B hml hv
  obtain ⟨rfl, hP, hK⟩ := hv
  have hx := B.exec
  have hb := B.bytes
  have hrt := B.returns
  have hts := atoms_spec (ws := wsX0_longestFree) B.pre
  have hown : s.vm.findClass RX0 = some m.cls := findClass_of_methodNamed B.named
  have hlocks := B.notSynchronized
  have hl := lv_entry ([.ref (b 0)]) (n := 5) (Nat.le_of_ble_eq_true rfl)
  rw [lg_entry_eq]
  generalize (lg_sl ([.ref (b 0)]) ++ List.replicate (5 - (lg_sl ([.ref (b 0)])).length) Slot.unset).toArray = ls at hl ⊢
  have hl : lv_has ls 5 [(0, .ref (b 0))] := hl
  have hR10 := wf_R10 hw
  have hC4 := wf_C4 hw
  refine lv_iconst (v := nI 0) hx hb dX0_longestFree_0 (by decide) ?_
  refine lv_istore_n (lv' := [(1, .int (nI 0)), (0, .ref (b 0))]) hx hb dX0_longestFree_1 rfl hl (by decide) rfl (fun ls hl => ?_)
  refine lv_iconst (v := nI 0) hx hb dX0_longestFree_2 (by decide) ?_
  refine lv_istore_n (lv' := [(2, .int (nI 0)), (1, .int (nI 0)), (0, .ref (b 0))]) hx hb dX0_longestFree_3 rfl hl (by decide) rfl (fun ls hl => ?_)
  have e4_0 : (nI 0 : Int32) = (itN 0 (lgR z) (nI 0)) := by first | rfl | omega | (simp [lgI, lgR, lgS, itN_s, Int32.not_lt, Int32.not_le]; done) | (simp [lgI, lgR, lgS, itN_s, Int32.not_lt, Int32.not_le]; omega)
  have hl4_1 : lv_has ls 5 [(0, .ref (b 0)), (1, .int (itN 0 (lgR z) (nI 0))), (2, .int (nI 0))] := lv_eqv (l1 := [(0, .ref (b 0)), (1, .int (nI 0)), (2, .int (nI 0))]) (lv_sub hl [2, 1, 0] rfl) (lv_ce rfl (lv_ce (congrArg Value.int e4_0) (lv_ce rfl rfl)))
  refine kx_up (fun k ls => lv_has ls 5 [(0, .ref (b 0)), (1, .int (itN k (lgR z) (nI 0))), (2, .int (nI k))]) (0) (nR z) (by omega) ls (hl4_1) ?_
  intro ir ls hirl hirh hp ih4
  have hl := hp
  refine lv_iload_n hx hb dX0_longestFree_4 rfl (lv_at hl 2 rfl) ?_
  refine lv_aload_n hx hb dX0_longestFree_5 rfl (lv_at hl 0 rfl) ?_
  refine va_get (D := D) (ci := 0) (v := .int (z 3)) (C := RX0) (T := TX0) (N := 10) hx hb hts iX0_longestFree_0 hown hK hP 0 rfl rfl 0 (by decide) (hts (.fieldLink RX0 36 "HallSights$Hall" "rows" "I") (List.mem_of_getElem? (i := 1) rfl)) (fun _ h9 => h9) rfl dX0_longestFree_6 ?_
  refine kx_top (wf_R hw) ?_
  refine kx_icmp_ge (tgt := 64) hx hb (by omega) (by omega) dX0_longestFree_9 (by decide) (fun c_9_2 => ?_) (fun c_9_3 => ?_)
  · have hq4 : nR z = ir := by omega
    subst hq4
    refine lv_iload_n hx hb dX0_longestFree_64 rfl (lv_at hl 1 rfl) ?_
    have e_5 : (itN (nR z) (lgR z) (nI 0) : Int32) = (lgI z) := by first | rfl | omega | (simp [lgI, lgR, lgS, itN_s, Int32.not_lt, Int32.not_le, c_9_2, Nat.not_lt.mpr c_9_2]; done) | (simp [lgI, lgR, lgS, itN_s, Int32.not_lt, Int32.not_le, c_9_2, Nat.not_lt.mpr c_9_2]; omega) | (revert c_9_2; simp +contextual [lgI, lgR, lgS, itN_s, Int32.not_lt, Int32.not_le]; done) | (revert c_9_2; simp +contextual [lgI, lgR, lgS, itN_s, Int32.not_lt, Int32.not_le]; omega)
    exact kr_iret hx hb hrt hlocks e_5 rfl dX0_longestFree_65
  · refine lv_iconst (v := nI 0) hx hb dX0_longestFree_12 (by decide) ?_
    refine lv_istore_n (lv' := [(3, .int (nI 0)), (0, .ref (b 0)), (1, .int (itN ir (lgR z) (nI 0))), (2, .int (nI ir))]) hx hb dX0_longestFree_13 rfl hl (by decide) rfl (fun ls hl => ?_)
    refine lv_iconst (v := nI 0) hx hb dX0_longestFree_14 (by decide) ?_
    refine lv_istore (lv' := [(4, .int (nI 0)), (3, .int (nI 0)), (0, .ref (b 0)), (1, .int (itN ir (lgR z) (nI 0))), (2, .int (nI ir))]) hx hb dX0_longestFree_15 hl (by decide) rfl (fun ls hl => ?_)
    have e17_6 : (itN ir (lgR z) (nI 0) : Int32) = ((itN 0 (lgS z ir) (nI 0, itN ir (lgR z) (nI 0))).2) := by first | rfl | (simp only [itN_s, lgS]; simp [c_9_3, Nat.not_le.mpr c_9_3]; split <;> split <;> first | rfl | (rename_i g1 g2; first | exact absurd (Int32.le_of_lt g1) g2 | exact absurd g2 (Int32.not_le.mpr g1) | exact absurd (Int32.not_lt.mp g1) g2 | exact Int32.le_antisymm g2 (Int32.not_lt.mp g1)))
    have e17_7 : (nI 0 : Int32) = ((itN 0 (lgS z ir) (nI 0, itN ir (lgR z) (nI 0))).1) := by first | rfl | omega | (simp [lgI, lgR, lgS, itN_s, Int32.not_lt, Int32.not_le, c_9_3, Nat.not_le.mpr c_9_3]; done) | (simp [lgI, lgR, lgS, itN_s, Int32.not_lt, Int32.not_le, c_9_3, Nat.not_le.mpr c_9_3]; omega) | (revert c_9_3; simp +contextual [lgI, lgR, lgS, itN_s, Int32.not_lt, Int32.not_le]; done) | (revert c_9_3; simp +contextual [lgI, lgR, lgS, itN_s, Int32.not_lt, Int32.not_le]; omega)
    have hl17_8 : lv_has ls 5 [(0, .ref (b 0)), (2, .int (nI ir)), (1, .int ((itN 0 (lgS z ir) (nI 0, itN ir (lgR z) (nI 0))).2)), (3, .int ((itN 0 (lgS z ir) (nI 0, itN ir (lgR z) (nI 0))).1)), (4, .int (nI 0))] := lv_eqv (l1 := [(0, .ref (b 0)), (2, .int (nI ir)), (1, .int (itN ir (lgR z) (nI 0))), (3, .int (nI 0)), (4, .int (nI 0))]) (lv_sub hl [2, 4, 3, 1, 0] rfl) (lv_ce rfl (lv_ce rfl (lv_ce (congrArg Value.int e17_6) (lv_ce (congrArg Value.int e17_7) (lv_ce rfl rfl)))))
    refine kx_up (fun k ls => lv_has ls 5 [(0, .ref (b 0)), (2, .int (nI ir)), (1, .int ((itN k (lgS z ir) (nI 0, itN ir (lgR z) (nI 0))).2)), (3, .int ((itN k (lgS z ir) (nI 0, itN ir (lgR z) (nI 0))).1)), (4, .int (nI k))]) (0) (nS z ir) (by omega) ls (hl17_8) ?_
    intro iw ls hiwl hiwh hp ih17
    have hl := hp
    refine lv_iload hx hb dX0_longestFree_17 (lv_at hl 4 rfl) ?_
    refine lv_aload_n hx hb dX0_longestFree_19 rfl (lv_at hl 0 rfl) ?_
    refine va_get (D := D) (ci := 0) (v := .ref (b 3)) (C := RX0) (T := TX0) (N := 10) hx hb hts iX0_longestFree_0 hown hK hP 0 rfl rfl 3 (by decide) (hts (.fieldLink RX0 18 "HallSights$Hall" "seats" "[I") (List.mem_of_getElem? (i := 2) rfl)) (fun _ h9 => h9) rfl dX0_longestFree_20 ?_
    refine lv_iload_n hx hb dX0_longestFree_23 rfl (lv_at hl 1 rfl) ?_
    refine kx_iald hx hb hK hP 3 0 rfl rfl (by omega) (by decide) dX0_longestFree_24 ?_
    refine kx_top (wf_S hw (show (ir) < nR z by omega)) ?_
    have hS12_9 := wf_S12 hw (show (ir) < nR z by omega)
    refine kx_icmp_ge (tgt := 58) hx hb (by omega) (by omega) dX0_longestFree_25 (by decide) (fun c_25_10 => ?_) (fun c_25_11 => ?_)
    · have hq12 : nS z ir = iw := by omega
      subst hq12
      refine lv_iinc (v := nI (ir + 1)) (lv' := [(2, .int (nI (ir + 1))), (0, .ref (b 0)), (1, .int ((itN (nS z ir) (lgS z ir) (nI 0, itN ir (lgR z) (nI 0))).2)), (3, .int ((itN (nS z ir) (lgS z ir) (nI 0, itN ir (lgR z) (nI 0))).1)), (4, .int (nI (nS z ir)))]) hx hb dX0_longestFree_58 hl (k := 1) rfl (kx_inc 1) (by decide) rfl (fun ls hl => ?_)
      refine lv_goto (tgt := 4) hx hb dX0_longestFree_61 (by decide) ?_
      have e4_13 : ((itN (nS z ir) (lgS z ir) (nI 0, itN ir (lgR z) (nI 0))).2 : Int32) = (itN (ir + 1) (lgR z) (nI 0)) := by first | rfl | omega | (simp [lgI, lgR, lgS, itN_s, Int32.not_lt, Int32.not_le, c_9_3, Nat.not_le.mpr c_9_3, c_25_10, Nat.not_lt.mpr c_25_10]; done) | (simp [lgI, lgR, lgS, itN_s, Int32.not_lt, Int32.not_le, c_9_3, Nat.not_le.mpr c_9_3, c_25_10, Nat.not_lt.mpr c_25_10]; omega) | (revert c_9_3 c_25_10; simp +contextual [lgI, lgR, lgS, itN_s, Int32.not_lt, Int32.not_le]; done) | (revert c_9_3 c_25_10; simp +contextual [lgI, lgR, lgS, itN_s, Int32.not_lt, Int32.not_le]; omega)
      have e4_14 : (ir + 1 : Nat) = ((ir + 1)) := by first | rfl | omega | (simp [lgI, lgR, lgS, itN_s, Int32.not_lt, Int32.not_le, c_9_3, Nat.not_le.mpr c_9_3, c_25_10, Nat.not_lt.mpr c_25_10]; done) | (simp [lgI, lgR, lgS, itN_s, Int32.not_lt, Int32.not_le, c_9_3, Nat.not_le.mpr c_9_3, c_25_10, Nat.not_lt.mpr c_25_10]; omega) | (revert c_9_3 c_25_10; simp +contextual [lgI, lgR, lgS, itN_s, Int32.not_lt, Int32.not_le]; done) | (revert c_9_3 c_25_10; simp +contextual [lgI, lgR, lgS, itN_s, Int32.not_lt, Int32.not_le]; omega)
      have hl4_15 : lv_has ls 5 [(0, .ref (b 0)), (1, .int (itN (ir + 1) (lgR z) (nI 0))), (2, .int (nI (ir + 1)))] := lv_eqv (l1 := [(0, .ref (b 0)), (1, .int ((itN (nS z ir) (lgS z ir) (nI 0, itN ir (lgR z) (nI 0))).2)), (2, .int (nI (ir + 1)))]) (lv_sub hl [1, 2, 0] rfl) (lv_ce rfl (lv_ce (congrArg Value.int e4_13) (lv_ce (congrArg (fun x => Value.int (nI x)) e4_14) rfl)))
      exact ih4 _ (by omega) (hl4_15)
    · refine lv_aload_n hx hb dX0_longestFree_28 rfl (lv_at hl 0 rfl) ?_
      refine lv_iload_n hx hb dX0_longestFree_29 rfl (lv_at hl 1 rfl) ?_
      refine lv_iload hx hb dX0_longestFree_30 (lv_at hl 4 rfl) ?_
      refine kr_V (As := [.int (nI ir), .int (nI iw)]) (rest := []) (C := RX0) (own := RX0) ⟨hx, hb, hml, hown, hts⟩ (c_X0_isTaken l D cI cC cH cL b z ir iw (by first | assumption | omega)) (cwV 2 hts gX0_longestFree_X0_isTaken rfl rfl rfl k_X0_isTaken ⟨Nat.le_of_ble_eq_true rfl, Nat.le_of_ble_eq_true rfl⟩) hP hK (va_recv (q := (RX0, TX0, 10)) hK hP (ci := 0) (q0 := 0) rfl rfl) rfl hl.1 rfl (Nat.le_of_ble_eq_true rfl) dX0_longestFree_32 ⟨Nat.le_of_ble_eq_true rfl, Nat.le_of_ble_eq_true rfl⟩ ?_
      refine kx_if_eqb (tgt := 42) hx hb dX0_longestFree_35 (by decide) (fun c_35_16 => ?_) (fun c_35_17 => ?_)
      · refine lv_iload_n hx hb dX0_longestFree_42 rfl (lv_at hl 3 rfl) ?_
        refine lv_iconst (v := nI 1) hx hb dX0_longestFree_43 (by decide) ?_
        refine lv_iadd hx hb dX0_longestFree_44 ?_
        refine lv_istore_n (lv' := [(3, .int (((itN iw (lgS z ir) (nI 0, itN ir (lgR z) (nI 0))).1) + (nI 1))), (0, .ref (b 0)), (2, .int (nI ir)), (1, .int ((itN iw (lgS z ir) (nI 0, itN ir (lgR z) (nI 0))).2)), (4, .int (nI iw))]) hx hb dX0_longestFree_45 rfl hl (by decide) rfl (fun ls hl => ?_)
        refine lv_iload_n hx hb dX0_longestFree_46 rfl (lv_at hl 3 rfl) ?_
        refine lv_iload_n hx hb dX0_longestFree_47 rfl (lv_at hl 0 rfl) ?_
        refine va_mmax hx hb (hml.trans hl.1.symm) hown (hts (.methodLink RX0 70 Lib.Math.max.name) (List.mem_of_getElem? (i := 3) rfl)) (hts (.static Lib.Math.max.name) (List.mem_of_getElem? (i := 4) rfl)) (hts (.initialized "java/lang/Math") (List.mem_of_getElem? (i := 5) rfl)) (hts (.code Lib.Math.max.name Lib.Math.max.code 2 (some .int)) (List.mem_of_getElem? (i := 6) rfl)) (Nat.le_of_ble_eq_true rfl) (Nat.le_of_ble_eq_true rfl) (Nat.le_of_ble_eq_true rfl) (Nat.le_of_ble_eq_true rfl) dX0_longestFree_48 ?_
        refine lv_istore_n (lv' := [(1, .int (if ((itN iw (lgS z ir) (nI 0, itN ir (lgR z) (nI 0))).2) < (((itN iw (lgS z ir) (nI 0, itN ir (lgR z) (nI 0))).1) + (nI 1)) then (((itN iw (lgS z ir) (nI 0, itN ir (lgR z) (nI 0))).1) + (nI 1)) else ((itN iw (lgS z ir) (nI 0, itN ir (lgR z) (nI 0))).2))), (3, .int (((itN iw (lgS z ir) (nI 0, itN ir (lgR z) (nI 0))).1) + (nI 1))), (0, .ref (b 0)), (2, .int (nI ir)), (4, .int (nI iw))]) hx hb dX0_longestFree_51 rfl hl (by decide) rfl (fun ls hl => ?_)
        refine lv_iinc (v := nI (iw + 1)) (lv' := [(4, .int (nI (iw + 1))), (1, .int (if ((itN iw (lgS z ir) (nI 0, itN ir (lgR z) (nI 0))).2) < (((itN iw (lgS z ir) (nI 0, itN ir (lgR z) (nI 0))).1) + (nI 1)) then (((itN iw (lgS z ir) (nI 0, itN ir (lgR z) (nI 0))).1) + (nI 1)) else ((itN iw (lgS z ir) (nI 0, itN ir (lgR z) (nI 0))).2))), (3, .int (((itN iw (lgS z ir) (nI 0, itN ir (lgR z) (nI 0))).1) + (nI 1))), (0, .ref (b 0)), (2, .int (nI ir))]) hx hb dX0_longestFree_52 hl (k := 4) rfl (kx_inc 1) (by decide) rfl (fun ls hl => ?_)
        refine lv_goto (tgt := 17) hx hb dX0_longestFree_55 (by decide) ?_
        have e17_18 : ((if ((itN iw (lgS z ir) (nI 0, itN ir (lgR z) (nI 0))).2) < (((itN iw (lgS z ir) (nI 0, itN ir (lgR z) (nI 0))).1) + (nI 1)) then (((itN iw (lgS z ir) (nI 0, itN ir (lgR z) (nI 0))).1) + (nI 1)) else ((itN iw (lgS z ir) (nI 0, itN ir (lgR z) (nI 0))).2)) : Int32) = ((itN (iw + 1) (lgS z ir) (nI 0, itN ir (lgR z) (nI 0))).2) := by first | rfl | (simp only [itN_s, lgS]; simp [c_9_3, Nat.not_le.mpr c_9_3, c_25_11, Nat.not_le.mpr c_25_11, c_35_16]; split <;> split <;> first | rfl | (rename_i g1 g2; first | exact absurd (Int32.le_of_lt g1) g2 | exact absurd g2 (Int32.not_le.mpr g1) | exact absurd (Int32.not_lt.mp g1) g2 | exact Int32.le_antisymm g2 (Int32.not_lt.mp g1)))
        have e17_19 : ((((itN iw (lgS z ir) (nI 0, itN ir (lgR z) (nI 0))).1) + (nI 1)) : Int32) = ((itN (iw + 1) (lgS z ir) (nI 0, itN ir (lgR z) (nI 0))).1) := by first | rfl | omega | (simp [lgI, lgR, lgS, itN_s, Int32.not_lt, Int32.not_le, c_9_3, Nat.not_le.mpr c_9_3, c_25_11, Nat.not_le.mpr c_25_11, c_35_16]; done) | (simp [lgI, lgR, lgS, itN_s, Int32.not_lt, Int32.not_le, c_9_3, Nat.not_le.mpr c_9_3, c_25_11, Nat.not_le.mpr c_25_11, c_35_16]; omega) | (revert c_9_3 c_25_11 c_35_16; simp +contextual [lgI, lgR, lgS, itN_s, Int32.not_lt, Int32.not_le]; done) | (revert c_9_3 c_25_11 c_35_16; simp +contextual [lgI, lgR, lgS, itN_s, Int32.not_lt, Int32.not_le]; omega)
        have e17_20 : (iw + 1 : Nat) = ((iw + 1)) := by first | rfl | omega | (simp [lgI, lgR, lgS, itN_s, Int32.not_lt, Int32.not_le, c_9_3, Nat.not_le.mpr c_9_3, c_25_11, Nat.not_le.mpr c_25_11, c_35_16]; done) | (simp [lgI, lgR, lgS, itN_s, Int32.not_lt, Int32.not_le, c_9_3, Nat.not_le.mpr c_9_3, c_25_11, Nat.not_le.mpr c_25_11, c_35_16]; omega) | (revert c_9_3 c_25_11 c_35_16; simp +contextual [lgI, lgR, lgS, itN_s, Int32.not_lt, Int32.not_le]; done) | (revert c_9_3 c_25_11 c_35_16; simp +contextual [lgI, lgR, lgS, itN_s, Int32.not_lt, Int32.not_le]; omega)
        have hl17_21 : lv_has ls 5 [(0, .ref (b 0)), (2, .int (nI ir)), (1, .int ((itN (iw + 1) (lgS z ir) (nI 0, itN ir (lgR z) (nI 0))).2)), (3, .int ((itN (iw + 1) (lgS z ir) (nI 0, itN ir (lgR z) (nI 0))).1)), (4, .int (nI (iw + 1)))] := lv_eqv (l1 := [(0, .ref (b 0)), (2, .int (nI ir)), (1, .int (if ((itN iw (lgS z ir) (nI 0, itN ir (lgR z) (nI 0))).2) < (((itN iw (lgS z ir) (nI 0, itN ir (lgR z) (nI 0))).1) + (nI 1)) then (((itN iw (lgS z ir) (nI 0, itN ir (lgR z) (nI 0))).1) + (nI 1)) else ((itN iw (lgS z ir) (nI 0, itN ir (lgR z) (nI 0))).2))), (3, .int (((itN iw (lgS z ir) (nI 0, itN ir (lgR z) (nI 0))).1) + (nI 1))), (4, .int (nI (iw + 1)))]) (lv_sub hl [3, 4, 1, 2, 0] rfl) (lv_ce rfl (lv_ce rfl (lv_ce (congrArg Value.int e17_18) (lv_ce (congrArg Value.int e17_19) (lv_ce (congrArg (fun x => Value.int (nI x)) e17_20) rfl)))))
        exact ih17 _ (by omega) (hl17_21)
      · refine lv_iconst (v := nI 0) hx hb dX0_longestFree_38 (by decide) ?_
        refine lv_goto (tgt := 45) hx hb dX0_longestFree_39 (by decide) ?_
        refine lv_istore_n (lv' := [(3, .int (nI 0)), (0, .ref (b 0)), (2, .int (nI ir)), (1, .int ((itN iw (lgS z ir) (nI 0, itN ir (lgR z) (nI 0))).2)), (4, .int (nI iw))]) hx hb dX0_longestFree_45 rfl hl (by decide) rfl (fun ls hl => ?_)
        refine lv_iload_n hx hb dX0_longestFree_46 rfl (lv_at hl 3 rfl) ?_
        refine lv_iload_n hx hb dX0_longestFree_47 rfl (lv_at hl 0 rfl) ?_
        refine va_mmax hx hb (hml.trans hl.1.symm) hown (hts (.methodLink RX0 70 Lib.Math.max.name) (List.mem_of_getElem? (i := 3) rfl)) (hts (.static Lib.Math.max.name) (List.mem_of_getElem? (i := 4) rfl)) (hts (.initialized "java/lang/Math") (List.mem_of_getElem? (i := 5) rfl)) (hts (.code Lib.Math.max.name Lib.Math.max.code 2 (some .int)) (List.mem_of_getElem? (i := 6) rfl)) (Nat.le_of_ble_eq_true rfl) (Nat.le_of_ble_eq_true rfl) (Nat.le_of_ble_eq_true rfl) (Nat.le_of_ble_eq_true rfl) dX0_longestFree_48 ?_
        refine lv_istore_n (lv' := [(1, .int (if ((itN iw (lgS z ir) (nI 0, itN ir (lgR z) (nI 0))).2) < (nI 0) then (nI 0) else ((itN iw (lgS z ir) (nI 0, itN ir (lgR z) (nI 0))).2))), (3, .int (nI 0)), (0, .ref (b 0)), (2, .int (nI ir)), (4, .int (nI iw))]) hx hb dX0_longestFree_51 rfl hl (by decide) rfl (fun ls hl => ?_)
        refine lv_iinc (v := nI (iw + 1)) (lv' := [(4, .int (nI (iw + 1))), (1, .int (if ((itN iw (lgS z ir) (nI 0, itN ir (lgR z) (nI 0))).2) < (nI 0) then (nI 0) else ((itN iw (lgS z ir) (nI 0, itN ir (lgR z) (nI 0))).2))), (3, .int (nI 0)), (0, .ref (b 0)), (2, .int (nI ir))]) hx hb dX0_longestFree_52 hl (k := 4) rfl (kx_inc 1) (by decide) rfl (fun ls hl => ?_)
        refine lv_goto (tgt := 17) hx hb dX0_longestFree_55 (by decide) ?_
        have e17_22 : ((if ((itN iw (lgS z ir) (nI 0, itN ir (lgR z) (nI 0))).2) < (nI 0) then (nI 0) else ((itN iw (lgS z ir) (nI 0, itN ir (lgR z) (nI 0))).2)) : Int32) = ((itN (iw + 1) (lgS z ir) (nI 0, itN ir (lgR z) (nI 0))).2) := by first | rfl | (simp only [itN_s, lgS]; simp [c_9_3, Nat.not_le.mpr c_9_3, c_25_11, Nat.not_le.mpr c_25_11, c_35_17]; split <;> split <;> first | rfl | (rename_i g1 g2; first | exact absurd (Int32.le_of_lt g1) g2 | exact absurd g2 (Int32.not_le.mpr g1) | exact absurd (Int32.not_lt.mp g1) g2 | exact Int32.le_antisymm g2 (Int32.not_lt.mp g1)))
        have e17_23 : (nI 0 : Int32) = ((itN (iw + 1) (lgS z ir) (nI 0, itN ir (lgR z) (nI 0))).1) := by first | rfl | omega | (simp [lgI, lgR, lgS, itN_s, Int32.not_lt, Int32.not_le, c_9_3, Nat.not_le.mpr c_9_3, c_25_11, Nat.not_le.mpr c_25_11, c_35_17]; done) | (simp [lgI, lgR, lgS, itN_s, Int32.not_lt, Int32.not_le, c_9_3, Nat.not_le.mpr c_9_3, c_25_11, Nat.not_le.mpr c_25_11, c_35_17]; omega) | (revert c_9_3 c_25_11 c_35_17; simp +contextual [lgI, lgR, lgS, itN_s, Int32.not_lt, Int32.not_le]; done) | (revert c_9_3 c_25_11 c_35_17; simp +contextual [lgI, lgR, lgS, itN_s, Int32.not_lt, Int32.not_le]; omega)
        have e17_24 : (iw + 1 : Nat) = ((iw + 1)) := by first | rfl | omega | (simp [lgI, lgR, lgS, itN_s, Int32.not_lt, Int32.not_le, c_9_3, Nat.not_le.mpr c_9_3, c_25_11, Nat.not_le.mpr c_25_11, c_35_17]; done) | (simp [lgI, lgR, lgS, itN_s, Int32.not_lt, Int32.not_le, c_9_3, Nat.not_le.mpr c_9_3, c_25_11, Nat.not_le.mpr c_25_11, c_35_17]; omega) | (revert c_9_3 c_25_11 c_35_17; simp +contextual [lgI, lgR, lgS, itN_s, Int32.not_lt, Int32.not_le]; done) | (revert c_9_3 c_25_11 c_35_17; simp +contextual [lgI, lgR, lgS, itN_s, Int32.not_lt, Int32.not_le]; omega)
        have hl17_25 : lv_has ls 5 [(0, .ref (b 0)), (2, .int (nI ir)), (1, .int ((itN (iw + 1) (lgS z ir) (nI 0, itN ir (lgR z) (nI 0))).2)), (3, .int ((itN (iw + 1) (lgS z ir) (nI 0, itN ir (lgR z) (nI 0))).1)), (4, .int (nI (iw + 1)))] := lv_eqv (l1 := [(0, .ref (b 0)), (2, .int (nI ir)), (1, .int (if ((itN iw (lgS z ir) (nI 0, itN ir (lgR z) (nI 0))).2) < (nI 0) then (nI 0) else ((itN iw (lgS z ir) (nI 0, itN ir (lgR z) (nI 0))).2))), (3, .int (nI 0)), (4, .int (nI (iw + 1)))]) (lv_sub hl [3, 4, 1, 2, 0] rfl) (lv_ce rfl (lv_ce rfl (lv_ce (congrArg Value.int e17_22) (lv_ce (congrArg Value.int e17_23) (lv_ce (congrArg (fun x => Value.int (nI x)) e17_24) rfl)))))
        exact ih17 _ (by omega) (hl17_25)
set_option maxRecDepth 20000 in
theorem iX0_hasRoomForRow_0 : ∀ w ∈ wsX00, w ∈ wsX0_hasRoomForRow := by decide +kernel
set_option maxHeartbeats 4000000 in
set_option maxRecDepth 100000 in
theorem c_X0_hasRoomForRow (l : Launch) (D : va_G) (cI cC cH cL : ClassId) (b : Nat → Nat) (z : ZZ) (d0 : Int32) (hw : WF z) : Met l yX0_hasRoomForRow wsX0_hasRoomForRow ({ frames := 0, cells := 0, slots := 0, locals := 0 }) (kp [.ref (b 0), .int d0] D (HW b cI z) (kT cI cC cH cL)) (kr (.returned (some (.int (bI (canAdd z d0)))))) 0 0 (fun _ => False) := by
  refine Met.ofW (cc := cX0_hasRoomForRow) (maxL := 3) (ret := (some .boolean)) (by decide) rfl ?_
  intro p e s m args below meth c s₁ B hml hv
  obtain ⟨rfl, hP, hK⟩ := hv
  have hx := B.exec
  have hb := B.bytes
  have hrt := B.returns
  have hts := atoms_spec (ws := wsX0_hasRoomForRow) B.pre
  have hown : s.vm.findClass RX0 = some m.cls := findClass_of_methodNamed B.named
  have hlocks := B.notSynchronized
  have hl := lv_entry ([.ref (b 0), .int d0]) (n := 3) (Nat.le_of_ble_eq_true rfl)
  rw [lg_entry_eq]
  generalize (lg_sl ([.ref (b 0), .int d0]) ++ List.replicate (3 - (lg_sl ([.ref (b 0), .int d0])).length) Slot.unset).toArray = ls at hl ⊢
  have hl : lv_has ls 3 [(0, .ref (b 0)), (1, .int d0)] := hl
  have hR10 := wf_R10 hw
  have hC4 := wf_C4 hw
  refine lv_iconst (v := nI 0) hx hb dX0_hasRoomForRow_0 (by decide) ?_
  refine lv_istore_n (lv' := [(2, .int (nI 0)), (0, .ref (b 0)), (1, .int d0)]) hx hb dX0_hasRoomForRow_1 rfl hl (by decide) rfl (fun ls hl => ?_)
  refine kx_up (fun k ls => lv_has ls 3 [(0, .ref (b 0)), (1, .int d0), (2, .int (nI k))] ∧ (allN k (fun r => !decide (z (5 + 4 * r) = d0)) = true)) (0) (nR z) (by omega) ls (⟨(lv_sub hl [1, 2, 0] rfl), rfl⟩) ?_
  intro ir ls hirl hirh hp ih2
  obtain ⟨hl, hinv2⟩ := hp
  refine lv_iload_n hx hb dX0_hasRoomForRow_2 rfl (lv_at hl 2 rfl) ?_
  refine lv_aload_n hx hb dX0_hasRoomForRow_3 rfl (lv_at hl 0 rfl) ?_
  refine va_get (D := D) (ci := 0) (v := .int (z 3)) (C := RX0) (T := TX0) (N := 10) hx hb hts iX0_hasRoomForRow_0 hown hK hP 0 rfl rfl 0 (by decide) (hts (.fieldLink RX0 36 "HallSights$Hall" "rows" "I") (List.mem_of_getElem? (i := 1) rfl)) (fun _ h9 => h9) rfl dX0_hasRoomForRow_4 ?_
  refine kx_top (wf_R hw) ?_
  refine kx_icmp_ge (tgt := 28) hx hb (by omega) (by omega) dX0_hasRoomForRow_7 (by decide) (fun c_7_0 => ?_) (fun c_7_1 => ?_)
  · have hq2 : nR z = ir := by omega
    subst hq2
    refine lv_aload_n hx hb dX0_hasRoomForRow_28 rfl (lv_at hl 0 rfl) ?_
    refine va_get (D := D) (ci := 0) (v := .int (z 3)) (C := RX0) (T := TX0) (N := 10) hx hb hts iX0_hasRoomForRow_0 hown hK hP 0 rfl rfl 0 (by decide) (hts (.fieldLink RX0 36 "HallSights$Hall" "rows" "I") (List.mem_of_getElem? (i := 1) rfl)) (fun _ h9 => h9) rfl dX0_hasRoomForRow_29 ?_
    refine kx_top (wf_R hw) ?_
    refine lv_bipush (v := nI 10) hx hb dX0_hasRoomForRow_32 (by decide) ?_
    refine kx_icmp_ge (tgt := 41) hx hb (by omega) (by omega) dX0_hasRoomForRow_34 (by decide) (fun c_34_3 => ?_) (fun c_34_4 => ?_)
    · refine lv_iconst (v := nI 0) hx hb dX0_hasRoomForRow_41 (by decide) ?_
      have e_5 : (false : Bool) = (canAdd z d0) := by simp [canAdd, allN_s, Int32.not_lt, Int32.not_le, c_7_0, Nat.not_lt.mpr c_7_0, c_34_3, Nat.not_lt.mpr c_34_3, hinv2]
      exact kr_zret hx hb hrt hlocks (congrArg bI e_5) rfl dX0_hasRoomForRow_42
    · refine lv_iconst (v := nI 1) hx hb dX0_hasRoomForRow_37 (by decide) ?_
      refine lv_goto (tgt := 42) hx hb dX0_hasRoomForRow_38 (by decide) ?_
      have e_6 : (true : Bool) = (canAdd z d0) := by simp [canAdd, allN_s, Int32.not_lt, Int32.not_le, c_7_0, Nat.not_lt.mpr c_7_0, c_34_4, Nat.not_le.mpr c_34_4, hinv2]
      exact kr_zret hx hb hrt hlocks (congrArg bI e_6) rfl dX0_hasRoomForRow_42
  · refine lv_aload_n hx hb dX0_hasRoomForRow_10 rfl (lv_at hl 0 rfl) ?_
    refine va_get (D := D) (ci := 0) (v := .ref (b 1)) (C := RX0) (T := TX0) (N := 10) hx hb hts iX0_hasRoomForRow_0 hown hK hP 0 rfl rfl 1 (by decide) (hts (.fieldLink RX0 9 "HallSights$Hall" "distances" "[I") (List.mem_of_getElem? (i := 2) rfl)) (fun _ h9 => h9) rfl dX0_hasRoomForRow_11 ?_
    refine lv_iload_n hx hb dX0_hasRoomForRow_14 rfl (lv_at hl 2 rfl) ?_
    refine kx_iald hx hb hK hP 1 0 rfl rfl (by omega) (by decide) dX0_hasRoomForRow_15 ?_
    refine lv_iload_n hx hb dX0_hasRoomForRow_16 rfl (lv_at hl 1 rfl) ?_
    refine lv_icmp_ne (tgt := 22) hx hb dX0_hasRoomForRow_17 (by decide) (fun c_17_7 => ?_) (fun c_17_8 => ?_)
    · have c_17_7 : ¬ ((z (5 + 4 * ir)) : Int32) = d0 := c_17_7
      refine lv_iinc (v := nI (ir + 1)) (lv' := [(2, .int (nI (ir + 1))), (0, .ref (b 0)), (1, .int d0)]) hx hb dX0_hasRoomForRow_22 hl (k := 2) rfl (kx_inc 1) (by decide) rfl (fun ls hl => ?_)
      refine lv_goto (tgt := 2) hx hb dX0_hasRoomForRow_25 (by decide) ?_
      have e2_9 : (ir + 1 : Nat) = ((ir + 1)) := by first | rfl | omega | (simp [canAdd, allN_s, Int32.not_lt, Int32.not_le, c_7_1, Nat.not_le.mpr c_7_1, c_17_7]; done) | (simp [canAdd, allN_s, Int32.not_lt, Int32.not_le, c_7_1, Nat.not_le.mpr c_7_1, c_17_7]; omega) | (revert c_7_1 c_17_7; simp +contextual [canAdd, allN_s, Int32.not_lt, Int32.not_le]; done) | (revert c_7_1 c_17_7; simp +contextual [canAdd, allN_s, Int32.not_lt, Int32.not_le]; omega)
      have hl2_10 : lv_has ls 3 [(0, .ref (b 0)), (1, .int d0), (2, .int (nI (ir + 1)))] := lv_eqv (l1 := [(0, .ref (b 0)), (1, .int d0), (2, .int (nI (ir + 1)))]) (lv_sub hl [1, 2, 0] rfl) (lv_ce rfl (lv_ce rfl (lv_ce (congrArg (fun x => Value.int (nI x)) e2_9) rfl)))
      exact ih2 _ (by omega) (⟨hl2_10, by rw [allN_s, hinv2]; simp [c_7_1, Nat.not_le.mpr c_7_1, c_17_7]⟩)
    · have c_17_8 : ((z (5 + 4 * ir)) : Int32) = d0 := c_17_8
      refine lv_iconst (v := nI 0) hx hb dX0_hasRoomForRow_20 (by decide) ?_
      have e_11 : (false : Bool) = (canAdd z d0) := by unfold canAdd; rw [allN_f (show ir < nR z by omega) (by simp [c_7_1, Nat.not_le.mpr c_7_1, c_17_8])]; simp
      exact kr_zret hx hb hrt hlocks (congrArg bI e_11) rfl dX0_hasRoomForRow_21
