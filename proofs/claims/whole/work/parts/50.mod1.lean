theorem k_X5_blocks : yX5_blocks.cls = RX5 ∧ yX5_blocks.cls ≠ "java/lang/invoke/MethodHandle" ∧ yX5_blocks.cls ≠ "java/lang/invoke/VarHandle" ∧ (parseMethodDescriptor yX5_blocks.desc).map (fun d => d.parameters.length) = some 4 := by decide +kernel
theorem k_X5_blocksS : yX5_blocks.cls ≠ "java/lang/invoke/MethodHandle" ∧ yX5_blocks.cls ≠ "java/lang/invoke/VarHandle" ∧ (parseMethodDescriptor yX5_blocks.desc).map (fun d => d.parameters.length) = some 4 := k_X5_blocks.2
theorem k_X5_isHigher : yX5_isHigher.cls = RX5 ∧ yX5_isHigher.cls ≠ "java/lang/invoke/MethodHandle" ∧ yX5_isHigher.cls ≠ "java/lang/invoke/VarHandle" ∧ (parseMethodDescriptor yX5_isHigher.desc).map (fun d => d.parameters.length) = some 2 := by decide +kernel
theorem k_X5_isHigherS : yX5_isHigher.cls ≠ "java/lang/invoke/MethodHandle" ∧ yX5_isHigher.cls ≠ "java/lang/invoke/VarHandle" ∧ (parseMethodDescriptor yX5_isHigher.desc).map (fun d => d.parameters.length) = some 2 := k_X5_isHigher.2
theorem k_X5_isTaken : yX5_isTaken.cls = RX5 ∧ yX5_isTaken.cls ≠ "java/lang/invoke/MethodHandle" ∧ yX5_isTaken.cls ≠ "java/lang/invoke/VarHandle" ∧ (parseMethodDescriptor yX5_isTaken.desc).map (fun d => d.parameters.length) = some 2 := by decide +kernel
theorem k_X5_isTakenS : yX5_isTaken.cls ≠ "java/lang/invoke/MethodHandle" ∧ yX5_isTaken.cls ≠ "java/lang/invoke/VarHandle" ∧ (parseMethodDescriptor yX5_isTaken.desc).map (fun d => d.parameters.length) = some 2 := k_X5_isTaken.2
theorem k_X5_of : yX5_of.cls = RX5 ∧ yX5_of.cls ≠ "java/lang/invoke/MethodHandle" ∧ yX5_of.cls ≠ "java/lang/invoke/VarHandle" ∧ (parseMethodDescriptor yX5_of.desc).map (fun d => d.parameters.length) = some 2 := by decide +kernel
theorem k_X5_ofS : yX5_of.cls ≠ "java/lang/invoke/MethodHandle" ∧ yX5_of.cls ≠ "java/lang/invoke/VarHandle" ∧ (parseMethodDescriptor yX5_of.desc).map (fun d => d.parameters.length) = some 2 := k_X5_of.2
theorem k_X5_ofColumn : yX5_ofColumn.cls = RX5 ∧ yX5_ofColumn.cls ≠ "java/lang/invoke/MethodHandle" ∧ yX5_ofColumn.cls ≠ "java/lang/invoke/VarHandle" ∧ (parseMethodDescriptor yX5_ofColumn.desc).map (fun d => d.parameters.length) = some 2 := by decide +kernel
theorem k_X5_ofColumnS : yX5_ofColumn.cls ≠ "java/lang/invoke/MethodHandle" ∧ yX5_ofColumn.cls ≠ "java/lang/invoke/VarHandle" ∧ (parseMethodDescriptor yX5_ofColumn.desc).map (fun d => d.parameters.length) = some 2 := k_X5_ofColumn.2
theorem k_X5_sideOf : yX5_sideOf.cls = RX5 ∧ yX5_sideOf.cls ≠ "java/lang/invoke/MethodHandle" ∧ yX5_sideOf.cls ≠ "java/lang/invoke/VarHandle" ∧ (parseMethodDescriptor yX5_sideOf.desc).map (fun d => d.parameters.length) = some 2 := by decide +kernel
theorem k_X5_sideOfS : yX5_sideOf.cls ≠ "java/lang/invoke/MethodHandle" ∧ yX5_sideOf.cls ≠ "java/lang/invoke/VarHandle" ∧ (parseMethodDescriptor yX5_sideOf.desc).map (fun d => d.parameters.length) = some 2 := k_X5_sideOf.2
theorem k_X5_size : yX5_size.cls = RX5 ∧ yX5_size.cls ≠ "java/lang/invoke/MethodHandle" ∧ yX5_size.cls ≠ "java/lang/invoke/VarHandle" ∧ (parseMethodDescriptor yX5_size.desc).map (fun d => d.parameters.length) = some 1 := by decide +kernel
theorem k_X5_sizeS : yX5_size.cls ≠ "java/lang/invoke/MethodHandle" ∧ yX5_size.cls ≠ "java/lang/invoke/VarHandle" ∧ (parseMethodDescriptor yX5_size.desc).map (fun d => d.parameters.length) = some 1 := k_X5_size.2
theorem k_X5_within : yX5_within.cls = RX5 ∧ yX5_within.cls ≠ "java/lang/invoke/MethodHandle" ∧ yX5_within.cls ≠ "java/lang/invoke/VarHandle" ∧ (parseMethodDescriptor yX5_within.desc).map (fun d => d.parameters.length) = some 3 := by decide +kernel
theorem k_X5_withinS : yX5_within.cls ≠ "java/lang/invoke/MethodHandle" ∧ yX5_within.cls ≠ "java/lang/invoke/VarHandle" ∧ (parseMethodDescriptor yX5_within.desc).map (fun d => d.parameters.length) = some 3 := k_X5_within.2
set_option maxHeartbeats 4000000 in
set_option maxRecDepth 100000 in
theorem c_X5_within (l : Launch) (D : va_G) (cI cC cH cL : ClassId)  (v : Int32) (lo : Int32) (hi : Int32)  : Met l yX5_within wsX5_within ({ frames := 0, cells := 0, slots := 0, locals := 0 }) (kp [.int v, .int lo, .int hi] D ([]) (kT cI cC cH cL)) (kr (.returned (some (.int (bI (wthn v lo hi)))))) 0 0 (fun _ => False) := by
  refine Met.ofW (cc := cX5_within) (maxL := 3) (ret := (some .boolean)) (by decide) rfl ?_
  intro p e s m args below meth c s₁ B hml hv
  obtain ⟨rfl, hP, hK⟩ := hv
  have hx := B.exec
  have hb := B.bytes
  have hrt := B.returns
  have hts := atoms_spec (ws := wsX5_within) B.pre
  have hown : s.vm.findClass RX5 = some m.cls := findClass_of_methodNamed B.named
  have hlocks := B.notSynchronized
  have hl := lv_entry ([.int v, .int lo, .int hi]) (n := 3) (Nat.le_of_ble_eq_true rfl)
  rw [lg_entry_eq]
  generalize (lg_sl ([.int v, .int lo, .int hi]) ++ List.replicate (3 - (lg_sl ([.int v, .int lo, .int hi])).length) Slot.unset).toArray = ls at hl ⊢
  have hl : lv_has ls 3 [(0, .int v), (1, .int lo), (2, .int hi)] := hl
  refine lv_iload_n hx hb dX5_within_0 rfl (lv_at hl 0 rfl) ?_
  refine lv_iload_n hx hb dX5_within_1 rfl (lv_at hl 1 rfl) ?_
  refine lv_icmp_lt (tgt := 14) hx hb dX5_within_2 (by decide) (fun c_2_0 => ?_) (fun c_2_1 => ?_)
  · have c_2_0 : (v : Int32) < lo := c_2_0
    refine lv_iconst (v := nI 0) hx hb dX5_within_14 (by decide) ?_
    have e_2 : (false : Bool) = (wthn v lo hi) := by first | rfl | omega | (simp [wthn, Int32.not_lt, Int32.not_le, c_2_0, Int32.not_le.mpr c_2_0]; done) | (simp [wthn, Int32.not_lt, Int32.not_le, c_2_0, Int32.not_le.mpr c_2_0]; omega) | (revert c_2_0; simp +contextual [wthn, Int32.not_lt, Int32.not_le]; done) | (revert c_2_0; simp +contextual [wthn, Int32.not_lt, Int32.not_le]; omega)
    exact kr_zret hx hb hrt hlocks (congrArg bI e_2) rfl dX5_within_15
  · have c_2_1 : ¬ (v : Int32) < lo := c_2_1
    refine lv_iload_n hx hb dX5_within_5 rfl (lv_at hl 0 rfl) ?_
    refine lv_iload_n hx hb dX5_within_6 rfl (lv_at hl 2 rfl) ?_
    refine lv_icmp_gt (tgt := 14) hx hb dX5_within_7 (by decide) (fun c_7_3 => ?_) (fun c_7_4 => ?_)
    · have c_7_3 : (hi : Int32) < v := c_7_3
      refine lv_iconst (v := nI 0) hx hb dX5_within_14 (by decide) ?_
      have e_5 : (false : Bool) = (wthn v lo hi) := by first | rfl | omega | (simp [wthn, Int32.not_lt, Int32.not_le, c_2_1, Int32.not_lt.mp c_2_1, c_7_3, Int32.not_le.mpr c_7_3]; done) | (simp [wthn, Int32.not_lt, Int32.not_le, c_2_1, Int32.not_lt.mp c_2_1, c_7_3, Int32.not_le.mpr c_7_3]; omega) | (revert c_2_1 c_7_3; simp +contextual [wthn, Int32.not_lt, Int32.not_le]; done) | (revert c_2_1 c_7_3; simp +contextual [wthn, Int32.not_lt, Int32.not_le]; omega)
      exact kr_zret hx hb hrt hlocks (congrArg bI e_5) rfl dX5_within_15
    · have c_7_4 : ¬ (hi : Int32) < v := c_7_4
      refine lv_iconst (v := nI 1) hx hb dX5_within_10 (by decide) ?_
      refine lv_goto (tgt := 15) hx hb dX5_within_11 (by decide) ?_
      have e_6 : (true : Bool) = (wthn v lo hi) := by first | rfl | omega | (simp [wthn, Int32.not_lt, Int32.not_le, c_2_1, Int32.not_lt.mp c_2_1, c_7_4, Int32.not_lt.mp c_7_4]; done) | (simp [wthn, Int32.not_lt, Int32.not_le, c_2_1, Int32.not_lt.mp c_2_1, c_7_4, Int32.not_lt.mp c_7_4]; omega) | (revert c_2_1 c_7_4; simp +contextual [wthn, Int32.not_lt, Int32.not_le]; done) | (revert c_2_1 c_7_4; simp +contextual [wthn, Int32.not_lt, Int32.not_le]; omega)
      exact kr_zret hx hb hrt hlocks (congrArg bI e_6) rfl dX5_within_15
set_option maxHeartbeats 4000000 in
set_option maxRecDepth 100000 in
theorem c_X5_size (l : Launch) (D : va_G) (cI cC cH cL : ClassId)  (v : Int32)  : Met l yX5_size wsX5_size ({ frames := 0, cells := 0, slots := 0, locals := 0 }) (kp [.int v] D ([]) (kT cI cC cH cL)) (kr (.returned (some (.int (absI v))))) 0 0 (fun _ => False) := by
  refine Met.ofW (cc := cX5_size) (maxL := 1) (ret := (some .int)) (by decide) rfl ?_
  intro p e s m args below meth c s₁ B hml hv
  obtain ⟨rfl, hP, hK⟩ := hv
  have hx := B.exec
  have hb := B.bytes
  have hrt := B.returns
  have hts := atoms_spec (ws := wsX5_size) B.pre
  have hown : s.vm.findClass RX5 = some m.cls := findClass_of_methodNamed B.named
  have hlocks := B.notSynchronized
  have hl := lv_entry ([.int v]) (n := 1) (Nat.le_of_ble_eq_true rfl)
  rw [lg_entry_eq]
  generalize (lg_sl ([.int v]) ++ List.replicate (1 - (lg_sl ([.int v])).length) Slot.unset).toArray = ls at hl ⊢
  have hl : lv_has ls 1 [(0, .int v)] := hl
  refine lv_iload_n hx hb dX5_size_0 rfl (lv_at hl 0 rfl) ?_
  refine lv_if_ge (tgt := 9) hx hb dX5_size_1 (by decide) (fun c_1_0 => ?_) (fun c_1_1 => ?_)
  · have c_1_0 : (0 : Int32) ≤ v := c_1_0
    refine lv_iload_n hx hb dX5_size_9 rfl (lv_at hl 0 rfl) ?_
    have e_2 : (v : Int32) = (absI v) := by first | rfl | omega | (simp [absI, Int32.not_lt, Int32.not_le, c_1_0, Int32.not_lt.mpr c_1_0]; done) | (simp [absI, Int32.not_lt, Int32.not_le, c_1_0, Int32.not_lt.mpr c_1_0]; omega) | (revert c_1_0; simp +contextual [absI, Int32.not_lt, Int32.not_le]; done) | (revert c_1_0; simp +contextual [absI, Int32.not_lt, Int32.not_le]; omega)
    exact kr_iret hx hb hrt hlocks e_2 rfl dX5_size_10
  · have c_1_1 : ¬ (0 : Int32) ≤ v := c_1_1
    refine lv_iload_n hx hb dX5_size_4 rfl (lv_at hl 0 rfl) ?_
    refine lv_ineg hx hb dX5_size_5 ?_
    refine lv_goto (tgt := 10) hx hb dX5_size_6 (by decide) ?_
    have e_3 : ((-v) : Int32) = (absI v) := by first | rfl | omega | (simp [absI, Int32.not_lt, Int32.not_le, c_1_1, Int32.not_le.mp c_1_1]; done) | (simp [absI, Int32.not_lt, Int32.not_le, c_1_1, Int32.not_le.mp c_1_1]; omega) | (revert c_1_1; simp +contextual [absI, Int32.not_lt, Int32.not_le]; done) | (revert c_1_1; simp +contextual [absI, Int32.not_lt, Int32.not_le]; omega)
    exact kr_iret hx hb hrt hlocks e_3 rfl dX5_size_10
set_option maxRecDepth 20000 in
theorem iX5_of_5 : ∀ w ∈ wsX50, w ∈ wsX5_of := by decide +kernel
set_option maxHeartbeats 4000000 in
set_option maxRecDepth 100000 in
theorem c_X5_of (l : Launch) (D : va_G) (cI cC cH cL : ClassId) (a : Nat → Nat) (z zh tx pa wy : ZZ) (st le th rd nu pt : Int32) (za : Int64) (r0 : Nat) (wh : Nat) (hi : 5 + 4 * r0 + wh < 57) : Met l yX5_of wsX5_of ({ frames := 0, cells := 0, slots := 0, locals := 0 }) (kp [.ref (a 0), .int (nI r0), .int (nI wh)] D (MW a cI z st zh le tx th pa rd nu pt wy za) (kT cI cC cH cL)) (kr (.returned (some (.int (z (5 + 4 * r0 + wh)))))) 0 0 (fun _ => False) := by
  refine Met.ofW (cc := cX5_of) (maxL := 3) (ret := (some .int)) (by decide) rfl ?_
  intro p e s m args below meth c s₁ B hml hv
  obtain ⟨rfl, hP, hK⟩ := hv
  have hx := B.exec
  have hb := B.bytes
  have hrt := B.returns
  have hts := atoms_spec (ws := wsX5_of) B.pre
  have hown : s.vm.findClass RX5 = some m.cls := findClass_of_methodNamed B.named
  have hlocks := B.notSynchronized
  have hl := lv_entry ([.ref (a 0), .int (nI r0), .int (nI wh)]) (n := 3) (Nat.le_of_ble_eq_true rfl)
  rw [lg_entry_eq]
  generalize (lg_sl ([.ref (a 0), .int (nI r0), .int (nI wh)]) ++ List.replicate (3 - (lg_sl ([.ref (a 0), .int (nI r0), .int (nI wh)])).length) Slot.unset).toArray = ls at hl ⊢
  have hl : lv_has ls 3 [(0, .ref (a 0)), (1, .int (nI r0)), (2, .int (nI wh))] := hl
  refine lv_aload_n hx hb dX5_of_0 rfl (lv_at hl 0 rfl) ?_
  refine va_get (D := D) (ci := 5) (v := .ref (a 1)) (C := RX5) (T := TX5) (N := 12) hx hb hts iX5_of_5 hown hK hP 0 rfl rfl 0 (by decide) (hts (.fieldLink RX5 7 "HallSightsModel" "z" "[I") (List.mem_of_getElem? (i := 1) rfl)) (fun _ h9 => h9) rfl dX5_of_1 ?_
  refine lv_iconst (v := nI 5) hx hb dX5_of_4 (by decide) ?_
  refine lv_iconst (v := nI 4) hx hb dX5_of_5 (by decide) ?_
  refine lv_iload_n hx hb dX5_of_6 rfl (lv_at hl 1 rfl) ?_
  refine kx_imul hx hb dX5_of_7 ?_
  refine kx_iadd hx hb dX5_of_8 ?_
  refine lv_iload_n hx hb dX5_of_9 rfl (lv_at hl 2 rfl) ?_
  refine kx_iadd hx hb dX5_of_10 ?_
  refine kx_iald hx hb hK hP 1 0 rfl rfl (by omega) (by decide) dX5_of_11 ?_
  have e_0 : (z ((5 + (4 * r0)) + wh) : Int32) = (z (5 + 4 * r0 + wh)) := by first | rfl | omega | (simp [Int32.not_lt, Int32.not_le]; done) | (simp [Int32.not_lt, Int32.not_le]; omega)
  exact kr_iret hx hb hrt hlocks e_0 rfl dX5_of_12
set_option maxRecDepth 20000 in
theorem iX5_ofColumn_5 : ∀ w ∈ wsX50, w ∈ wsX5_ofColumn := by decide +kernel
set_option maxHeartbeats 4000000 in
set_option maxRecDepth 100000 in
theorem c_X5_ofColumn (l : Launch) (D : va_G) (cI cC cH cL : ClassId) (a : Nat → Nat) (z zh tx pa wy : ZZ) (st le th rd nu pt : Int32) (za : Int64) (k0 : Nat) (wh : Nat) (hi : 45 + 3 * k0 + wh < 57) : Met l yX5_ofColumn wsX5_ofColumn ({ frames := 0, cells := 0, slots := 0, locals := 0 }) (kp [.ref (a 0), .int (nI k0), .int (nI wh)] D (MW a cI z st zh le tx th pa rd nu pt wy za) (kT cI cC cH cL)) (kr (.returned (some (.int (z (45 + 3 * k0 + wh)))))) 0 0 (fun _ => False) := by
  refine Met.ofW (cc := cX5_ofColumn) (maxL := 3) (ret := (some .int)) (by decide) rfl ?_
  intro p e s m args below meth c s₁ B hml hv
  obtain ⟨rfl, hP, hK⟩ := hv
  have hx := B.exec
  have hb := B.bytes
  have hrt := B.returns
  have hts := atoms_spec (ws := wsX5_ofColumn) B.pre
  have hown : s.vm.findClass RX5 = some m.cls := findClass_of_methodNamed B.named
  have hlocks := B.notSynchronized
  have hl := lv_entry ([.ref (a 0), .int (nI k0), .int (nI wh)]) (n := 3) (Nat.le_of_ble_eq_true rfl)
  rw [lg_entry_eq]
  generalize (lg_sl ([.ref (a 0), .int (nI k0), .int (nI wh)]) ++ List.replicate (3 - (lg_sl ([.ref (a 0), .int (nI k0), .int (nI wh)])).length) Slot.unset).toArray = ls at hl ⊢
  have hl : lv_has ls 3 [(0, .ref (a 0)), (1, .int (nI k0)), (2, .int (nI wh))] := hl
  refine lv_aload_n hx hb dX5_ofColumn_0 rfl (lv_at hl 0 rfl) ?_
  refine va_get (D := D) (ci := 5) (v := .ref (a 1)) (C := RX5) (T := TX5) (N := 12) hx hb hts iX5_ofColumn_5 hown hK hP 0 rfl rfl 0 (by decide) (hts (.fieldLink RX5 7 "HallSightsModel" "z" "[I") (List.mem_of_getElem? (i := 1) rfl)) (fun _ h9 => h9) rfl dX5_ofColumn_1 ?_
  refine lv_bipush (v := nI 45) hx hb dX5_ofColumn_4 (by decide) ?_
  refine lv_iconst (v := nI 3) hx hb dX5_ofColumn_6 (by decide) ?_
  refine lv_iload_n hx hb dX5_ofColumn_7 rfl (lv_at hl 1 rfl) ?_
  refine kx_imul hx hb dX5_ofColumn_8 ?_
  refine kx_iadd hx hb dX5_ofColumn_9 ?_
  refine lv_iload_n hx hb dX5_ofColumn_10 rfl (lv_at hl 2 rfl) ?_
  refine kx_iadd hx hb dX5_ofColumn_11 ?_
  refine kx_iald hx hb hK hP 1 0 rfl rfl (by omega) (by decide) dX5_ofColumn_12 ?_
  have e_0 : (z ((45 + (3 * k0)) + wh) : Int32) = (z (45 + 3 * k0 + wh)) := by first | rfl | omega | (simp [Int32.not_lt, Int32.not_le]; done) | (simp [Int32.not_lt, Int32.not_le]; omega)
  exact kr_iret hx hb hrt hlocks e_0 rfl dX5_ofColumn_13
set_option maxRecDepth 20000 in
theorem iX5_isRow_5 : ∀ w ∈ wsX50, w ∈ wsX5_isRow := by decide +kernel
set_option maxHeartbeats 4000000 in
set_option maxRecDepth 100000 in
theorem c_X5_isRow (l : Launch) (D : va_G) (cI cC cH cL : ClassId) (a : Nat → Nat) (z zh tx pa wy : ZZ) (st le th rd nu pt : Int32) (za : Int64) (ro : Int32) (hw : WF z) : Met l yX5_isRow wsX5_isRow ({ frames := 1, cells := 0, slots := 0, locals := 22 }) (kp [.ref (a 0), .int ro] D (MW a cI z st zh le tx th pa rd nu pt wy za) (kT cI cC cH cL)) (kr (.returned (some (.int (bI (isRowB z ro)))))) 0 0 (fun _ => False) := by
  refine Met.ofW (cc := cX5_isRow) (maxL := 2) (ret := (some .boolean)) (by decide) rfl ?_
  intro p e s m args below meth c s₁ B hml hv
  obtain ⟨rfl, hP, hK⟩ := hv
  have hx := B.exec
  have hb := B.bytes
  have hrt := B.returns
  have hts := atoms_spec (ws := wsX5_isRow) B.pre
  have hown : s.vm.findClass RX5 = some m.cls := findClass_of_methodNamed B.named
  have hlocks := B.notSynchronized
  have hl := lv_entry ([.ref (a 0), .int ro]) (n := 2) (Nat.le_of_ble_eq_true rfl)
  rw [lg_entry_eq]
  generalize (lg_sl ([.ref (a 0), .int ro]) ++ List.replicate (2 - (lg_sl ([.ref (a 0), .int ro])).length) Slot.unset).toArray = ls at hl ⊢
  have hl : lv_has ls 2 [(0, .ref (a 0)), (1, .int ro)] := hl
  have hR10 := wf_R10 hw
  have hC4 := wf_C4 hw
  refine lv_iload_n hx hb dX5_isRow_0 rfl (lv_at hl 1 rfl) ?_
  refine lv_iconst (v := nI 0) hx hb dX5_isRow_1 (by decide) ?_
  refine lv_aload_n hx hb dX5_isRow_2 rfl (lv_at hl 0 rfl) ?_
  refine va_get (D := D) (ci := 5) (v := .ref (a 1)) (C := RX5) (T := TX5) (N := 12) hx hb hts iX5_isRow_5 hown hK hP 0 rfl rfl 0 (by decide) (hts (.fieldLink RX5 7 "HallSightsModel" "z" "[I") (List.mem_of_getElem? (i := 1) rfl)) (fun _ h9 => h9) rfl dX5_isRow_3 ?_
  refine lv_iconst (v := nI 3) hx hb dX5_isRow_6 (by decide) ?_
  refine kx_iald hx hb hK hP 1 0 rfl rfl (by omega) (by decide) dX5_isRow_7 ?_
  refine kx_top (wf_R hw) ?_
  refine lv_iconst (v := nI 1) hx hb dX5_isRow_8 (by decide) ?_
  refine lv_isub hx hb dX5_isRow_9 ?_
  refine kr_S (As := [.int ro, .int (nI 0), .int ((nI (nR z)) - (nI 1))]) (rest := []) (own := RX5) ⟨hx, hb, hml, hown, hts⟩ (c_X5_within l D cI cC cH cL  ro (nI 0) ((nI (nR z)) - (nI 1)) ) (va_cwS 3 hts gX5_isRow_X5_within rfl rfl rfl k_X5_withinS ⟨Nat.le_of_ble_eq_true rfl, Nat.le_of_ble_eq_true rfl⟩) (hP.sub (ws' := []) [] rfl) hK rfl hl.1 rfl (Nat.le_of_ble_eq_true rfl) dX5_isRow_10 ⟨Nat.le_of_ble_eq_true rfl, Nat.le_of_ble_eq_true rfl⟩ ?_
  have e_0 : (wthn ro (nI 0) ((nI (nR z)) - (nI 1)) : Bool) = (isRowB z ro) := by first | rfl | omega | (simp [isRowB, Int32.not_lt, Int32.not_le]; done) | (simp [isRowB, Int32.not_lt, Int32.not_le]; omega)
  exact kr_zret hx hb hrt hlocks (congrArg bI e_0) rfl dX5_isRow_13
set_option maxRecDepth 20000 in
theorem iX5_isColumn_5 : ∀ w ∈ wsX50, w ∈ wsX5_isColumn := by decide +kernel
set_option maxHeartbeats 4000000 in
set_option maxRecDepth 100000 in
theorem c_X5_isColumn (l : Launch) (D : va_G) (cI cC cH cL : ClassId) (a : Nat → Nat) (z zh tx pa wy : ZZ) (st le th rd nu pt : Int32) (za : Int64) (co : Int32) (hw : WF z) : Met l yX5_isColumn wsX5_isColumn ({ frames := 1, cells := 0, slots := 0, locals := 22 }) (kp [.ref (a 0), .int co] D (MW a cI z st zh le tx th pa rd nu pt wy za) (kT cI cC cH cL)) (kr (.returned (some (.int (bI (isColB z co)))))) 0 0 (fun _ => False) := by
  refine Met.ofW (cc := cX5_isColumn) (maxL := 2) (ret := (some .boolean)) (by decide) rfl ?_
  intro p e s m args below meth c s₁ B hml hv
  obtain ⟨rfl, hP, hK⟩ := hv
  have hx := B.exec
  have hb := B.bytes
  have hrt := B.returns
  have hts := atoms_spec (ws := wsX5_isColumn) B.pre
  have hown : s.vm.findClass RX5 = some m.cls := findClass_of_methodNamed B.named
  have hlocks := B.notSynchronized
  have hl := lv_entry ([.ref (a 0), .int co]) (n := 2) (Nat.le_of_ble_eq_true rfl)
  rw [lg_entry_eq]
  generalize (lg_sl ([.ref (a 0), .int co]) ++ List.replicate (2 - (lg_sl ([.ref (a 0), .int co])).length) Slot.unset).toArray = ls at hl ⊢
  have hl : lv_has ls 2 [(0, .ref (a 0)), (1, .int co)] := hl
  have hR10 := wf_R10 hw
  have hC4 := wf_C4 hw
  refine lv_iload_n hx hb dX5_isColumn_0 rfl (lv_at hl 1 rfl) ?_
  refine lv_iconst (v := nI 0) hx hb dX5_isColumn_1 (by decide) ?_
  refine lv_aload_n hx hb dX5_isColumn_2 rfl (lv_at hl 0 rfl) ?_
  refine va_get (D := D) (ci := 5) (v := .ref (a 1)) (C := RX5) (T := TX5) (N := 12) hx hb hts iX5_isColumn_5 hown hK hP 0 rfl rfl 0 (by decide) (hts (.fieldLink RX5 7 "HallSightsModel" "z" "[I") (List.mem_of_getElem? (i := 1) rfl)) (fun _ h9 => h9) rfl dX5_isColumn_3 ?_
  refine lv_iconst (v := nI 4) hx hb dX5_isColumn_6 (by decide) ?_
  refine kx_iald hx hb hK hP 1 0 rfl rfl (by omega) (by decide) dX5_isColumn_7 ?_
  refine kx_top (wf_C hw) ?_
  refine lv_iconst (v := nI 1) hx hb dX5_isColumn_8 (by decide) ?_
  refine lv_isub hx hb dX5_isColumn_9 ?_
  refine kr_S (As := [.int co, .int (nI 0), .int ((nI (nC z)) - (nI 1))]) (rest := []) (own := RX5) ⟨hx, hb, hml, hown, hts⟩ (c_X5_within l D cI cC cH cL  co (nI 0) ((nI (nC z)) - (nI 1)) ) (va_cwS 3 hts gX5_isColumn_X5_within rfl rfl rfl k_X5_withinS ⟨Nat.le_of_ble_eq_true rfl, Nat.le_of_ble_eq_true rfl⟩) (hP.sub (ws' := []) [] rfl) hK rfl hl.1 rfl (Nat.le_of_ble_eq_true rfl) dX5_isColumn_10 ⟨Nat.le_of_ble_eq_true rfl, Nat.le_of_ble_eq_true rfl⟩ ?_
  have e_0 : (wthn co (nI 0) ((nI (nC z)) - (nI 1)) : Bool) = (isColB z co) := by first | rfl | omega | (simp [isColB, Int32.not_lt, Int32.not_le]; done) | (simp [isColB, Int32.not_lt, Int32.not_le]; omega)
  exact kr_zret hx hb hrt hlocks (congrArg bI e_0) rfl dX5_isColumn_13
set_option maxHeartbeats 4000000 in
set_option maxRecDepth 100000 in
theorem c_X5_isTaken (l : Launch) (D : va_G) (cI cC cH cL : ClassId) (a : Nat → Nat) (z zh tx pa wy : ZZ) (st le th rd nu pt : Int32) (za : Int64) (r0 : Nat) (s0 : Nat) (hr : r0 < 10) : Met l yX5_isTaken wsX5_isTaken ({ frames := 1, cells := 0, slots := 0, locals := 22 }) (kp [.ref (a 0), .int (nI r0), .int (nI s0)] D (MW a cI z st zh le tx th pa rd nu pt wy za) (kT cI cC cH cL)) (kr (.returned (some (.int (bI (tk z r0 s0)))))) 0 0 (fun _ => False) := by
  refine Met.ofW (cc := cX5_isTaken) (maxL := 3) (ret := (some .boolean)) (by decide) rfl ?_
  intro p e s m args below meth c s₁ B hml hv
  obtain ⟨rfl, hP, hK⟩ := hv
  have hx := B.exec
  have hb := B.bytes
  have hrt := B.returns
  have hts := atoms_spec (ws := wsX5_isTaken) B.pre
  have hown : s.vm.findClass RX5 = some m.cls := findClass_of_methodNamed B.named
  have hlocks := B.notSynchronized
  have hl := lv_entry ([.ref (a 0), .int (nI r0), .int (nI s0)]) (n := 3) (Nat.le_of_ble_eq_true rfl)
  rw [lg_entry_eq]
  generalize (lg_sl ([.ref (a 0), .int (nI r0), .int (nI s0)]) ++ List.replicate (3 - (lg_sl ([.ref (a 0), .int (nI r0), .int (nI s0)])).length) Slot.unset).toArray = ls at hl ⊢
  have hl : lv_has ls 3 [(0, .ref (a 0)), (1, .int (nI r0)), (2, .int (nI s0))] := hl
  refine lv_aload_n hx hb dX5_isTaken_0 rfl (lv_at hl 0 rfl) ?_
  refine lv_iload_n hx hb dX5_isTaken_1 rfl (lv_at hl 1 rfl) ?_
  refine lv_iconst (v := nI 3) hx hb dX5_isTaken_2 (by decide) ?_
  refine kr_V (As := [.int (nI r0), .int (nI 3)]) (rest := []) (C := RX5) (own := RX5) ⟨hx, hb, hml, hown, hts⟩ (c_X5_of l D cI cC cH cL a z zh tx pa wy st le th rd nu pt za r0 3 (by first | assumption | omega)) (cwV 2 hts gX5_isTaken_X5_of rfl rfl rfl k_X5_of ⟨Nat.le_of_ble_eq_true rfl, Nat.le_of_ble_eq_true rfl⟩) hP hK (va_recv (q := (RX5, TX5, 12)) hK hP (ci := 5) (q0 := 0) rfl rfl) rfl hl.1 rfl (Nat.le_of_ble_eq_true rfl) dX5_isTaken_3 ⟨Nat.le_of_ble_eq_true rfl, Nat.le_of_ble_eq_true rfl⟩ ?_
  refine lv_iload_n hx hb dX5_isTaken_6 rfl (lv_at hl 2 rfl) ?_
  refine lv_ishr hx hb dX5_isTaken_7 ?_
  refine lv_iconst (v := nI 1) hx hb dX5_isTaken_8 (by decide) ?_
  refine lv_iand hx hb dX5_isTaken_9 ?_
  refine lv_iconst (v := nI 1) hx hb dX5_isTaken_10 (by decide) ?_
  refine lv_icmp_ne (tgt := 18) hx hb dX5_isTaken_11 (by decide) (fun c_11_0 => ?_) (fun c_11_1 => ?_)
  · have c_11_0 : ¬ ((((z (5 + 4 * r0 + 3)) >>> ((nI s0) &&& 31)) &&& (nI 1)) : Int32) = (nI 1) := c_11_0
    refine lv_iconst (v := nI 0) hx hb dX5_isTaken_18 (by decide) ?_
    have e_2 : (false : Bool) = (tk z r0 s0) := by first | rfl | omega | (simp [tk, Int32.not_lt, Int32.not_le, c_11_0]; done) | (simp [tk, Int32.not_lt, Int32.not_le, c_11_0]; omega) | (revert c_11_0; simp +contextual [tk, Int32.not_lt, Int32.not_le]; done) | (revert c_11_0; simp +contextual [tk, Int32.not_lt, Int32.not_le]; omega)
    exact kr_zret hx hb hrt hlocks (congrArg bI e_2) rfl dX5_isTaken_19
  · have c_11_1 : ((((z (5 + 4 * r0 + 3)) >>> ((nI s0) &&& 31)) &&& (nI 1)) : Int32) = (nI 1) := c_11_1
    refine lv_iconst (v := nI 1) hx hb dX5_isTaken_14 (by decide) ?_
    refine lv_goto (tgt := 19) hx hb dX5_isTaken_15 (by decide) ?_
    have e_3 : (true : Bool) = (tk z r0 s0) := by first | rfl | omega | (simp [tk, Int32.not_lt, Int32.not_le, c_11_1]; done) | (simp [tk, Int32.not_lt, Int32.not_le, c_11_1]; omega) | (revert c_11_1; simp +contextual [tk, Int32.not_lt, Int32.not_le]; done) | (revert c_11_1; simp +contextual [tk, Int32.not_lt, Int32.not_le]; omega)
    exact kr_zret hx hb hrt hlocks (congrArg bI e_3) rfl dX5_isTaken_19
set_option maxHeartbeats 4000000 in
set_option maxRecDepth 100000 in
theorem c_X5_sideOf (l : Launch) (D : va_G) (cI cC cH cL : ClassId) (a : Nat → Nat) (z zh tx pa wy : ZZ) (st le th rd nu pt : Int32) (za : Int64) (r0 : Nat) (s0 : Nat) (hw : WF z) (hr : r0 < nR z) : Met l yX5_sideOf wsX5_sideOf ({ frames := 1, cells := 0, slots := 0, locals := 22 }) (kp [.ref (a 0), .int (nI r0), .int (nI s0)] D (MW a cI z st zh le tx th pa rd nu pt wy za) (kT cI cC cH cL)) (kr (.returned (some (.int (side z r0 s0))))) 0 0 (fun _ => False) := by
  refine Met.ofW (cc := cX5_sideOf) (maxL := 3) (ret := (some .int)) (by decide) rfl ?_
  intro p e s m args below meth c s₁ B hml hv
  obtain ⟨rfl, hP, hK⟩ := hv
  have hx := B.exec
  have hb := B.bytes
  have hrt := B.returns
  have hts := atoms_spec (ws := wsX5_sideOf) B.pre
  have hown : s.vm.findClass RX5 = some m.cls := findClass_of_methodNamed B.named
  have hlocks := B.notSynchronized
  have hl := lv_entry ([.ref (a 0), .int (nI r0), .int (nI s0)]) (n := 3) (Nat.le_of_ble_eq_true rfl)
  rw [lg_entry_eq]
  generalize (lg_sl ([.ref (a 0), .int (nI r0), .int (nI s0)]) ++ List.replicate (3 - (lg_sl ([.ref (a 0), .int (nI r0), .int (nI s0)])).length) Slot.unset).toArray = ls at hl ⊢
  have hl : lv_has ls 3 [(0, .ref (a 0)), (1, .int (nI r0)), (2, .int (nI s0))] := hl
  have hR10 := wf_R10 hw
  have hC4 := wf_C4 hw
  refine lv_iconst (v := nI 2) hx hb dX5_sideOf_0 (by decide) ?_
  refine lv_iload_n hx hb dX5_sideOf_1 rfl (lv_at hl 2 rfl) ?_
  refine kx_imul hx hb dX5_sideOf_2 ?_
  refine lv_aload_n hx hb dX5_sideOf_3 rfl (lv_at hl 0 rfl) ?_
  refine lv_iload_n hx hb dX5_sideOf_4 rfl (lv_at hl 1 rfl) ?_
  refine lv_iconst (v := nI 2) hx hb dX5_sideOf_5 (by decide) ?_
  refine kr_V (As := [.int (nI r0), .int (nI 2)]) (rest := [.int (nI (2 * s0))]) (C := RX5) (own := RX5) ⟨hx, hb, hml, hown, hts⟩ (c_X5_of l D cI cC cH cL a z zh tx pa wy st le th rd nu pt za r0 2 (by first | assumption | omega)) (cwV 2 hts gX5_sideOf_X5_of rfl rfl rfl k_X5_of ⟨Nat.le_of_ble_eq_true rfl, Nat.le_of_ble_eq_true rfl⟩) hP hK (va_recv (q := (RX5, TX5, 12)) hK hP (ci := 5) (q0 := 0) rfl rfl) rfl hl.1 rfl (Nat.le_of_ble_eq_true rfl) dX5_sideOf_6 ⟨Nat.le_of_ble_eq_true rfl, Nat.le_of_ble_eq_true rfl⟩ ?_
  refine kx_top (wf_S hw (show (r0) < nR z by omega)) ?_
  have hS12_0 := wf_S12 hw (show (r0) < nR z by omega)
  refine lv_iconst (v := nI 1) hx hb dX5_sideOf_9 (by decide) ?_
  refine lv_isub hx hb dX5_sideOf_10 ?_
  refine lv_isub hx hb dX5_sideOf_11 ?_
  have e_1 : (((nI (2 * s0)) - ((nI (nS z (r0))) - (nI 1))) : Int32) = (side z r0 s0) := by first | rfl | omega | (simp [side, Int32.not_lt, Int32.not_le]; done) | (simp [side, Int32.not_lt, Int32.not_le]; omega)
  exact kr_iret hx hb hrt hlocks e_1 rfl dX5_sideOf_12
set_option maxRecDepth 20000 in
theorem iX5_isHigher_5 : ∀ w ∈ wsX50, w ∈ wsX5_isHigher := by decide +kernel
set_option maxHeartbeats 4000000 in
set_option maxRecDepth 100000 in
theorem c_X5_isHigher (l : Launch) (D : va_G) (cI cC cH cL : ClassId) (a : Nat → Nat) (z zh tx pa wy : ZZ) (st le th rd nu pt : Int32) (za : Int64) (a0 : Nat) (r0 : Nat) (ha : a0 < 10) (hr : r0 < 10) : Met l yX5_isHigher wsX5_isHigher ({ frames := 1, cells := 0, slots := 0, locals := 22 }) (kp [.ref (a 0), .int (nI a0), .int (nI r0)] D (MW a cI z st zh le tx th pa rd nu pt wy za) (kT cI cC cH cL)) (kr (.returned (some (.int (bI (higher z a0 r0)))))) 0 0 (fun _ => False) := by
  refine Met.ofW (cc := cX5_isHigher) (maxL := 5) (ret := (some .boolean)) (by decide) rfl ?_
  intro p e s m args below meth c s₁ B hml hv
  obtain ⟨rfl, hP, hK⟩ := hv
  have hx := B.exec
  have hb := B.bytes
  have hrt := B.returns
  have hts := atoms_spec (ws := wsX5_isHigher) B.pre
  have hown : s.vm.findClass RX5 = some m.cls := findClass_of_methodNamed B.named
  have hlocks := B.notSynchronized
  have hl := lv_entry ([.ref (a 0), .int (nI a0), .int (nI r0)]) (n := 5) (Nat.le_of_ble_eq_true rfl)
  rw [lg_entry_eq]
  generalize (lg_sl ([.ref (a 0), .int (nI a0), .int (nI r0)]) ++ List.replicate (5 - (lg_sl ([.ref (a 0), .int (nI a0), .int (nI r0)])).length) Slot.unset).toArray = ls at hl ⊢
  have hl : lv_has ls 5 [(0, .ref (a 0)), (1, .int (nI a0)), (2, .int (nI r0))] := hl
  refine lv_aload_n hx hb dX5_isHigher_0 rfl (lv_at hl 0 rfl) ?_
  refine lv_iload_n hx hb dX5_isHigher_1 rfl (lv_at hl 1 rfl) ?_
  refine lv_iconst (v := nI 1) hx hb dX5_isHigher_2 (by decide) ?_
  refine kr_V (As := [.int (nI a0), .int (nI 1)]) (rest := []) (C := RX5) (own := RX5) ⟨hx, hb, hml, hown, hts⟩ (c_X5_of l D cI cC cH cL a z zh tx pa wy st le th rd nu pt za a0 1 (by first | assumption | omega)) (cwV 2 hts gX5_isHigher_X5_of rfl rfl rfl k_X5_of ⟨Nat.le_of_ble_eq_true rfl, Nat.le_of_ble_eq_true rfl⟩) hP hK (va_recv (q := (RX5, TX5, 12)) hK hP (ci := 5) (q0 := 0) rfl rfl) rfl hl.1 rfl (Nat.le_of_ble_eq_true rfl) dX5_isHigher_3 ⟨Nat.le_of_ble_eq_true rfl, Nat.le_of_ble_eq_true rfl⟩ ?_
  refine lv_aload_n hx hb dX5_isHigher_6 rfl (lv_at hl 0 rfl) ?_
  refine va_get (D := D) (ci := 5) (v := .ref (a 1)) (C := RX5) (T := TX5) (N := 12) hx hb hts iX5_isHigher_5 hown hK hP 0 rfl rfl 0 (by decide) (hts (.fieldLink RX5 7 "HallSightsModel" "z" "[I") (List.mem_of_getElem? (i := 1) rfl)) (fun _ h9 => h9) rfl dX5_isHigher_7 ?_
  refine lv_iconst (v := nI 1) hx hb dX5_isHigher_10 (by decide) ?_
  refine kx_iald hx hb hK hP 1 0 rfl rfl (by omega) (by decide) dX5_isHigher_11 ?_
  refine lv_iadd hx hb dX5_isHigher_12 ?_
  refine lv_aload_n hx hb dX5_isHigher_13 rfl (lv_at hl 0 rfl) ?_
  refine va_get (D := D) (ci := 5) (v := .ref (a 1)) (C := RX5) (T := TX5) (N := 12) hx hb hts iX5_isHigher_5 hown hK hP 0 rfl rfl 0 (by decide) (hts (.fieldLink RX5 7 "HallSightsModel" "z" "[I") (List.mem_of_getElem? (i := 1) rfl)) (fun _ h9 => h9) rfl dX5_isHigher_14 ?_
  refine lv_iconst (v := nI 2) hx hb dX5_isHigher_17 (by decide) ?_
  refine kx_iald hx hb hK hP 1 0 rfl rfl (by omega) (by decide) dX5_isHigher_18 ?_
  refine lv_iadd hx hb dX5_isHigher_19 ?_
  refine lv_aload_n hx hb dX5_isHigher_20 rfl (lv_at hl 0 rfl) ?_
  refine va_get (D := D) (ci := 5) (v := .ref (a 1)) (C := RX5) (T := TX5) (N := 12) hx hb hts iX5_isHigher_5 hown hK hP 0 rfl rfl 0 (by decide) (hts (.fieldLink RX5 7 "HallSightsModel" "z" "[I") (List.mem_of_getElem? (i := 1) rfl)) (fun _ h9 => h9) rfl dX5_isHigher_21 ?_
  refine lv_iconst (v := nI 0) hx hb dX5_isHigher_24 (by decide) ?_
  refine kx_iald hx hb hK hP 1 0 rfl rfl (by omega) (by decide) dX5_isHigher_25 ?_
  refine lv_isub hx hb dX5_isHigher_26 ?_
  refine lv_istore_n (lv' := [(3, .int ((((z (5 + 4 * a0 + 1)) + (z 1)) + (z 2)) - (z 0))), (0, .ref (a 0)), (1, .int (nI a0)), (2, .int (nI r0))]) hx hb dX5_isHigher_27 rfl hl (by decide) rfl (fun ls hl => ?_)
  refine lv_aload_n hx hb dX5_isHigher_28 rfl (lv_at hl 1 rfl) ?_
  refine lv_iload_n hx hb dX5_isHigher_29 rfl (lv_at hl 3 rfl) ?_
  refine lv_iconst (v := nI 1) hx hb dX5_isHigher_30 (by decide) ?_
  refine kr_V (As := [.int (nI r0), .int (nI 1)]) (rest := []) (C := RX5) (own := RX5) ⟨hx, hb, hml, hown, hts⟩ (c_X5_of l D cI cC cH cL a z zh tx pa wy st le th rd nu pt za r0 1 (by first | assumption | omega)) (cwV 2 hts gX5_isHigher_X5_of rfl rfl rfl k_X5_of ⟨Nat.le_of_ble_eq_true rfl, Nat.le_of_ble_eq_true rfl⟩) hP hK (va_recv (q := (RX5, TX5, 12)) hK hP (ci := 5) (q0 := 0) rfl rfl) rfl hl.1 rfl (Nat.le_of_ble_eq_true rfl) dX5_isHigher_31 ⟨Nat.le_of_ble_eq_true rfl, Nat.le_of_ble_eq_true rfl⟩ ?_
  refine lv_aload_n hx hb dX5_isHigher_34 rfl (lv_at hl 1 rfl) ?_
  refine va_get (D := D) (ci := 5) (v := .ref (a 1)) (C := RX5) (T := TX5) (N := 12) hx hb hts iX5_isHigher_5 hown hK hP 0 rfl rfl 0 (by decide) (hts (.fieldLink RX5 7 "HallSightsModel" "z" "[I") (List.mem_of_getElem? (i := 1) rfl)) (fun _ h9 => h9) rfl dX5_isHigher_35 ?_
  refine lv_iconst (v := nI 1) hx hb dX5_isHigher_38 (by decide) ?_
  refine kx_iald hx hb hK hP 1 0 rfl rfl (by omega) (by decide) dX5_isHigher_39 ?_
  refine lv_iadd hx hb dX5_isHigher_40 ?_
  refine lv_aload_n hx hb dX5_isHigher_41 rfl (lv_at hl 1 rfl) ?_
  refine va_get (D := D) (ci := 5) (v := .ref (a 1)) (C := RX5) (T := TX5) (N := 12) hx hb hts iX5_isHigher_5 hown hK hP 0 rfl rfl 0 (by decide) (hts (.fieldLink RX5 7 "HallSightsModel" "z" "[I") (List.mem_of_getElem? (i := 1) rfl)) (fun _ h9 => h9) rfl dX5_isHigher_42 ?_
  refine lv_iconst (v := nI 0) hx hb dX5_isHigher_45 (by decide) ?_
  refine kx_iald hx hb hK hP 1 0 rfl rfl (by omega) (by decide) dX5_isHigher_46 ?_
  refine lv_isub hx hb dX5_isHigher_47 ?_
  refine lv_istore (lv' := [(4, .int (((z (5 + 4 * r0 + 1)) + (z 1)) - (z 0))), (3, .int ((((z (5 + 4 * a0 + 1)) + (z 1)) + (z 2)) - (z 0))), (0, .ref (a 0)), (1, .int (nI a0)), (2, .int (nI r0))]) hx hb dX5_isHigher_48 hl (by decide) rfl (fun ls hl => ?_)
  refine lv_iload_n hx hb dX5_isHigher_50 rfl (lv_at hl 1 rfl) ?_
  refine lv_aload_n hx hb dX5_isHigher_51 rfl (lv_at hl 2 rfl) ?_
  refine lv_iload_n hx hb dX5_isHigher_52 rfl (lv_at hl 4 rfl) ?_
  refine lv_iconst (v := nI 0) hx hb dX5_isHigher_53 (by decide) ?_
  refine kr_V (As := [.int (nI r0), .int (nI 0)]) (rest := [.int ((((z (5 + 4 * a0 + 1)) + (z 1)) + (z 2)) - (z 0))]) (C := RX5) (own := RX5) ⟨hx, hb, hml, hown, hts⟩ (c_X5_of l D cI cC cH cL a z zh tx pa wy st le th rd nu pt za r0 0 (by first | assumption | omega)) (cwV 2 hts gX5_isHigher_X5_of rfl rfl rfl k_X5_of ⟨Nat.le_of_ble_eq_true rfl, Nat.le_of_ble_eq_true rfl⟩) hP hK (va_recv (q := (RX5, TX5, 12)) hK hP (ci := 5) (q0 := 0) rfl rfl) rfl hl.1 rfl (Nat.le_of_ble_eq_true rfl) dX5_isHigher_54 ⟨Nat.le_of_ble_eq_true rfl, Nat.le_of_ble_eq_true rfl⟩ ?_
  refine lv_imul hx hb dX5_isHigher_57 ?_
  refine lv_iload hx hb dX5_isHigher_58 (lv_at hl 0 rfl) ?_
  refine lv_aload_n hx hb dX5_isHigher_60 rfl (lv_at hl 2 rfl) ?_
  refine lv_iload_n hx hb dX5_isHigher_61 rfl (lv_at hl 3 rfl) ?_
  refine lv_iconst (v := nI 0) hx hb dX5_isHigher_62 (by decide) ?_
  refine kr_V (As := [.int (nI a0), .int (nI 0)]) (rest := [.int (((z (5 + 4 * r0 + 1)) + (z 1)) - (z 0)), .int (((((z (5 + 4 * a0 + 1)) + (z 1)) + (z 2)) - (z 0)) * (z (5 + 4 * r0)))]) (C := RX5) (own := RX5) ⟨hx, hb, hml, hown, hts⟩ (c_X5_of l D cI cC cH cL a z zh tx pa wy st le th rd nu pt za a0 0 (by first | assumption | omega)) (cwV 2 hts gX5_isHigher_X5_of rfl rfl rfl k_X5_of ⟨Nat.le_of_ble_eq_true rfl, Nat.le_of_ble_eq_true rfl⟩) hP hK (va_recv (q := (RX5, TX5, 12)) hK hP (ci := 5) (q0 := 0) rfl rfl) rfl hl.1 rfl (Nat.le_of_ble_eq_true rfl) dX5_isHigher_63 ⟨Nat.le_of_ble_eq_true rfl, Nat.le_of_ble_eq_true rfl⟩ ?_
  refine lv_imul hx hb dX5_isHigher_66 ?_
  refine lv_icmp_le (tgt := 74) hx hb dX5_isHigher_67 (by decide) (fun c_67_0 => ?_) (fun c_67_1 => ?_)
  · have c_67_0 : ((((((z (5 + 4 * a0 + 1)) + (z 1)) + (z 2)) - (z 0)) * (z (5 + 4 * r0))) : Int32) ≤ ((((z (5 + 4 * r0 + 1)) + (z 1)) - (z 0)) * (z (5 + 4 * a0))) := c_67_0
    refine lv_iconst (v := nI 0) hx hb dX5_isHigher_74 (by decide) ?_
    have e_2 : (false : Bool) = (higher z a0 r0) := by first | rfl | omega | (simp [higher, headP, eyeP, Int32.not_lt, Int32.not_le, c_67_0, Int32.not_lt.mpr c_67_0]; done) | (simp [higher, headP, eyeP, Int32.not_lt, Int32.not_le, c_67_0, Int32.not_lt.mpr c_67_0]; omega) | (revert c_67_0; simp +contextual [higher, headP, eyeP, Int32.not_lt, Int32.not_le]; done) | (revert c_67_0; simp +contextual [higher, headP, eyeP, Int32.not_lt, Int32.not_le]; omega)
    exact kr_zret hx hb hrt hlocks (congrArg bI e_2) rfl dX5_isHigher_75
  · have c_67_1 : ¬ ((((((z (5 + 4 * a0 + 1)) + (z 1)) + (z 2)) - (z 0)) * (z (5 + 4 * r0))) : Int32) ≤ ((((z (5 + 4 * r0 + 1)) + (z 1)) - (z 0)) * (z (5 + 4 * a0))) := c_67_1
    refine lv_iconst (v := nI 1) hx hb dX5_isHigher_70 (by decide) ?_
    refine lv_goto (tgt := 75) hx hb dX5_isHigher_71 (by decide) ?_
    have e_3 : (true : Bool) = (higher z a0 r0) := by first | rfl | omega | (simp [higher, headP, eyeP, Int32.not_lt, Int32.not_le, c_67_1, Int32.not_le.mp c_67_1]; done) | (simp [higher, headP, eyeP, Int32.not_lt, Int32.not_le, c_67_1, Int32.not_le.mp c_67_1]; omega) | (revert c_67_1; simp +contextual [higher, headP, eyeP, Int32.not_lt, Int32.not_le]; done) | (revert c_67_1; simp +contextual [higher, headP, eyeP, Int32.not_lt, Int32.not_le]; omega)
    exact kr_zret hx hb hrt hlocks (congrArg bI e_3) rfl dX5_isHigher_75
set_option maxHeartbeats 4000000 in
set_option maxRecDepth 100000 in
theorem c_X5_blocks (l : Launch) (D : va_G) (cI cC cH cL : ClassId) (a : Nat → Nat) (z zh tx pa wy : ZZ) (st le th rd nu pt : Int32) (za : Int64) (a0 : Nat) (w0 : Nat) (r0 : Nat) (s0 : Nat) (hw : WF z) (ha : a0 < nR z) (hr : r0 < nR z) : Met l yX5_blocks wsX5_blocks ({ frames := 2, cells := 0, slots := 0, locals := 46 }) (kp [.ref (a 0), .int (nI a0), .int (nI w0), .int (nI r0), .int (nI s0)] D (MW a cI z st zh le tx th pa rd nu pt wy za) (kT cI cC cH cL)) (kr (.returned (some (.int (bI (blk z a0 w0 r0 s0)))))) 0 0 (fun _ => False) := by
  refine Met.ofW (cc := cX5_blocks) (maxL := 6) (ret := (some .boolean)) (by decide) rfl ?_
  intro p e s m args below meth c s₁ B hml hv
  obtain ⟨rfl, hP, hK⟩ := hv
  have hx := B.exec
  have hb := B.bytes
  have hrt := B.returns
  have hts := atoms_spec (ws := wsX5_blocks) B.pre
  have hown : s.vm.findClass RX5 = some m.cls := findClass_of_methodNamed B.named
  have hlocks := B.notSynchronized
  have hl := lv_entry ([.ref (a 0), .int (nI a0), .int (nI w0), .int (nI r0), .int (nI s0)]) (n := 6) (Nat.le_of_ble_eq_true rfl)
  rw [lg_entry_eq]
  generalize (lg_sl ([.ref (a 0), .int (nI a0), .int (nI w0), .int (nI r0), .int (nI s0)]) ++ List.replicate (6 - (lg_sl ([.ref (a 0), .int (nI a0), .int (nI w0), .int (nI r0), .int (nI s0)])).length) Slot.unset).toArray = ls at hl ⊢
  have hl : lv_has ls 6 [(0, .ref (a 0)), (1, .int (nI a0)), (2, .int (nI w0)), (3, .int (nI r0)), (4, .int (nI s0))] := hl
  have hR10 := wf_R10 hw
  have hC4 := wf_C4 hw
  refine lv_iload_n hx hb dX5_blocks_0 rfl (lv_at hl 1 rfl) ?_
  refine lv_iload_n hx hb dX5_blocks_1 rfl (lv_at hl 3 rfl) ?_
  refine kx_icmp_ge (tgt := 14) hx hb (by omega) (by omega) dX5_blocks_2 (by decide) (fun c_2_0 => ?_) (fun c_2_1 => ?_)
  · refine lv_iconst (v := nI 0) hx hb dX5_blocks_14 (by decide) ?_
    have e_2 : (false : Bool) = (blk z a0 w0 r0 s0) := by first | rfl | omega | (simp [blk, nearH, Int32.not_lt, Int32.not_le, c_2_0, Nat.not_lt.mpr c_2_0]; done) | (simp [blk, nearH, Int32.not_lt, Int32.not_le, c_2_0, Nat.not_lt.mpr c_2_0]; omega) | (revert c_2_0; simp +contextual [blk, nearH, Int32.not_lt, Int32.not_le]; done) | (revert c_2_0; simp +contextual [blk, nearH, Int32.not_lt, Int32.not_le]; omega)
    exact kr_zret hx hb hrt hlocks (congrArg bI e_2) rfl dX5_blocks_15
  · refine lv_aload_n hx hb dX5_blocks_5 rfl (lv_at hl 0 rfl) ?_
    refine lv_iload_n hx hb dX5_blocks_6 rfl (lv_at hl 1 rfl) ?_
    refine lv_iload_n hx hb dX5_blocks_7 rfl (lv_at hl 3 rfl) ?_
    refine kr_V (As := [.int (nI a0), .int (nI r0)]) (rest := []) (C := RX5) (own := RX5) ⟨hx, hb, hml, hown, hts⟩ (c_X5_isHigher l D cI cC cH cL a z zh tx pa wy st le th rd nu pt za a0 r0 (by first | assumption | omega) (by first | assumption | omega)) (cwV 2 hts gX5_blocks_X5_isHigher rfl rfl rfl k_X5_isHigher ⟨Nat.le_of_ble_eq_true rfl, Nat.le_of_ble_eq_true rfl⟩) hP hK (va_recv (q := (RX5, TX5, 12)) hK hP (ci := 5) (q0 := 0) rfl rfl) rfl hl.1 rfl (Nat.le_of_ble_eq_true rfl) dX5_blocks_8 ⟨Nat.le_of_ble_eq_true rfl, Nat.le_of_ble_eq_true rfl⟩ ?_
    refine kx_if_neb (tgt := 16) hx hb dX5_blocks_11 (by decide) (fun c_11_3 => ?_) (fun c_11_4 => ?_)
    · refine lv_aload_n hx hb dX5_blocks_16 rfl (lv_at hl 0 rfl) ?_
      refine lv_iload_n hx hb dX5_blocks_17 rfl (lv_at hl 1 rfl) ?_
      refine lv_iload_n hx hb dX5_blocks_18 rfl (lv_at hl 2 rfl) ?_
      refine kr_V (As := [.int (nI a0), .int (nI w0)]) (rest := []) (C := RX5) (own := RX5) ⟨hx, hb, hml, hown, hts⟩ (c_X5_sideOf l D cI cC cH cL a z zh tx pa wy st le th rd nu pt za a0 w0 (by first | assumption | omega) (by first | assumption | omega)) (cwV 2 hts gX5_blocks_X5_sideOf rfl rfl rfl k_X5_sideOf ⟨Nat.le_of_ble_eq_true rfl, Nat.le_of_ble_eq_true rfl⟩) hP hK (va_recv (q := (RX5, TX5, 12)) hK hP (ci := 5) (q0 := 0) rfl rfl) rfl hl.1 rfl (Nat.le_of_ble_eq_true rfl) dX5_blocks_19 ⟨Nat.le_of_ble_eq_true rfl, Nat.le_of_ble_eq_true rfl⟩ ?_
      refine lv_aload_n hx hb dX5_blocks_22 rfl (lv_at hl 0 rfl) ?_
      refine lv_iload_n hx hb dX5_blocks_23 rfl (lv_at hl 3 rfl) ?_
      refine lv_iconst (v := nI 0) hx hb dX5_blocks_24 (by decide) ?_
      refine kr_V (As := [.int (nI r0), .int (nI 0)]) (rest := [.int (side z a0 w0)]) (C := RX5) (own := RX5) ⟨hx, hb, hml, hown, hts⟩ (c_X5_of l D cI cC cH cL a z zh tx pa wy st le th rd nu pt za r0 0 (by first | assumption | omega)) (cwV 2 hts gX5_blocks_X5_of rfl rfl rfl k_X5_of ⟨Nat.le_of_ble_eq_true rfl, Nat.le_of_ble_eq_true rfl⟩) hP hK (va_recv (q := (RX5, TX5, 12)) hK hP (ci := 5) (q0 := 0) rfl rfl) rfl hl.1 rfl (Nat.le_of_ble_eq_true rfl) dX5_blocks_25 ⟨Nat.le_of_ble_eq_true rfl, Nat.le_of_ble_eq_true rfl⟩ ?_
      refine lv_imul hx hb dX5_blocks_28 ?_
      refine lv_aload_n hx hb dX5_blocks_29 rfl (lv_at hl 0 rfl) ?_
      refine lv_iload_n hx hb dX5_blocks_30 rfl (lv_at hl 3 rfl) ?_
      refine lv_iload hx hb dX5_blocks_31 (lv_at hl 4 rfl) ?_
      refine kr_V (As := [.int (nI r0), .int (nI s0)]) (rest := [.int ((side z a0 w0) * (z (5 + 4 * r0)))]) (C := RX5) (own := RX5) ⟨hx, hb, hml, hown, hts⟩ (c_X5_sideOf l D cI cC cH cL a z zh tx pa wy st le th rd nu pt za r0 s0 (by first | assumption | omega) (by first | assumption | omega)) (cwV 2 hts gX5_blocks_X5_sideOf rfl rfl rfl k_X5_sideOf ⟨Nat.le_of_ble_eq_true rfl, Nat.le_of_ble_eq_true rfl⟩) hP hK (va_recv (q := (RX5, TX5, 12)) hK hP (ci := 5) (q0 := 0) rfl rfl) rfl hl.1 rfl (Nat.le_of_ble_eq_true rfl) dX5_blocks_33 ⟨Nat.le_of_ble_eq_true rfl, Nat.le_of_ble_eq_true rfl⟩ ?_
      refine lv_aload_n hx hb dX5_blocks_36 rfl (lv_at hl 0 rfl) ?_
      refine lv_iload_n hx hb dX5_blocks_37 rfl (lv_at hl 1 rfl) ?_
      refine lv_iconst (v := nI 0) hx hb dX5_blocks_38 (by decide) ?_
      refine kr_V (As := [.int (nI a0), .int (nI 0)]) (rest := [.int (side z r0 s0), .int ((side z a0 w0) * (z (5 + 4 * r0)))]) (C := RX5) (own := RX5) ⟨hx, hb, hml, hown, hts⟩ (c_X5_of l D cI cC cH cL a z zh tx pa wy st le th rd nu pt za a0 0 (by first | assumption | omega)) (cwV 2 hts gX5_blocks_X5_of rfl rfl rfl k_X5_of ⟨Nat.le_of_ble_eq_true rfl, Nat.le_of_ble_eq_true rfl⟩) hP hK (va_recv (q := (RX5, TX5, 12)) hK hP (ci := 5) (q0 := 0) rfl rfl) rfl hl.1 rfl (Nat.le_of_ble_eq_true rfl) dX5_blocks_39 ⟨Nat.le_of_ble_eq_true rfl, Nat.le_of_ble_eq_true rfl⟩ ?_
      refine lv_imul hx hb dX5_blocks_42 ?_
      refine lv_isub hx hb dX5_blocks_43 ?_
      refine lv_istore (lv' := [(5, .int (((side z a0 w0) * (z (5 + 4 * r0))) - ((side z r0 s0) * (z (5 + 4 * a0))))), (0, .ref (a 0)), (1, .int (nI a0)), (2, .int (nI w0)), (3, .int (nI r0)), (4, .int (nI s0))]) hx hb dX5_blocks_44 hl (by decide) rfl (fun ls hl => ?_)
      refine lv_iload hx hb dX5_blocks_46 (lv_at hl 0 rfl) ?_
      refine kr_S (As := [.int (((side z a0 w0) * (z (5 + 4 * r0))) - ((side z r0 s0) * (z (5 + 4 * a0))))]) (rest := []) (own := RX5) ⟨hx, hb, hml, hown, hts⟩ (c_X5_size l D cI cC cH cL  (((side z a0 w0) * (z (5 + 4 * r0))) - ((side z r0 s0) * (z (5 + 4 * a0)))) ) (va_cwS 1 hts gX5_blocks_X5_size rfl rfl rfl k_X5_sizeS ⟨Nat.le_of_ble_eq_true rfl, Nat.le_of_ble_eq_true rfl⟩) (hP.sub (ws' := []) [] rfl) hK rfl hl.1 rfl (Nat.le_of_ble_eq_true rfl) dX5_blocks_48 ⟨Nat.le_of_ble_eq_true rfl, Nat.le_of_ble_eq_true rfl⟩ ?_
      refine lv_aload_n hx hb dX5_blocks_51 rfl (lv_at hl 1 rfl) ?_
      refine lv_iload_n hx hb dX5_blocks_52 rfl (lv_at hl 4 rfl) ?_
      refine lv_iconst (v := nI 0) hx hb dX5_blocks_53 (by decide) ?_
      refine kr_V (As := [.int (nI r0), .int (nI 0)]) (rest := [.int (absI (((side z a0 w0) * (z (5 + 4 * r0))) - ((side z r0 s0) * (z (5 + 4 * a0)))))]) (C := RX5) (own := RX5) ⟨hx, hb, hml, hown, hts⟩ (c_X5_of l D cI cC cH cL a z zh tx pa wy st le th rd nu pt za r0 0 (by first | assumption | omega)) (cwV 2 hts gX5_blocks_X5_of rfl rfl rfl k_X5_of ⟨Nat.le_of_ble_eq_true rfl, Nat.le_of_ble_eq_true rfl⟩) hP hK (va_recv (q := (RX5, TX5, 12)) hK hP (ci := 5) (q0 := 0) rfl rfl) rfl hl.1 rfl (Nat.le_of_ble_eq_true rfl) dX5_blocks_54 ⟨Nat.le_of_ble_eq_true rfl, Nat.le_of_ble_eq_true rfl⟩ ?_
      refine lv_icmp_ge (tgt := 64) hx hb dX5_blocks_57 (by decide) (fun c_57_5 => ?_) (fun c_57_6 => ?_)
      · have c_57_5 : ((z (5 + 4 * r0)) : Int32) ≤ (absI (((side z a0 w0) * (z (5 + 4 * r0))) - ((side z r0 s0) * (z (5 + 4 * a0))))) := c_57_5
        refine lv_iconst (v := nI 0) hx hb dX5_blocks_64 (by decide) ?_
        have e_7 : (false : Bool) = (blk z a0 w0 r0 s0) := by first | rfl | omega | (simp [blk, nearH, Int32.not_lt, Int32.not_le, c_2_1, Nat.not_le.mpr c_2_1, c_11_3, c_57_5, Int32.not_lt.mpr c_57_5]; done) | (simp [blk, nearH, Int32.not_lt, Int32.not_le, c_2_1, Nat.not_le.mpr c_2_1, c_11_3, c_57_5, Int32.not_lt.mpr c_57_5]; omega) | (revert c_2_1 c_11_3 c_57_5; simp +contextual [blk, nearH, Int32.not_lt, Int32.not_le]; done) | (revert c_2_1 c_11_3 c_57_5; simp +contextual [blk, nearH, Int32.not_lt, Int32.not_le]; omega)
        exact kr_zret hx hb hrt hlocks (congrArg bI e_7) rfl dX5_blocks_65
      · have c_57_6 : ¬ ((z (5 + 4 * r0)) : Int32) ≤ (absI (((side z a0 w0) * (z (5 + 4 * r0))) - ((side z r0 s0) * (z (5 + 4 * a0))))) := c_57_6
        refine lv_iconst (v := nI 1) hx hb dX5_blocks_60 (by decide) ?_
        refine lv_goto (tgt := 65) hx hb dX5_blocks_61 (by decide) ?_
        have e_8 : (true : Bool) = (blk z a0 w0 r0 s0) := by first | rfl | omega | (simp [blk, nearH, Int32.not_lt, Int32.not_le, c_2_1, Nat.not_le.mpr c_2_1, c_11_3, c_57_6, Int32.not_le.mp c_57_6]; done) | (simp [blk, nearH, Int32.not_lt, Int32.not_le, c_2_1, Nat.not_le.mpr c_2_1, c_11_3, c_57_6, Int32.not_le.mp c_57_6]; omega) | (revert c_2_1 c_11_3 c_57_6; simp +contextual [blk, nearH, Int32.not_lt, Int32.not_le]; done) | (revert c_2_1 c_11_3 c_57_6; simp +contextual [blk, nearH, Int32.not_lt, Int32.not_le]; omega)
        exact kr_zret hx hb hrt hlocks (congrArg bI e_8) rfl dX5_blocks_65
    · refine lv_iconst (v := nI 0) hx hb dX5_blocks_14 (by decide) ?_
      have e_9 : (false : Bool) = (blk z a0 w0 r0 s0) := by first | rfl | omega | (simp [blk, nearH, Int32.not_lt, Int32.not_le, c_2_1, Nat.not_le.mpr c_2_1, c_11_4]; done) | (simp [blk, nearH, Int32.not_lt, Int32.not_le, c_2_1, Nat.not_le.mpr c_2_1, c_11_4]; omega) | (revert c_2_1 c_11_4; simp +contextual [blk, nearH, Int32.not_lt, Int32.not_le]; done) | (revert c_2_1 c_11_4; simp +contextual [blk, nearH, Int32.not_lt, Int32.not_le]; omega)
      exact kr_zret hx hb hrt hlocks (congrArg bI e_9) rfl dX5_blocks_15
set_option maxHeartbeats 4000000 in
set_option maxRecDepth 100000 in
theorem c_X5_columnBlocks (l : Launch) (D : va_G) (cI cC cH cL : ClassId) (a : Nat → Nat) (z zh tx pa wy : ZZ) (st le th rd nu pt : Int32) (za : Int64) (k0 : Nat) (r0 : Nat) (s0 : Nat) (hw : WF z) (hk : k0 < 4) (hr : r0 < nR z) : Met l yX5_columnBlocks wsX5_columnBlocks ({ frames := 2, cells := 0, slots := 0, locals := 44 }) (kp [.ref (a 0), .int (nI k0), .int (nI r0), .int (nI s0)] D (MW a cI z st zh le tx th pa rd nu pt wy za) (kT cI cC cH cL)) (kr (.returned (some (.int (bI (cblk z k0 r0 s0)))))) 0 0 (fun _ => False) := by
  refine Met.ofW (cc := cX5_columnBlocks) (maxL := 6) (ret := (some .boolean)) (by decide) rfl ?_
  intro p e s m args below meth c s₁ B hml hv
  obtain ⟨rfl, hP, hK⟩ := hv
  have hx := B.exec
  have hb := B.bytes
  have hrt := B.returns
  have hts := atoms_spec (ws := wsX5_columnBlocks) B.pre
  have hown : s.vm.findClass RX5 = some m.cls := findClass_of_methodNamed B.named
  have hlocks := B.notSynchronized
  have hl := lv_entry ([.ref (a 0), .int (nI k0), .int (nI r0), .int (nI s0)]) (n := 6) (Nat.le_of_ble_eq_true rfl)
  rw [lg_entry_eq]
  generalize (lg_sl ([.ref (a 0), .int (nI k0), .int (nI r0), .int (nI s0)]) ++ List.replicate (6 - (lg_sl ([.ref (a 0), .int (nI k0), .int (nI r0), .int (nI s0)])).length) Slot.unset).toArray = ls at hl ⊢
  have hl : lv_has ls 6 [(0, .ref (a 0)), (1, .int (nI k0)), (2, .int (nI r0)), (3, .int (nI s0))] := hl
  have hR10 := wf_R10 hw
  have hC4 := wf_C4 hw
  refine lv_aload_n hx hb dX5_columnBlocks_0 rfl (lv_at hl 0 rfl) ?_
  refine lv_iload_n hx hb dX5_columnBlocks_1 rfl (lv_at hl 1 rfl) ?_
  refine lv_iconst (v := nI 0) hx hb dX5_columnBlocks_2 (by decide) ?_
  refine kr_V (As := [.int (nI k0), .int (nI 0)]) (rest := []) (C := RX5) (own := RX5) ⟨hx, hb, hml, hown, hts⟩ (c_X5_ofColumn l D cI cC cH cL a z zh tx pa wy st le th rd nu pt za k0 0 (by first | assumption | omega)) (cwV 2 hts gX5_columnBlocks_X5_ofColumn rfl rfl rfl k_X5_ofColumn ⟨Nat.le_of_ble_eq_true rfl, Nat.le_of_ble_eq_true rfl⟩) hP hK (va_recv (q := (RX5, TX5, 12)) hK hP (ci := 5) (q0 := 0) rfl rfl) rfl hl.1 rfl (Nat.le_of_ble_eq_true rfl) dX5_columnBlocks_3 ⟨Nat.le_of_ble_eq_true rfl, Nat.le_of_ble_eq_true rfl⟩ ?_
  refine lv_istore (lv' := [(4, .int (z (45 + 3 * k0))), (0, .ref (a 0)), (1, .int (nI k0)), (2, .int (nI r0)), (3, .int (nI s0))]) hx hb dX5_columnBlocks_6 hl (by decide) rfl (fun ls hl => ?_)
  refine lv_aload_n hx hb dX5_columnBlocks_8 rfl (lv_at hl 1 rfl) ?_
  refine lv_iload_n hx hb dX5_columnBlocks_9 rfl (lv_at hl 2 rfl) ?_
  refine lv_iconst (v := nI 1) hx hb dX5_columnBlocks_10 (by decide) ?_
  refine kr_V (As := [.int (nI k0), .int (nI 1)]) (rest := []) (C := RX5) (own := RX5) ⟨hx, hb, hml, hown, hts⟩ (c_X5_ofColumn l D cI cC cH cL a z zh tx pa wy st le th rd nu pt za k0 1 (by first | assumption | omega)) (cwV 2 hts gX5_columnBlocks_X5_ofColumn rfl rfl rfl k_X5_ofColumn ⟨Nat.le_of_ble_eq_true rfl, Nat.le_of_ble_eq_true rfl⟩) hP hK (va_recv (q := (RX5, TX5, 12)) hK hP (ci := 5) (q0 := 0) rfl rfl) rfl hl.1 rfl (Nat.le_of_ble_eq_true rfl) dX5_columnBlocks_11 ⟨Nat.le_of_ble_eq_true rfl, Nat.le_of_ble_eq_true rfl⟩ ?_
  refine lv_aload_n hx hb dX5_columnBlocks_14 rfl (lv_at hl 1 rfl) ?_
  refine lv_iload_n hx hb dX5_columnBlocks_15 rfl (lv_at hl 3 rfl) ?_
  refine lv_iconst (v := nI 0) hx hb dX5_columnBlocks_16 (by decide) ?_
  refine kr_V (As := [.int (nI r0), .int (nI 0)]) (rest := [.int (z (45 + 3 * k0 + 1))]) (C := RX5) (own := RX5) ⟨hx, hb, hml, hown, hts⟩ (c_X5_of l D cI cC cH cL a z zh tx pa wy st le th rd nu pt za r0 0 (by first | assumption | omega)) (cwV 2 hts gX5_columnBlocks_X5_of rfl rfl rfl k_X5_of ⟨Nat.le_of_ble_eq_true rfl, Nat.le_of_ble_eq_true rfl⟩) hP hK (va_recv (q := (RX5, TX5, 12)) hK hP (ci := 5) (q0 := 0) rfl rfl) rfl hl.1 rfl (Nat.le_of_ble_eq_true rfl) dX5_columnBlocks_17 ⟨Nat.le_of_ble_eq_true rfl, Nat.le_of_ble_eq_true rfl⟩ ?_
  refine lv_imul hx hb dX5_columnBlocks_20 ?_
  refine lv_aload_n hx hb dX5_columnBlocks_21 rfl (lv_at hl 1 rfl) ?_
  refine lv_iload_n hx hb dX5_columnBlocks_22 rfl (lv_at hl 3 rfl) ?_
  refine lv_iload_n hx hb dX5_columnBlocks_23 rfl (lv_at hl 4 rfl) ?_
  refine kr_V (As := [.int (nI r0), .int (nI s0)]) (rest := [.int ((z (45 + 3 * k0 + 1)) * (z (5 + 4 * r0)))]) (C := RX5) (own := RX5) ⟨hx, hb, hml, hown, hts⟩ (c_X5_sideOf l D cI cC cH cL a z zh tx pa wy st le th rd nu pt za r0 s0 (by first | assumption | omega) (by first | assumption | omega)) (cwV 2 hts gX5_columnBlocks_X5_sideOf rfl rfl rfl k_X5_sideOf ⟨Nat.le_of_ble_eq_true rfl, Nat.le_of_ble_eq_true rfl⟩) hP hK (va_recv (q := (RX5, TX5, 12)) hK hP (ci := 5) (q0 := 0) rfl rfl) rfl hl.1 rfl (Nat.le_of_ble_eq_true rfl) dX5_columnBlocks_24 ⟨Nat.le_of_ble_eq_true rfl, Nat.le_of_ble_eq_true rfl⟩ ?_
  refine lv_iload hx hb dX5_columnBlocks_27 (lv_at hl 0 rfl) ?_
  refine lv_imul hx hb dX5_columnBlocks_29 ?_
  refine lv_isub hx hb dX5_columnBlocks_30 ?_
  refine lv_istore (lv' := [(5, .int (((z (45 + 3 * k0 + 1)) * (z (5 + 4 * r0))) - ((side z r0 s0) * (z (45 + 3 * k0))))), (4, .int (z (45 + 3 * k0))), (0, .ref (a 0)), (1, .int (nI k0)), (2, .int (nI r0)), (3, .int (nI s0))]) hx hb dX5_columnBlocks_31 hl (by decide) rfl (fun ls hl => ?_)
  refine lv_iload hx hb dX5_columnBlocks_33 (lv_at hl 1 rfl) ?_
  refine lv_aload_n hx hb dX5_columnBlocks_35 rfl (lv_at hl 2 rfl) ?_
  refine lv_iload_n hx hb dX5_columnBlocks_36 rfl (lv_at hl 4 rfl) ?_
  refine lv_iconst (v := nI 0) hx hb dX5_columnBlocks_37 (by decide) ?_
  refine kr_V (As := [.int (nI r0), .int (nI 0)]) (rest := [.int (z (45 + 3 * k0))]) (C := RX5) (own := RX5) ⟨hx, hb, hml, hown, hts⟩ (c_X5_of l D cI cC cH cL a z zh tx pa wy st le th rd nu pt za r0 0 (by first | assumption | omega)) (cwV 2 hts gX5_columnBlocks_X5_of rfl rfl rfl k_X5_of ⟨Nat.le_of_ble_eq_true rfl, Nat.le_of_ble_eq_true rfl⟩) hP hK (va_recv (q := (RX5, TX5, 12)) hK hP (ci := 5) (q0 := 0) rfl rfl) rfl hl.1 rfl (Nat.le_of_ble_eq_true rfl) dX5_columnBlocks_38 ⟨Nat.le_of_ble_eq_true rfl, Nat.le_of_ble_eq_true rfl⟩ ?_
  refine lv_icmp_ge (tgt := 69) hx hb dX5_columnBlocks_41 (by decide) (fun c_41_0 => ?_) (fun c_41_1 => ?_)
  · have c_41_0 : ((z (5 + 4 * r0)) : Int32) ≤ (z (45 + 3 * k0)) := c_41_0
    refine lv_iconst (v := nI 0) hx hb dX5_columnBlocks_69 (by decide) ?_
    have e_2 : (false : Bool) = (cblk z k0 r0 s0) := by first | rfl | omega | (simp [cblk, Int32.not_lt, Int32.not_le, c_41_0, Int32.not_lt.mpr c_41_0]; done) | (simp [cblk, Int32.not_lt, Int32.not_le, c_41_0, Int32.not_lt.mpr c_41_0]; omega) | (revert c_41_0; simp +contextual [cblk, Int32.not_lt, Int32.not_le]; done) | (revert c_41_0; simp +contextual [cblk, Int32.not_lt, Int32.not_le]; omega)
    exact kr_zret hx hb hrt hlocks (congrArg bI e_2) rfl dX5_columnBlocks_70
  · have c_41_1 : ¬ ((z (5 + 4 * r0)) : Int32) ≤ (z (45 + 3 * k0)) := c_41_1
    refine lv_iload hx hb dX5_columnBlocks_44 (lv_at hl 0 rfl) ?_
    refine kr_S (As := [.int (((z (45 + 3 * k0 + 1)) * (z (5 + 4 * r0))) - ((side z r0 s0) * (z (45 + 3 * k0))))]) (rest := []) (own := RX5) ⟨hx, hb, hml, hown, hts⟩ (c_X5_size l D cI cC cH cL  (((z (45 + 3 * k0 + 1)) * (z (5 + 4 * r0))) - ((side z r0 s0) * (z (45 + 3 * k0)))) ) (va_cwS 1 hts gX5_columnBlocks_X5_size rfl rfl rfl k_X5_sizeS ⟨Nat.le_of_ble_eq_true rfl, Nat.le_of_ble_eq_true rfl⟩) (hP.sub (ws' := []) [] rfl) hK rfl hl.1 rfl (Nat.le_of_ble_eq_true rfl) dX5_columnBlocks_46 ⟨Nat.le_of_ble_eq_true rfl, Nat.le_of_ble_eq_true rfl⟩ ?_
    refine lv_aload_n hx hb dX5_columnBlocks_49 rfl (lv_at hl 2 rfl) ?_
    refine lv_iload_n hx hb dX5_columnBlocks_50 rfl (lv_at hl 3 rfl) ?_
    refine lv_iconst (v := nI 2) hx hb dX5_columnBlocks_51 (by decide) ?_
    refine kr_V (As := [.int (nI k0), .int (nI 2)]) (rest := [.int (absI (((z (45 + 3 * k0 + 1)) * (z (5 + 4 * r0))) - ((side z r0 s0) * (z (45 + 3 * k0)))))]) (C := RX5) (own := RX5) ⟨hx, hb, hml, hown, hts⟩ (c_X5_ofColumn l D cI cC cH cL a z zh tx pa wy st le th rd nu pt za k0 2 (by first | assumption | omega)) (cwV 2 hts gX5_columnBlocks_X5_ofColumn rfl rfl rfl k_X5_ofColumn ⟨Nat.le_of_ble_eq_true rfl, Nat.le_of_ble_eq_true rfl⟩) hP hK (va_recv (q := (RX5, TX5, 12)) hK hP (ci := 5) (q0 := 0) rfl rfl) rfl hl.1 rfl (Nat.le_of_ble_eq_true rfl) dX5_columnBlocks_52 ⟨Nat.le_of_ble_eq_true rfl, Nat.le_of_ble_eq_true rfl⟩ ?_
    refine lv_aload_n hx hb dX5_columnBlocks_55 rfl (lv_at hl 2 rfl) ?_
    refine lv_iload_n hx hb dX5_columnBlocks_56 rfl (lv_at hl 4 rfl) ?_
    refine lv_iconst (v := nI 0) hx hb dX5_columnBlocks_57 (by decide) ?_
    refine kr_V (As := [.int (nI r0), .int (nI 0)]) (rest := [.int (z (45 + 3 * k0 + 2)), .int (absI (((z (45 + 3 * k0 + 1)) * (z (5 + 4 * r0))) - ((side z r0 s0) * (z (45 + 3 * k0)))))]) (C := RX5) (own := RX5) ⟨hx, hb, hml, hown, hts⟩ (c_X5_of l D cI cC cH cL a z zh tx pa wy st le th rd nu pt za r0 0 (by first | assumption | omega)) (cwV 2 hts gX5_columnBlocks_X5_of rfl rfl rfl k_X5_of ⟨Nat.le_of_ble_eq_true rfl, Nat.le_of_ble_eq_true rfl⟩) hP hK (va_recv (q := (RX5, TX5, 12)) hK hP (ci := 5) (q0 := 0) rfl rfl) rfl hl.1 rfl (Nat.le_of_ble_eq_true rfl) dX5_columnBlocks_58 ⟨Nat.le_of_ble_eq_true rfl, Nat.le_of_ble_eq_true rfl⟩ ?_
    refine lv_imul hx hb dX5_columnBlocks_61 ?_
    refine lv_icmp_gt (tgt := 69) hx hb dX5_columnBlocks_62 (by decide) (fun c_62_3 => ?_) (fun c_62_4 => ?_)
    · have c_62_3 : (((z (45 + 3 * k0 + 2)) * (z (5 + 4 * r0))) : Int32) < (absI (((z (45 + 3 * k0 + 1)) * (z (5 + 4 * r0))) - ((side z r0 s0) * (z (45 + 3 * k0))))) := c_62_3
      refine lv_iconst (v := nI 0) hx hb dX5_columnBlocks_69 (by decide) ?_
      have e_5 : (false : Bool) = (cblk z k0 r0 s0) := by first | rfl | omega | (simp [cblk, Int32.not_lt, Int32.not_le, c_41_1, Int32.not_le.mp c_41_1, c_62_3, Int32.not_le.mpr c_62_3]; done) | (simp [cblk, Int32.not_lt, Int32.not_le, c_41_1, Int32.not_le.mp c_41_1, c_62_3, Int32.not_le.mpr c_62_3]; omega) | (revert c_41_1 c_62_3; simp +contextual [cblk, Int32.not_lt, Int32.not_le]; done) | (revert c_41_1 c_62_3; simp +contextual [cblk, Int32.not_lt, Int32.not_le]; omega)
      exact kr_zret hx hb hrt hlocks (congrArg bI e_5) rfl dX5_columnBlocks_70
    · have c_62_4 : ¬ (((z (45 + 3 * k0 + 2)) * (z (5 + 4 * r0))) : Int32) < (absI (((z (45 + 3 * k0 + 1)) * (z (5 + 4 * r0))) - ((side z r0 s0) * (z (45 + 3 * k0))))) := c_62_4
      refine lv_iconst (v := nI 1) hx hb dX5_columnBlocks_65 (by decide) ?_
      refine lv_goto (tgt := 70) hx hb dX5_columnBlocks_66 (by decide) ?_
      have e_6 : (true : Bool) = (cblk z k0 r0 s0) := by first | rfl | omega | (simp [cblk, Int32.not_lt, Int32.not_le, c_41_1, Int32.not_le.mp c_41_1, c_62_4, Int32.not_lt.mp c_62_4]; done) | (simp [cblk, Int32.not_lt, Int32.not_le, c_41_1, Int32.not_le.mp c_41_1, c_62_4, Int32.not_lt.mp c_62_4]; omega) | (revert c_41_1 c_62_4; simp +contextual [cblk, Int32.not_lt, Int32.not_le]; done) | (revert c_41_1 c_62_4; simp +contextual [cblk, Int32.not_lt, Int32.not_le]; omega)
      exact kr_zret hx hb hrt hlocks (congrArg bI e_6) rfl dX5_columnBlocks_70
set_option maxHeartbeats 4000000 in
set_option maxRecDepth 100000 in
theorem c_X5_peopleInWay (l : Launch) (D : va_G) (cI cC cH cL : ClassId) (a : Nat → Nat) (z zh tx pa wy : ZZ) (st le th rd nu pt : Int32) (za : Int64) (r0 : Nat) (s0 : Nat) (hw : WF z) (hr : r0 < nR z) : Met l yX5_peopleInWay wsX5_peopleInWay ({ frames := 3, cells := 0, slots := 0, locals := 71 }) (kp [.ref (a 0), .int (nI r0), .int (nI s0)] D (MW a cI z st zh le tx th pa rd nu pt wy za) (kT cI cC cH cL)) (kr (.returned (some (.int (nI (people z r0 s0)))))) 0 0 (fun _ => False) := by
  refine Met.ofW (cc := cX5_peopleInWay) (maxL := 6) (ret := (some .int)) (by decide) rfl ?_
  intro p e s m args below meth c s₁ B hml hv
  obtain ⟨rfl, hP, hK⟩ := hv
  have hx := B.exec
  have hb := B.bytes
  have hrt := B.returns
  have hts := atoms_spec (ws := wsX5_peopleInWay) B.pre
  have hown : s.vm.findClass RX5 = some m.cls := findClass_of_methodNamed B.named
  have hlocks := B.notSynchronized
  have hl := lv_entry ([.ref (a 0), .int (nI r0), .int (nI s0)]) (n := 6) (Nat.le_of_ble_eq_true rfl)
  rw [lg_entry_eq]
  generalize (lg_sl ([.ref (a 0), .int (nI r0), .int (nI s0)]) ++ List.replicate (6 - (lg_sl ([.ref (a 0), .int (nI r0), .int (nI s0)])).length) Slot.unset).toArray = ls at hl ⊢
  have hl : lv_has ls 6 [(0, .ref (a 0)), (1, .int (nI r0)), (2, .int (nI s0))] := hl
  have hR10 := wf_R10 hw
  have hC4 := wf_C4 hw
  refine lv_iconst (v := nI 0) hx hb dX5_peopleInWay_0 (by decide) ?_
  refine lv_istore_n (lv' := [(3, .int (nI 0)), (0, .ref (a 0)), (1, .int (nI r0)), (2, .int (nI s0))]) hx hb dX5_peopleInWay_1 rfl hl (by decide) rfl (fun ls hl => ?_)
  refine lv_iconst (v := nI 0) hx hb dX5_peopleInWay_2 (by decide) ?_
  refine lv_istore (lv' := [(4, .int (nI 0)), (3, .int (nI 0)), (0, .ref (a 0)), (1, .int (nI r0)), (2, .int (nI s0))]) hx hb dX5_peopleInWay_3 hl (by decide) rfl (fun ls hl => ?_)
  have e5_0 : (0 : Nat) = (sumN 0 (fun a => pplA z a r0 s0)) := by first | rfl | omega | (simp [people, sumN_s, b2, Int32.not_lt, Int32.not_le]; done) | (simp [people, sumN_s, b2, Int32.not_lt, Int32.not_le]; omega)
  have hl5_1 : lv_has ls 6 [(0, .ref (a 0)), (1, .int (nI r0)), (2, .int (nI s0)), (3, .int (nI (sumN 0 (fun a => pplA z a r0 s0)))), (4, .int (nI 0))] := lv_eqv (l1 := [(0, .ref (a 0)), (1, .int (nI r0)), (2, .int (nI s0)), (3, .int (nI 0)), (4, .int (nI 0))]) (lv_sub hl [2, 3, 4, 1, 0] rfl) (lv_ce rfl (lv_ce rfl (lv_ce rfl (lv_ce (congrArg (fun x => Value.int (nI x)) e5_0) (lv_ce rfl rfl)))))
  refine kx_up (fun k ls => lv_has ls 6 [(0, .ref (a 0)), (1, .int (nI r0)), (2, .int (nI s0)), (3, .int (nI (sumN k (fun a => pplA z a r0 s0)))), (4, .int (nI k))]) (0) (r0) (by omega) ls (hl5_1) ?_
  intro ia ls hial hiah hp ih5
  have hl := hp
  refine lv_iload hx hb dX5_peopleInWay_5 (lv_at hl 4 rfl) ?_
  refine lv_iload_n hx hb dX5_peopleInWay_7 rfl (lv_at hl 1 rfl) ?_
  refine kx_icmp_ge (tgt := 70) hx hb (by omega) (by omega) dX5_peopleInWay_8 (by decide) (fun c_8_2 => ?_) (fun c_8_3 => ?_)
  · have hq4 : r0 = ia := by omega
    subst hq4
    refine lv_iload_n hx hb dX5_peopleInWay_70 rfl (lv_at hl 3 rfl) ?_
    have e_5 : (sumN r0 (fun a => pplA z a r0 s0) : Nat) = (people z r0 s0) := by first | rfl | omega | (simp [people, sumN_s, b2, Int32.not_lt, Int32.not_le, c_8_2, Nat.not_lt.mpr c_8_2]; done) | (simp [people, sumN_s, b2, Int32.not_lt, Int32.not_le, c_8_2, Nat.not_lt.mpr c_8_2]; omega) | (revert c_8_2; simp +contextual [people, sumN_s, b2, Int32.not_lt, Int32.not_le]; done) | (revert c_8_2; simp +contextual [people, sumN_s, b2, Int32.not_lt, Int32.not_le]; omega)
    exact kr_iret hx hb hrt hlocks (congrArg nI e_5) rfl dX5_peopleInWay_71
  · refine lv_iconst (v := nI 0) hx hb dX5_peopleInWay_11 (by decide) ?_
    refine lv_istore (lv' := [(5, .int (nI 0)), (0, .ref (a 0)), (1, .int (nI r0)), (2, .int (nI s0)), (3, .int (nI (sumN ia (fun a => pplA z a r0 s0)))), (4, .int (nI ia))]) hx hb dX5_peopleInWay_12 hl (by decide) rfl (fun ls hl => ?_)
    have e14_6 : (sumN ia (fun a => pplA z a r0 s0) : Nat) = (sumN ia (fun a => pplA z a r0 s0) + sumN 0 (fun w => b2 (tk z ia w && blk z ia w r0 s0))) := by first | rfl | omega | (simp [people, sumN_s, b2, Int32.not_lt, Int32.not_le, c_8_3, Nat.not_le.mpr c_8_3]; done) | (simp [people, sumN_s, b2, Int32.not_lt, Int32.not_le, c_8_3, Nat.not_le.mpr c_8_3]; omega) | (revert c_8_3; simp +contextual [people, sumN_s, b2, Int32.not_lt, Int32.not_le]; done) | (revert c_8_3; simp +contextual [people, sumN_s, b2, Int32.not_lt, Int32.not_le]; omega)
    have hl14_7 : lv_has ls 6 [(0, .ref (a 0)), (1, .int (nI r0)), (2, .int (nI s0)), (4, .int (nI ia)), (3, .int (nI (sumN ia (fun a => pplA z a r0 s0) + sumN 0 (fun w => b2 (tk z ia w && blk z ia w r0 s0))))), (5, .int (nI 0))] := lv_eqv (l1 := [(0, .ref (a 0)), (1, .int (nI r0)), (2, .int (nI s0)), (4, .int (nI ia)), (3, .int (nI (sumN ia (fun a => pplA z a r0 s0)))), (5, .int (nI 0))]) (lv_sub hl [1, 2, 3, 5, 4, 0] rfl) (lv_ce rfl (lv_ce rfl (lv_ce rfl (lv_ce rfl (lv_ce (congrArg (fun x => Value.int (nI x)) e14_6) (lv_ce rfl rfl))))))
    refine kx_up (fun k ls => lv_has ls 6 [(0, .ref (a 0)), (1, .int (nI r0)), (2, .int (nI s0)), (4, .int (nI ia)), (3, .int (nI (sumN ia (fun a => pplA z a r0 s0) + sumN k (fun w => b2 (tk z ia w && blk z ia w r0 s0))))), (5, .int (nI k))]) (0) (nS z ia) (by omega) ls (hl14_7) ?_
    intro iw ls hiwl hiwh hp ih14
    have hl := hp
    refine lv_iload hx hb dX5_peopleInWay_14 (lv_at hl 5 rfl) ?_
    refine lv_aload_n hx hb dX5_peopleInWay_16 rfl (lv_at hl 0 rfl) ?_
    refine lv_iload hx hb dX5_peopleInWay_17 (lv_at hl 3 rfl) ?_
    refine lv_iconst (v := nI 2) hx hb dX5_peopleInWay_19 (by decide) ?_
    refine kr_V (As := [.int (nI ia), .int (nI 2)]) (rest := [.int (nI iw)]) (C := RX5) (own := RX5) ⟨hx, hb, hml, hown, hts⟩ (c_X5_of l D cI cC cH cL a z zh tx pa wy st le th rd nu pt za ia 2 (by first | assumption | omega)) (cwV 2 hts gX5_peopleInWay_X5_of rfl rfl rfl k_X5_of ⟨Nat.le_of_ble_eq_true rfl, Nat.le_of_ble_eq_true rfl⟩) hP hK (va_recv (q := (RX5, TX5, 12)) hK hP (ci := 5) (q0 := 0) rfl rfl) rfl hl.1 rfl (Nat.le_of_ble_eq_true rfl) dX5_peopleInWay_20 ⟨Nat.le_of_ble_eq_true rfl, Nat.le_of_ble_eq_true rfl⟩ ?_
    refine kx_top (wf_S hw (show (ia) < nR z by omega)) ?_
    have hS12_8 := wf_S12 hw (show (ia) < nR z by omega)
    refine kx_icmp_ge (tgt := 64) hx hb (by omega) (by omega) dX5_peopleInWay_23 (by decide) (fun c_23_9 => ?_) (fun c_23_10 => ?_)
    · have hq11 : nS z ia = iw := by omega
      subst hq11
      refine lv_iinc (v := nI (ia + 1)) (lv' := [(4, .int (nI (ia + 1))), (0, .ref (a 0)), (1, .int (nI r0)), (2, .int (nI s0)), (3, .int (nI (sumN ia (fun a => pplA z a r0 s0) + sumN (nS z ia) (fun w => b2 (tk z ia w && blk z ia w r0 s0))))), (5, .int (nI (nS z ia)))]) hx hb dX5_peopleInWay_64 hl (k := 3) rfl (kx_inc 1) (by decide) rfl (fun ls hl => ?_)
      refine lv_goto (tgt := 5) hx hb dX5_peopleInWay_67 (by decide) ?_
      have e5_12 : (sumN ia (fun a => pplA z a r0 s0) + sumN (nS z ia) (fun w => b2 (tk z ia w && blk z ia w r0 s0)) : Nat) = (sumN (ia + 1) (fun a => pplA z a r0 s0)) := by first | rfl | omega | (simp [people, sumN_s, b2, Int32.not_lt, Int32.not_le, c_8_3, Nat.not_le.mpr c_8_3, c_23_9, Nat.not_lt.mpr c_23_9]; done) | (simp [people, sumN_s, b2, Int32.not_lt, Int32.not_le, c_8_3, Nat.not_le.mpr c_8_3, c_23_9, Nat.not_lt.mpr c_23_9]; omega) | (revert c_8_3 c_23_9; simp +contextual [people, sumN_s, b2, Int32.not_lt, Int32.not_le]; done) | (revert c_8_3 c_23_9; simp +contextual [people, sumN_s, b2, Int32.not_lt, Int32.not_le]; omega)
      have e5_13 : (ia + 1 : Nat) = ((ia + 1)) := by first | rfl | omega | (simp [people, sumN_s, b2, Int32.not_lt, Int32.not_le, c_8_3, Nat.not_le.mpr c_8_3, c_23_9, Nat.not_lt.mpr c_23_9]; done) | (simp [people, sumN_s, b2, Int32.not_lt, Int32.not_le, c_8_3, Nat.not_le.mpr c_8_3, c_23_9, Nat.not_lt.mpr c_23_9]; omega) | (revert c_8_3 c_23_9; simp +contextual [people, sumN_s, b2, Int32.not_lt, Int32.not_le]; done) | (revert c_8_3 c_23_9; simp +contextual [people, sumN_s, b2, Int32.not_lt, Int32.not_le]; omega)
      have hl5_14 : lv_has ls 6 [(0, .ref (a 0)), (1, .int (nI r0)), (2, .int (nI s0)), (3, .int (nI (sumN (ia + 1) (fun a => pplA z a r0 s0)))), (4, .int (nI (ia + 1)))] := lv_eqv (l1 := [(0, .ref (a 0)), (1, .int (nI r0)), (2, .int (nI s0)), (3, .int (nI (sumN ia (fun a => pplA z a r0 s0) + sumN (nS z ia) (fun w => b2 (tk z ia w && blk z ia w r0 s0))))), (4, .int (nI (ia + 1)))]) (lv_sub hl [1, 2, 3, 4, 0] rfl) (lv_ce rfl (lv_ce rfl (lv_ce rfl (lv_ce (congrArg (fun x => Value.int (nI x)) e5_12) (lv_ce (congrArg (fun x => Value.int (nI x)) e5_13) rfl)))))
      exact ih5 _ (by omega) (hl5_14)
    · refine lv_iload_n hx hb dX5_peopleInWay_26 rfl (lv_at hl 4 rfl) ?_
      refine lv_aload_n hx hb dX5_peopleInWay_27 rfl (lv_at hl 0 rfl) ?_
      refine lv_iload hx hb dX5_peopleInWay_28 (lv_at hl 3 rfl) ?_
      refine lv_iload hx hb dX5_peopleInWay_30 (lv_at hl 5 rfl) ?_
      refine kr_V (As := [.int (nI ia), .int (nI iw)]) (rest := [.int (nI (sumN ia (fun a => pplA z a r0 s0) + sumN iw (fun w => b2 (tk z ia w && blk z ia w r0 s0))))]) (C := RX5) (own := RX5) ⟨hx, hb, hml, hown, hts⟩ (c_X5_isTaken l D cI cC cH cL a z zh tx pa wy st le th rd nu pt za ia iw (by first | assumption | omega)) (cwV 2 hts gX5_peopleInWay_X5_isTaken rfl rfl rfl k_X5_isTaken ⟨Nat.le_of_ble_eq_true rfl, Nat.le_of_ble_eq_true rfl⟩) hP hK (va_recv (q := (RX5, TX5, 12)) hK hP (ci := 5) (q0 := 0) rfl rfl) rfl hl.1 rfl (Nat.le_of_ble_eq_true rfl) dX5_peopleInWay_32 ⟨Nat.le_of_ble_eq_true rfl, Nat.le_of_ble_eq_true rfl⟩ ?_
      refine kx_if_eqb (tgt := 55) hx hb dX5_peopleInWay_35 (by decide) (fun c_35_15 => ?_) (fun c_35_16 => ?_)
      · refine lv_iconst (v := nI 0) hx hb dX5_peopleInWay_55 (by decide) ?_
        refine kx_iadd hx hb dX5_peopleInWay_56 ?_
        refine lv_istore_n (lv' := [(3, .int (nI ((sumN ia (fun a => pplA z a r0 s0) + sumN iw (fun w => b2 (tk z ia w && blk z ia w r0 s0))) + 0))), (0, .ref (a 0)), (1, .int (nI r0)), (2, .int (nI s0)), (4, .int (nI ia)), (5, .int (nI iw))]) hx hb dX5_peopleInWay_57 rfl hl (by decide) rfl (fun ls hl => ?_)
        refine lv_iinc (v := nI (iw + 1)) (lv' := [(5, .int (nI (iw + 1))), (3, .int (nI ((sumN ia (fun a => pplA z a r0 s0) + sumN iw (fun w => b2 (tk z ia w && blk z ia w r0 s0))) + 0))), (0, .ref (a 0)), (1, .int (nI r0)), (2, .int (nI s0)), (4, .int (nI ia))]) hx hb dX5_peopleInWay_58 hl (k := 5) rfl (kx_inc 1) (by decide) rfl (fun ls hl => ?_)
        refine lv_goto (tgt := 14) hx hb dX5_peopleInWay_61 (by decide) ?_
        have e14_17 : ((sumN ia (fun a => pplA z a r0 s0) + sumN iw (fun w => b2 (tk z ia w && blk z ia w r0 s0))) + 0 : Nat) = (sumN ia (fun a => pplA z a r0 s0) + sumN (iw + 1) (fun w => b2 (tk z ia w && blk z ia w r0 s0))) := by first | rfl | omega | (simp [people, sumN_s, b2, Int32.not_lt, Int32.not_le, c_8_3, Nat.not_le.mpr c_8_3, c_23_10, Nat.not_le.mpr c_23_10, c_35_15]; done) | (simp [people, sumN_s, b2, Int32.not_lt, Int32.not_le, c_8_3, Nat.not_le.mpr c_8_3, c_23_10, Nat.not_le.mpr c_23_10, c_35_15]; omega) | (revert c_8_3 c_23_10 c_35_15; simp +contextual [people, sumN_s, b2, Int32.not_lt, Int32.not_le]; done) | (revert c_8_3 c_23_10 c_35_15; simp +contextual [people, sumN_s, b2, Int32.not_lt, Int32.not_le]; omega)
        have e14_18 : (iw + 1 : Nat) = ((iw + 1)) := by first | rfl | omega | (simp [people, sumN_s, b2, Int32.not_lt, Int32.not_le, c_8_3, Nat.not_le.mpr c_8_3, c_23_10, Nat.not_le.mpr c_23_10, c_35_15]; done) | (simp [people, sumN_s, b2, Int32.not_lt, Int32.not_le, c_8_3, Nat.not_le.mpr c_8_3, c_23_10, Nat.not_le.mpr c_23_10, c_35_15]; omega) | (revert c_8_3 c_23_10 c_35_15; simp +contextual [people, sumN_s, b2, Int32.not_lt, Int32.not_le]; done) | (revert c_8_3 c_23_10 c_35_15; simp +contextual [people, sumN_s, b2, Int32.not_lt, Int32.not_le]; omega)
        have hl14_19 : lv_has ls 6 [(0, .ref (a 0)), (1, .int (nI r0)), (2, .int (nI s0)), (4, .int (nI ia)), (3, .int (nI (sumN ia (fun a => pplA z a r0 s0) + sumN (iw + 1) (fun w => b2 (tk z ia w && blk z ia w r0 s0))))), (5, .int (nI (iw + 1)))] := lv_eqv (l1 := [(0, .ref (a 0)), (1, .int (nI r0)), (2, .int (nI s0)), (4, .int (nI ia)), (3, .int (nI ((sumN ia (fun a => pplA z a r0 s0) + sumN iw (fun w => b2 (tk z ia w && blk z ia w r0 s0))) + 0))), (5, .int (nI (iw + 1)))]) (lv_sub hl [2, 3, 4, 5, 1, 0] rfl) (lv_ce rfl (lv_ce rfl (lv_ce rfl (lv_ce rfl (lv_ce (congrArg (fun x => Value.int (nI x)) e14_17) (lv_ce (congrArg (fun x => Value.int (nI x)) e14_18) rfl))))))
        exact ih14 _ (by omega) (hl14_19)
      · refine lv_aload_n hx hb dX5_peopleInWay_38 rfl (lv_at hl 0 rfl) ?_
        refine lv_iload hx hb dX5_peopleInWay_39 (lv_at hl 3 rfl) ?_
        refine lv_iload hx hb dX5_peopleInWay_41 (lv_at hl 5 rfl) ?_
        refine lv_iload_n hx hb dX5_peopleInWay_43 rfl (lv_at hl 1 rfl) ?_
        refine lv_iload_n hx hb dX5_peopleInWay_44 rfl (lv_at hl 2 rfl) ?_
        refine kr_V (As := [.int (nI ia), .int (nI iw), .int (nI r0), .int (nI s0)]) (rest := [.int (nI (sumN ia (fun a => pplA z a r0 s0) + sumN iw (fun w => b2 (tk z ia w && blk z ia w r0 s0))))]) (C := RX5) (own := RX5) ⟨hx, hb, hml, hown, hts⟩ (c_X5_blocks l D cI cC cH cL a z zh tx pa wy st le th rd nu pt za ia iw r0 s0 (by first | assumption | omega) (by first | assumption | omega) (by first | assumption | omega)) (cwV 4 hts gX5_peopleInWay_X5_blocks rfl rfl rfl k_X5_blocks ⟨Nat.le_of_ble_eq_true rfl, Nat.le_of_ble_eq_true rfl⟩) hP hK (va_recv (q := (RX5, TX5, 12)) hK hP (ci := 5) (q0 := 0) rfl rfl) rfl hl.1 rfl (Nat.le_of_ble_eq_true rfl) dX5_peopleInWay_45 ⟨Nat.le_of_ble_eq_true rfl, Nat.le_of_ble_eq_true rfl⟩ ?_
        refine kx_if_eqb (tgt := 55) hx hb dX5_peopleInWay_48 (by decide) (fun c_48_20 => ?_) (fun c_48_21 => ?_)
        · refine lv_iconst (v := nI 0) hx hb dX5_peopleInWay_55 (by decide) ?_
          refine kx_iadd hx hb dX5_peopleInWay_56 ?_
          refine lv_istore_n (lv' := [(3, .int (nI ((sumN ia (fun a => pplA z a r0 s0) + sumN iw (fun w => b2 (tk z ia w && blk z ia w r0 s0))) + 0))), (0, .ref (a 0)), (1, .int (nI r0)), (2, .int (nI s0)), (4, .int (nI ia)), (5, .int (nI iw))]) hx hb dX5_peopleInWay_57 rfl hl (by decide) rfl (fun ls hl => ?_)
          refine lv_iinc (v := nI (iw + 1)) (lv' := [(5, .int (nI (iw + 1))), (3, .int (nI ((sumN ia (fun a => pplA z a r0 s0) + sumN iw (fun w => b2 (tk z ia w && blk z ia w r0 s0))) + 0))), (0, .ref (a 0)), (1, .int (nI r0)), (2, .int (nI s0)), (4, .int (nI ia))]) hx hb dX5_peopleInWay_58 hl (k := 5) rfl (kx_inc 1) (by decide) rfl (fun ls hl => ?_)
          refine lv_goto (tgt := 14) hx hb dX5_peopleInWay_61 (by decide) ?_
          have e14_22 : ((sumN ia (fun a => pplA z a r0 s0) + sumN iw (fun w => b2 (tk z ia w && blk z ia w r0 s0))) + 0 : Nat) = (sumN ia (fun a => pplA z a r0 s0) + sumN (iw + 1) (fun w => b2 (tk z ia w && blk z ia w r0 s0))) := by first | rfl | omega | (simp [people, sumN_s, b2, Int32.not_lt, Int32.not_le, c_8_3, Nat.not_le.mpr c_8_3, c_23_10, Nat.not_le.mpr c_23_10, c_35_16, c_48_20]; done) | (simp [people, sumN_s, b2, Int32.not_lt, Int32.not_le, c_8_3, Nat.not_le.mpr c_8_3, c_23_10, Nat.not_le.mpr c_23_10, c_35_16, c_48_20]; omega) | (revert c_8_3 c_23_10 c_35_16 c_48_20; simp +contextual [people, sumN_s, b2, Int32.not_lt, Int32.not_le]; done) | (revert c_8_3 c_23_10 c_35_16 c_48_20; simp +contextual [people, sumN_s, b2, Int32.not_lt, Int32.not_le]; omega)
          have e14_23 : (iw + 1 : Nat) = ((iw + 1)) := by first | rfl | omega | (simp [people, sumN_s, b2, Int32.not_lt, Int32.not_le, c_8_3, Nat.not_le.mpr c_8_3, c_23_10, Nat.not_le.mpr c_23_10, c_35_16, c_48_20]; done) | (simp [people, sumN_s, b2, Int32.not_lt, Int32.not_le, c_8_3, Nat.not_le.mpr c_8_3, c_23_10, Nat.not_le.mpr c_23_10, c_35_16, c_48_20]; omega) | (revert c_8_3 c_23_10 c_35_16 c_48_20; simp +contextual [people, sumN_s, b2, Int32.not_lt, Int32.not_le]; done) | (revert c_8_3 c_23_10 c_35_16 c_48_20; simp +contextual [people, sumN_s, b2, Int32.not_lt, Int32.not_le]; omega)
          have hl14_24 : lv_has ls 6 [(0, .ref (a 0)), (1, .int (nI r0)), (2, .int (nI s0)), (4, .int (nI ia)), (3, .int (nI (sumN ia (fun a => pplA z a r0 s0) + sumN (iw + 1) (fun w => b2 (tk z ia w && blk z ia w r0 s0))))), (5, .int (nI (iw + 1)))] := lv_eqv (l1 := [(0, .ref (a 0)), (1, .int (nI r0)), (2, .int (nI s0)), (4, .int (nI ia)), (3, .int (nI ((sumN ia (fun a => pplA z a r0 s0) + sumN iw (fun w => b2 (tk z ia w && blk z ia w r0 s0))) + 0))), (5, .int (nI (iw + 1)))]) (lv_sub hl [2, 3, 4, 5, 1, 0] rfl) (lv_ce rfl (lv_ce rfl (lv_ce rfl (lv_ce rfl (lv_ce (congrArg (fun x => Value.int (nI x)) e14_22) (lv_ce (congrArg (fun x => Value.int (nI x)) e14_23) rfl))))))
          exact ih14 _ (by omega) (hl14_24)
        · refine lv_iconst (v := nI 1) hx hb dX5_peopleInWay_51 (by decide) ?_
          refine lv_goto (tgt := 56) hx hb dX5_peopleInWay_52 (by decide) ?_
          refine kx_iadd hx hb dX5_peopleInWay_56 ?_
          refine lv_istore_n (lv' := [(3, .int (nI ((sumN ia (fun a => pplA z a r0 s0) + sumN iw (fun w => b2 (tk z ia w && blk z ia w r0 s0))) + 1))), (0, .ref (a 0)), (1, .int (nI r0)), (2, .int (nI s0)), (4, .int (nI ia)), (5, .int (nI iw))]) hx hb dX5_peopleInWay_57 rfl hl (by decide) rfl (fun ls hl => ?_)
          refine lv_iinc (v := nI (iw + 1)) (lv' := [(5, .int (nI (iw + 1))), (3, .int (nI ((sumN ia (fun a => pplA z a r0 s0) + sumN iw (fun w => b2 (tk z ia w && blk z ia w r0 s0))) + 1))), (0, .ref (a 0)), (1, .int (nI r0)), (2, .int (nI s0)), (4, .int (nI ia))]) hx hb dX5_peopleInWay_58 hl (k := 5) rfl (kx_inc 1) (by decide) rfl (fun ls hl => ?_)
          refine lv_goto (tgt := 14) hx hb dX5_peopleInWay_61 (by decide) ?_
          have e14_25 : ((sumN ia (fun a => pplA z a r0 s0) + sumN iw (fun w => b2 (tk z ia w && blk z ia w r0 s0))) + 1 : Nat) = (sumN ia (fun a => pplA z a r0 s0) + sumN (iw + 1) (fun w => b2 (tk z ia w && blk z ia w r0 s0))) := by first | rfl | omega | (simp [people, sumN_s, b2, Int32.not_lt, Int32.not_le, c_8_3, Nat.not_le.mpr c_8_3, c_23_10, Nat.not_le.mpr c_23_10, c_35_16, c_48_21]; done) | (simp [people, sumN_s, b2, Int32.not_lt, Int32.not_le, c_8_3, Nat.not_le.mpr c_8_3, c_23_10, Nat.not_le.mpr c_23_10, c_35_16, c_48_21]; omega) | (revert c_8_3 c_23_10 c_35_16 c_48_21; simp +contextual [people, sumN_s, b2, Int32.not_lt, Int32.not_le]; done) | (revert c_8_3 c_23_10 c_35_16 c_48_21; simp +contextual [people, sumN_s, b2, Int32.not_lt, Int32.not_le]; omega)
          have e14_26 : (iw + 1 : Nat) = ((iw + 1)) := by first | rfl | omega | (simp [people, sumN_s, b2, Int32.not_lt, Int32.not_le, c_8_3, Nat.not_le.mpr c_8_3, c_23_10, Nat.not_le.mpr c_23_10, c_35_16, c_48_21]; done) | (simp [people, sumN_s, b2, Int32.not_lt, Int32.not_le, c_8_3, Nat.not_le.mpr c_8_3, c_23_10, Nat.not_le.mpr c_23_10, c_35_16, c_48_21]; omega) | (revert c_8_3 c_23_10 c_35_16 c_48_21; simp +contextual [people, sumN_s, b2, Int32.not_lt, Int32.not_le]; done) | (revert c_8_3 c_23_10 c_35_16 c_48_21; simp +contextual [people, sumN_s, b2, Int32.not_lt, Int32.not_le]; omega)
          have hl14_27 : lv_has ls 6 [(0, .ref (a 0)), (1, .int (nI r0)), (2, .int (nI s0)), (4, .int (nI ia)), (3, .int (nI (sumN ia (fun a => pplA z a r0 s0) + sumN (iw + 1) (fun w => b2 (tk z ia w && blk z ia w r0 s0))))), (5, .int (nI (iw + 1)))] := lv_eqv (l1 := [(0, .ref (a 0)), (1, .int (nI r0)), (2, .int (nI s0)), (4, .int (nI ia)), (3, .int (nI ((sumN ia (fun a => pplA z a r0 s0) + sumN iw (fun w => b2 (tk z ia w && blk z ia w r0 s0))) + 1))), (5, .int (nI (iw + 1)))]) (lv_sub hl [2, 3, 4, 5, 1, 0] rfl) (lv_ce rfl (lv_ce rfl (lv_ce rfl (lv_ce rfl (lv_ce (congrArg (fun x => Value.int (nI x)) e14_25) (lv_ce (congrArg (fun x => Value.int (nI x)) e14_26) rfl))))))
          exact ih14 _ (by omega) (hl14_27)
