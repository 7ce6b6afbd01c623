theorem k_X0_bitsOf : yX0_bitsOf.cls = RX0 ∧ yX0_bitsOf.cls ≠ "java/lang/invoke/MethodHandle" ∧ yX0_bitsOf.cls ≠ "java/lang/invoke/VarHandle" ∧ (parseMethodDescriptor yX0_bitsOf.desc).map (fun d => d.parameters.length) = some 2 := by decide +kernel
theorem k_X0_bitsOfS : yX0_bitsOf.cls ≠ "java/lang/invoke/MethodHandle" ∧ yX0_bitsOf.cls ≠ "java/lang/invoke/VarHandle" ∧ (parseMethodDescriptor yX0_bitsOf.desc).map (fun d => d.parameters.length) = some 2 := k_X0_bitsOf.2
theorem k_X0_moveRow : yX0_moveRow.cls = RX0 ∧ yX0_moveRow.cls ≠ "java/lang/invoke/MethodHandle" ∧ yX0_moveRow.cls ≠ "java/lang/invoke/VarHandle" ∧ (parseMethodDescriptor yX0_moveRow.desc).map (fun d => d.parameters.length) = some 2 := by decide +kernel
theorem k_X0_moveRowS : yX0_moveRow.cls ≠ "java/lang/invoke/MethodHandle" ∧ yX0_moveRow.cls ≠ "java/lang/invoke/VarHandle" ∧ (parseMethodDescriptor yX0_moveRow.desc).map (fun d => d.parameters.length) = some 2 := k_X0_moveRow.2
set_option maxRecDepth 20000 in
theorem iX0_moveRow_0 : ∀ w ∈ wsX00, w ∈ wsX0_moveRow := by decide +kernel
set_option maxHeartbeats 4000000 in
set_option maxRecDepth 100000 in
theorem c_X0_moveRow (l : Launch) (D : va_G) (cI cC cH cL : ClassId) (b : Nat → Nat) (ro co : Int32) (di hg se ta cd cs ch sg : ZZ) (f0 : Nat) (t0 : Nat) (hf : f0 < 10) (ht : t0 < 10) : Met l yX0_moveRow wsX0_moveRow ({ frames := 0, cells := 0, slots := 0, locals := 0 }) (kw [.ref (b 0), .int (nI f0), .int (nI t0)] D (HR b cI ro di hg se ta co cd cs ch sg) (kT cI cC cH cL)) (kq D (HR b cI ro di hg se ta co cd cs ch sg) (HR b cI ro (upd di t0 (di f0)) (upd hg t0 (hg f0)) (upd se t0 (se f0)) (upd ta t0 (ta f0)) co cd cs ch sg) (.returned none)) 0 0 (kA (HR b cI ro di hg se ta co cd cs ch sg)) := by
  refine Met.ofW (cc := cX0_moveRow) (maxL := 3) (ret := none) (by decide) rfl ?_
  intro p e s m args below meth c s₁ B hml hv
  obtain ⟨rfl, hP, hK, hD0⟩ := hv
  have hx := B.exec
  have hb := B.bytes
  have hrt := B.returns
  have hts := atoms_spec (ws := wsX0_moveRow) B.pre
  have hown : s.vm.findClass RX0 = some m.cls := findClass_of_methodNamed B.named
  have hlocks := B.notSynchronized
  have hl := lv_entry ([.ref (b 0), .int (nI f0), .int (nI t0)]) (n := 3) (Nat.le_of_ble_eq_true rfl)
  rw [lg_entry_eq]
  generalize (lg_sl ([.ref (b 0), .int (nI f0), .int (nI t0)]) ++ List.replicate (3 - (lg_sl ([.ref (b 0), .int (nI f0), .int (nI t0)])).length) Slot.unset).toArray = ls at hl ⊢
  have hl : lv_has ls 3 [(0, .ref (b 0)), (1, .int (nI f0)), (2, .int (nI t0))] := hl
  have hD := kA_self hD0
  obtain ⟨w0, hw0⟩ : ∃ w : va_W, w = HR b cI ro di hg se ta co cd cs ch sg := ⟨_, rfl⟩
  have hD : va_D (kA w0) (HR b cI ro di hg se ta co cd cs ch sg) := by rw [hw0]; exact hD
  have hS : va_S (kA w0) s.heap s.heap [] := va_S.rf
  rw [show kA (HR b cI ro di hg se ta co cd cs ch sg) = kA w0 from by rw [hw0], show kq D (HR b cI ro di hg se ta co cd cs ch sg) = kq D w0 from by rw [hw0]]
  have hP : va_P D vwCl (HR b cI ro di hg se ta co cd cs ch sg) s.heap := hP
  refine lv_aload_n hx hb dX0_moveRow_0 rfl (lv_at hl 0 rfl) ?_
  refine va_get (D := D) (ci := 0) (v := .ref (b 1)) (C := RX0) (T := TX0) (N := 10) hx hb hts iX0_moveRow_0 hown hK hP 0 rfl rfl 1 (by decide) (hts (.fieldLink RX0 9 "HallSights$Hall" "distances" "[I") (List.mem_of_getElem? (i := 1) rfl)) (fun _ h9 => h9) rfl dX0_moveRow_1 ?_
  refine lv_iload_n hx hb dX0_moveRow_4 rfl (lv_at hl 2 rfl) ?_
  refine lv_aload_n hx hb dX0_moveRow_5 rfl (lv_at hl 0 rfl) ?_
  refine va_get (D := D) (ci := 0) (v := .ref (b 1)) (C := RX0) (T := TX0) (N := 10) hx hb hts iX0_moveRow_0 hown hK hP 0 rfl rfl 1 (by decide) (hts (.fieldLink RX0 9 "HallSights$Hall" "distances" "[I") (List.mem_of_getElem? (i := 1) rfl)) (fun _ h9 => h9) rfl dX0_moveRow_6 ?_
  refine lv_iload_n hx hb dX0_moveRow_9 rfl (lv_at hl 1 rfl) ?_
  refine kx_iald hx hb hK hP 1 0 rfl rfl (by omega) (by decide) dX0_moveRow_10 ?_
  refine kx_iast hx hb hK hP hD hS 1 0 rfl rfl (by omega) (by decide) dX0_moveRow_11 (fun H locs hP hD hS => ?_)
  have hP : va_P D vwCl (HR b cI ro (upd di t0 (di f0)) hg se ta co cd cs ch sg) H := hP
  have hD : va_D (kA w0) (HR b cI ro (upd di t0 (di f0)) hg se ta co cd cs ch sg) := hD
  refine lv_aload_n hx hb dX0_moveRow_12 rfl (lv_at hl 0 rfl) ?_
  refine va_get (D := D) (ci := 0) (v := .ref (b 2)) (C := RX0) (T := TX0) (N := 10) hx hb hts iX0_moveRow_0 hown hK hP 0 rfl rfl 2 (by decide) (hts (.fieldLink RX0 15 "HallSights$Hall" "heights" "[I") (List.mem_of_getElem? (i := 2) rfl)) (fun _ h9 => h9) rfl dX0_moveRow_13 ?_
  refine lv_iload_n hx hb dX0_moveRow_16 rfl (lv_at hl 2 rfl) ?_
  refine lv_aload_n hx hb dX0_moveRow_17 rfl (lv_at hl 0 rfl) ?_
  refine va_get (D := D) (ci := 0) (v := .ref (b 2)) (C := RX0) (T := TX0) (N := 10) hx hb hts iX0_moveRow_0 hown hK hP 0 rfl rfl 2 (by decide) (hts (.fieldLink RX0 15 "HallSights$Hall" "heights" "[I") (List.mem_of_getElem? (i := 2) rfl)) (fun _ h9 => h9) rfl dX0_moveRow_18 ?_
  refine lv_iload_n hx hb dX0_moveRow_21 rfl (lv_at hl 1 rfl) ?_
  refine kx_iald hx hb hK hP 2 0 rfl rfl (by omega) (by decide) dX0_moveRow_22 ?_
  refine kx_iast hx hb hK hP hD hS 2 0 rfl rfl (by omega) (by decide) dX0_moveRow_23 (fun H locs hP hD hS => ?_)
  have hP : va_P D vwCl (HR b cI ro (upd di t0 (di f0)) (upd hg t0 (hg f0)) se ta co cd cs ch sg) H := hP
  have hD : va_D (kA w0) (HR b cI ro (upd di t0 (di f0)) (upd hg t0 (hg f0)) se ta co cd cs ch sg) := hD
  refine lv_aload_n hx hb dX0_moveRow_24 rfl (lv_at hl 0 rfl) ?_
  refine va_get (D := D) (ci := 0) (v := .ref (b 3)) (C := RX0) (T := TX0) (N := 10) hx hb hts iX0_moveRow_0 hown hK hP 0 rfl rfl 3 (by decide) (hts (.fieldLink RX0 18 "HallSights$Hall" "seats" "[I") (List.mem_of_getElem? (i := 3) rfl)) (fun _ h9 => h9) rfl dX0_moveRow_25 ?_
  refine lv_iload_n hx hb dX0_moveRow_28 rfl (lv_at hl 2 rfl) ?_
  refine lv_aload_n hx hb dX0_moveRow_29 rfl (lv_at hl 0 rfl) ?_
  refine va_get (D := D) (ci := 0) (v := .ref (b 3)) (C := RX0) (T := TX0) (N := 10) hx hb hts iX0_moveRow_0 hown hK hP 0 rfl rfl 3 (by decide) (hts (.fieldLink RX0 18 "HallSights$Hall" "seats" "[I") (List.mem_of_getElem? (i := 3) rfl)) (fun _ h9 => h9) rfl dX0_moveRow_30 ?_
  refine lv_iload_n hx hb dX0_moveRow_33 rfl (lv_at hl 1 rfl) ?_
  refine kx_iald hx hb hK hP 3 0 rfl rfl (by omega) (by decide) dX0_moveRow_34 ?_
  refine kx_iast hx hb hK hP hD hS 3 0 rfl rfl (by omega) (by decide) dX0_moveRow_35 (fun H locs hP hD hS => ?_)
  have hP : va_P D vwCl (HR b cI ro (upd di t0 (di f0)) (upd hg t0 (hg f0)) (upd se t0 (se f0)) ta co cd cs ch sg) H := hP
  have hD : va_D (kA w0) (HR b cI ro (upd di t0 (di f0)) (upd hg t0 (hg f0)) (upd se t0 (se f0)) ta co cd cs ch sg) := hD
  refine lv_aload_n hx hb dX0_moveRow_36 rfl (lv_at hl 0 rfl) ?_
  refine va_get (D := D) (ci := 0) (v := .ref (b 4)) (C := RX0) (T := TX0) (N := 10) hx hb hts iX0_moveRow_0 hown hK hP 0 rfl rfl 4 (by decide) (hts (.fieldLink RX0 21 "HallSights$Hall" "taken" "[I") (List.mem_of_getElem? (i := 4) rfl)) (fun _ h9 => h9) rfl dX0_moveRow_37 ?_
  refine lv_iload_n hx hb dX0_moveRow_40 rfl (lv_at hl 2 rfl) ?_
  refine lv_aload_n hx hb dX0_moveRow_41 rfl (lv_at hl 0 rfl) ?_
  refine va_get (D := D) (ci := 0) (v := .ref (b 4)) (C := RX0) (T := TX0) (N := 10) hx hb hts iX0_moveRow_0 hown hK hP 0 rfl rfl 4 (by decide) (hts (.fieldLink RX0 21 "HallSights$Hall" "taken" "[I") (List.mem_of_getElem? (i := 4) rfl)) (fun _ h9 => h9) rfl dX0_moveRow_42 ?_
  refine lv_iload_n hx hb dX0_moveRow_45 rfl (lv_at hl 1 rfl) ?_
  refine kx_iald hx hb hK hP 4 0 rfl rfl (by omega) (by decide) dX0_moveRow_46 ?_
  refine kx_iast hx hb hK hP hD hS 4 0 rfl rfl (by omega) (by decide) dX0_moveRow_47 (fun H locs hP hD hS => ?_)
  have hP : va_P D vwCl (HR b cI ro (upd di t0 (di f0)) (upd hg t0 (hg f0)) (upd se t0 (se f0)) (upd ta t0 (ta f0)) co cd cs ch sg) H := hP
  have hD : va_D (kA w0) (HR b cI ro (upd di t0 (di f0)) (upd hg t0 (hg f0)) (upd se t0 (se f0)) (upd ta t0 (ta f0)) co cd cs ch sg) := hD
  subst hw0
  exact kq_vret hx hb hrt hlocks hP hD hS dX0_moveRow_48
set_option maxHeartbeats 4000000 in
set_option maxRecDepth 100000 in
theorem c_X0_bitsOf (l : Launch) (D : va_G) (cI cC cH cL : ClassId)  (f0 : Nat) (m0 : Nat)  : Met l yX0_bitsOf wsX0_bitsOf ({ frames := 0, cells := 0, slots := 0, locals := 0 }) (kp [.int (nI f0), .int (nI m0)] D ([]) (kT cI cC cH cL)) (kr (.returned (some (.int (bitsI f0 m0))))) 0 0 (fun _ => False) := by
  refine Met.ofW (cc := cX0_bitsOf) (maxL := 2) (ret := (some .int)) (by decide) rfl ?_
  intro p e s m args below meth c s₁ B hml hv
  obtain ⟨rfl, hP, hK⟩ := hv
  have hx := B.exec
  have hb := B.bytes
  have hrt := B.returns
  have hts := atoms_spec (ws := wsX0_bitsOf) B.pre
  have hown : s.vm.findClass RX0 = some m.cls := findClass_of_methodNamed B.named
  have hlocks := B.notSynchronized
  have hl := lv_entry ([.int (nI f0), .int (nI m0)]) (n := 2) (Nat.le_of_ble_eq_true rfl)
  rw [lg_entry_eq]
  generalize (lg_sl ([.int (nI f0), .int (nI m0)]) ++ List.replicate (2 - (lg_sl ([.int (nI f0), .int (nI m0)])).length) Slot.unset).toArray = ls at hl ⊢
  have hl : lv_has ls 2 [(0, .int (nI f0)), (1, .int (nI m0))] := hl
  refine lv_iconst (v := nI 1) hx hb dX0_bitsOf_0 (by decide) ?_
  refine lv_iload_n hx hb dX0_bitsOf_1 rfl (lv_at hl 1 rfl) ?_
  refine lv_ishl hx hb dX0_bitsOf_2 ?_
  refine lv_iconst (v := nI 1) hx hb dX0_bitsOf_3 (by decide) ?_
  refine lv_isub hx hb dX0_bitsOf_4 ?_
  refine lv_iload_n hx hb dX0_bitsOf_5 rfl (lv_at hl 0 rfl) ?_
  refine lv_ishl hx hb dX0_bitsOf_6 ?_
  have e_0 : (((((nI 1) <<< ((nI m0) &&& 31)) - (nI 1)) <<< ((nI f0) &&& 31)) : Int32) = (bitsI f0 m0) := by first | rfl | omega | (simp [bitsI, Int32.not_lt, Int32.not_le]; done) | (simp [bitsI, Int32.not_lt, Int32.not_le]; omega)
  exact kr_iret hx hb hrt hlocks e_0 rfl dX0_bitsOf_7
set_option maxRecDepth 20000 in
theorem iX0_areFree_0 : ∀ w ∈ wsX00, w ∈ wsX0_areFree := by decide +kernel
set_option maxHeartbeats 4000000 in
set_option maxRecDepth 100000 in
theorem c_X0_areFree (l : Launch) (D : va_G) (cI cC cH cL : ClassId) (b : Nat → Nat) (z : ZZ) (r0 : Nat) (f0 : Nat) (m0 : Nat) (hr : r0 < 10) : Met l yX0_areFree wsX0_areFree ({ frames := 1, cells := 0, slots := 0, locals := 21 }) (kp [.ref (b 0), .int (nI r0), .int (nI f0), .int (nI m0)] D (HW b cI z) (kT cI cC cH cL)) (kr (.returned (some (.int (bI (freeB z r0 f0 m0)))))) 0 0 (fun _ => False) := by
  refine Met.ofW (cc := cX0_areFree) (maxL := 4) (ret := (some .boolean)) (by decide) rfl ?_
  intro p e s m args below meth c s₁ B hml hv
  obtain ⟨rfl, hP, hK⟩ := hv
  have hx := B.exec
  have hb := B.bytes
  have hrt := B.returns
  have hts := atoms_spec (ws := wsX0_areFree) B.pre
  have hown : s.vm.findClass RX0 = some m.cls := findClass_of_methodNamed B.named
  have hlocks := B.notSynchronized
  have hl := lv_entry ([.ref (b 0), .int (nI r0), .int (nI f0), .int (nI m0)]) (n := 4) (Nat.le_of_ble_eq_true rfl)
  rw [lg_entry_eq]
  generalize (lg_sl ([.ref (b 0), .int (nI r0), .int (nI f0), .int (nI m0)]) ++ List.replicate (4 - (lg_sl ([.ref (b 0), .int (nI r0), .int (nI f0), .int (nI m0)])).length) Slot.unset).toArray = ls at hl ⊢
  have hl : lv_has ls 4 [(0, .ref (b 0)), (1, .int (nI r0)), (2, .int (nI f0)), (3, .int (nI m0))] := hl
  refine lv_aload_n hx hb dX0_areFree_0 rfl (lv_at hl 0 rfl) ?_
  refine va_get (D := D) (ci := 0) (v := .ref (b 4)) (C := RX0) (T := TX0) (N := 10) hx hb hts iX0_areFree_0 hown hK hP 0 rfl rfl 4 (by decide) (hts (.fieldLink RX0 21 "HallSights$Hall" "taken" "[I") (List.mem_of_getElem? (i := 1) rfl)) (fun _ h9 => h9) rfl dX0_areFree_1 ?_
  refine lv_iload_n hx hb dX0_areFree_4 rfl (lv_at hl 1 rfl) ?_
  refine kx_iald hx hb hK hP 4 0 rfl rfl (by omega) (by decide) dX0_areFree_5 ?_
  refine lv_iload_n hx hb dX0_areFree_6 rfl (lv_at hl 2 rfl) ?_
  refine lv_iload_n hx hb dX0_areFree_7 rfl (lv_at hl 3 rfl) ?_
  refine kr_S (As := [.int (nI f0), .int (nI m0)]) (rest := [.int (z (5 + 4 * r0 + 3))]) (own := RX0) ⟨hx, hb, hml, hown, hts⟩ (c_X0_bitsOf l D cI cC cH cL  f0 m0 ) (va_cwS 2 hts gX0_areFree_X0_bitsOf rfl rfl rfl k_X0_bitsOfS ⟨Nat.le_of_ble_eq_true rfl, Nat.le_of_ble_eq_true rfl⟩) (hP.sub (ws' := []) [] rfl) hK rfl hl.1 rfl (Nat.le_of_ble_eq_true rfl) dX0_areFree_8 ⟨Nat.le_of_ble_eq_true rfl, Nat.le_of_ble_eq_true rfl⟩ ?_
  refine lv_iand hx hb dX0_areFree_11 ?_
  refine lv_if_ne (tgt := 19) hx hb dX0_areFree_12 (by decide) (fun c_12_0 => ?_) (fun c_12_1 => ?_)
  · have c_12_0 : ¬ (((z (5 + 4 * r0 + 3)) &&& (bitsI f0 m0)) : Int32) = 0 := c_12_0
    refine lv_iconst (v := nI 0) hx hb dX0_areFree_19 (by decide) ?_
    have e_2 : (false : Bool) = (freeB z r0 f0 m0) := by first | rfl | omega | (simp [freeB, Int32.not_lt, Int32.not_le, c_12_0]; done) | (simp [freeB, Int32.not_lt, Int32.not_le, c_12_0]; omega) | (revert c_12_0; simp +contextual [freeB, Int32.not_lt, Int32.not_le]; done) | (revert c_12_0; simp +contextual [freeB, Int32.not_lt, Int32.not_le]; omega)
    exact kr_zret hx hb hrt hlocks (congrArg bI e_2) rfl dX0_areFree_20
  · have c_12_1 : (((z (5 + 4 * r0 + 3)) &&& (bitsI f0 m0)) : Int32) = 0 := c_12_1
    refine lv_iconst (v := nI 1) hx hb dX0_areFree_15 (by decide) ?_
    refine lv_goto (tgt := 20) hx hb dX0_areFree_16 (by decide) ?_
    have e_3 : (true : Bool) = (freeB z r0 f0 m0) := by first | rfl | omega | (simp [freeB, Int32.not_lt, Int32.not_le, c_12_1]; done) | (simp [freeB, Int32.not_lt, Int32.not_le, c_12_1]; omega) | (revert c_12_1; simp +contextual [freeB, Int32.not_lt, Int32.not_le]; done) | (revert c_12_1; simp +contextual [freeB, Int32.not_lt, Int32.not_le]; omega)
    exact kr_zret hx hb hrt hlocks (congrArg bI e_3) rfl dX0_areFree_20
set_option maxRecDepth 20000 in
theorem iX0_insertRow_0 : ∀ w ∈ wsX00, w ∈ wsX0_insertRow := by decide +kernel
set_option maxHeartbeats 4000000 in
set_option maxRecDepth 100000 in
theorem c_X0_insertRow (l : Launch) (D : va_G) (cI cC cH cL : ClassId) (b : Nat → Nat) (z : ZZ) (d0 : Int32) (h0 : Int32) (s0 : Int32) (hw : WF z) (hn : nR z < 10) : Met l yX0_insertRow wsX0_insertRow ({ frames := 1, cells := 0, slots := 0, locals := 22 }) (kw [.ref (b 0), .int d0, .int h0, .int s0] D (HW b cI z) (kT cI cC cH cL)) (kq D (HW b cI z) (HW b cI (insZ z d0 h0 s0)) (.returned (some (.int (nI (insAt z d0 (nR z))))))) 0 0 (kA (HW b cI z)) := by
  refine Met.ofW (cc := cX0_insertRow) (maxL := 5) (ret := (some .int)) (by decide) rfl ?_
  intro p e s m args below meth c s₁ B hml hv
  obtain ⟨rfl, hP, hK, hD0⟩ := hv
  have hx := B.exec
  have hb := B.bytes
  have hrt := B.returns
  have hts := atoms_spec (ws := wsX0_insertRow) B.pre
  have hown : s.vm.findClass RX0 = some m.cls := findClass_of_methodNamed B.named
  have hlocks := B.notSynchronized
  have hl := lv_entry ([.ref (b 0), .int d0, .int h0, .int s0]) (n := 5) (Nat.le_of_ble_eq_true rfl)
  rw [lg_entry_eq]
  generalize (lg_sl ([.ref (b 0), .int d0, .int h0, .int s0]) ++ List.replicate (5 - (lg_sl ([.ref (b 0), .int d0, .int h0, .int s0])).length) Slot.unset).toArray = ls at hl ⊢
  have hl : lv_has ls 5 [(0, .ref (b 0)), (1, .int d0), (2, .int h0), (3, .int s0)] := hl
  have hD := kA_self hD0
  obtain ⟨w0, hw0⟩ : ∃ w : va_W, w = HW b cI z := ⟨_, rfl⟩
  have hD : va_D (kA w0) (HW b cI z) := by rw [hw0]; exact hD
  have hS : va_S (kA w0) s.heap s.heap [] := va_S.rf
  rw [show kA (HW b cI z) = kA w0 from by rw [hw0], show kq D (HW b cI z) = kq D w0 from by rw [hw0]]
  have hP : va_P D vwCl (HW b cI z) s.heap := hP
  have hR10 := wf_R10 hw
  have hC4 := wf_C4 hw
  refine lv_aload_n hx hb dX0_insertRow_0 rfl (lv_at hl 0 rfl) ?_
  refine va_get (D := D) (ci := 0) (v := .int (z 3)) (C := RX0) (T := TX0) (N := 10) hx hb hts iX0_insertRow_0 hown hK hP 0 rfl rfl 0 (by decide) (hts (.fieldLink RX0 36 "HallSights$Hall" "rows" "I") (List.mem_of_getElem? (i := 1) rfl)) (fun _ h9 => h9) rfl dX0_insertRow_1 ?_
  refine kx_top (wf_R hw) ?_
  refine lv_istore (lv' := [(4, .int (nI (nR z))), (0, .ref (b 0)), (1, .int d0), (2, .int h0), (3, .int s0)]) hx hb dX0_insertRow_4 hl (by decide) rfl (fun ls hl => ?_)
  have e6_0 : (nR z : Nat) = ((nR z)) := by first | rfl | omega | (simp [Int32.not_lt, Int32.not_le]; done) | (simp [Int32.not_lt, Int32.not_le]; omega)
  have hl6_1 : lv_has ls 5 [(0, .ref (b 0)), (1, .int d0), (2, .int h0), (3, .int s0), (4, .int (nI (nR z)))] := lv_eqv (l1 := [(0, .ref (b 0)), (1, .int d0), (2, .int h0), (3, .int s0), (4, .int (nI (nR z)))]) (lv_sub hl [1, 2, 3, 4, 0] rfl) (lv_ce rfl (lv_ce rfl (lv_ce rfl (lv_ce rfl (lv_ce (congrArg (fun x => Value.int (nI x)) e6_0) rfl)))))
  have ec_di_2 : ((fun j => z (5 + 4 * j)) : ZZ) = (shA (fun j => z (5 + 4 * j)) (nR z) (nR z)) := by funext jj; simp only [shA]; rw [if_neg (by omega)]
  have ec_hg_3 : ((fun j => z (5 + 4 * j + 1)) : ZZ) = (shA (fun j => z (5 + 4 * j + 1)) (nR z) (nR z)) := by funext jj; simp only [shA]; rw [if_neg (by omega)]
  have ec_se_4 : ((fun j => z (5 + 4 * j + 2)) : ZZ) = (shA (fun j => z (5 + 4 * j + 2)) (nR z) (nR z)) := by funext jj; simp only [shA]; rw [if_neg (by omega)]
  have ec_ta_5 : ((fun j => z (5 + 4 * j + 3)) : ZZ) = (shA (fun j => z (5 + 4 * j + 3)) (nR z) (nR z)) := by funext jj; simp only [shA]; rw [if_neg (by omega)]
  have ew_6 : (HW b cI z : va_W) = (HR b cI (z 3) (shA (fun j => z (5 + 4 * j)) (nR z) (nR z)) (shA (fun j => z (5 + 4 * j + 1)) (nR z) (nR z)) (shA (fun j => z (5 + 4 * j + 2)) (nR z) (nR z)) (shA (fun j => z (5 + 4 * j + 3)) (nR z) (nR z)) (z 4) (fun j => z (45 + 3 * j)) (fun j => z (45 + 3 * j + 1)) (fun j => z (45 + 3 * j + 2)) z) := hr_c rfl ec_di_2 ec_hg_3 ec_se_4 ec_ta_5 rfl rfl rfl rfl rfl
  rw [ew_6] at hP hD
  refine kx_dnW (fun k H locs ls => (va_P D vwCl (HR b cI (z 3) (shA (fun j => z (5 + 4 * j)) k (nR z)) (shA (fun j => z (5 + 4 * j + 1)) k (nR z)) (shA (fun j => z (5 + 4 * j + 2)) k (nR z)) (shA (fun j => z (5 + 4 * j + 3)) k (nR z)) (z 4) (fun j => z (45 + 3 * j)) (fun j => z (45 + 3 * j + 1)) (fun j => z (45 + 3 * j + 2)) z) H ∧ va_D (kA w0) (HR b cI (z 3) (shA (fun j => z (5 + 4 * j)) k (nR z)) (shA (fun j => z (5 + 4 * j + 1)) k (nR z)) (shA (fun j => z (5 + 4 * j + 2)) k (nR z)) (shA (fun j => z (5 + 4 * j + 3)) k (nR z)) (z 4) (fun j => z (45 + 3 * j)) (fun j => z (45 + 3 * j + 1)) (fun j => z (45 + 3 * j + 2)) z) ∧ va_S (kA w0) s.heap H locs) ∧ lv_has ls 5 [(0, .ref (b 0)), (1, .int d0), (2, .int h0), (3, .int s0), (4, .int (nI k))] ∧ (insAt z d0 (nR z) = insAt z d0 k)) (0) (nR z) (by omega) _ _ ls ⟨⟨hP, hD, hS⟩, ⟨hl6_1, rfl⟩⟩ ?_
  clear hP hD hS
  intro ik H locs ls hikl hikh hp ih6
  obtain ⟨⟨hP, hD, hS⟩, hp⟩ := hp
  obtain ⟨hl, hinv6⟩ := hp
  refine lv_iload hx hb dX0_insertRow_6 (lv_at hl 4 rfl) ?_
  refine kx_if_le (tgt := 40) hx hb (by omega) dX0_insertRow_8 (by decide) (fun c_8_7 => ?_) (fun c_8_8 => ?_)
  · have qk : insAt z d0 (nR z) = ik := by first | exact hinv6.trans (insAt_0 (by omega)) | exact hinv6.trans (insAt_le (by omega) (by assumption))
    refine lv_aload_n hx hb dX0_insertRow_40 rfl (lv_at hl 0 rfl) ?_
    refine va_get (D := D) (ci := 0) (v := .ref (b 1)) (C := RX0) (T := TX0) (N := 10) hx hb hts iX0_insertRow_0 hown hK hP 0 rfl rfl 1 (by decide) (hts (.fieldLink RX0 9 "HallSights$Hall" "distances" "[I") (List.mem_of_getElem? (i := 2) rfl)) (fun _ h9 => h9) rfl dX0_insertRow_41 ?_
    refine lv_iload hx hb dX0_insertRow_44 (lv_at hl 4 rfl) ?_
    refine lv_iload_n hx hb dX0_insertRow_46 rfl (lv_at hl 1 rfl) ?_
    refine kx_iast hx hb hK hP hD hS 1 0 rfl rfl (by omega) (by decide) dX0_insertRow_47 (fun H locs hP hD hS => ?_)
    have hP : va_P D vwCl (HR b cI (z 3) (upd (shA (fun j => z (5 + 4 * j)) ik (nR z)) ik d0) (shA (fun j => z (5 + 4 * j + 1)) ik (nR z)) (shA (fun j => z (5 + 4 * j + 2)) ik (nR z)) (shA (fun j => z (5 + 4 * j + 3)) ik (nR z)) (z 4) (fun j => z (45 + 3 * j)) (fun j => z (45 + 3 * j + 1)) (fun j => z (45 + 3 * j + 2)) z) H := hP
    have hD : va_D (kA w0) (HR b cI (z 3) (upd (shA (fun j => z (5 + 4 * j)) ik (nR z)) ik d0) (shA (fun j => z (5 + 4 * j + 1)) ik (nR z)) (shA (fun j => z (5 + 4 * j + 2)) ik (nR z)) (shA (fun j => z (5 + 4 * j + 3)) ik (nR z)) (z 4) (fun j => z (45 + 3 * j)) (fun j => z (45 + 3 * j + 1)) (fun j => z (45 + 3 * j + 2)) z) := hD
    refine lv_aload_n hx hb dX0_insertRow_48 rfl (lv_at hl 0 rfl) ?_
    refine va_get (D := D) (ci := 0) (v := .ref (b 2)) (C := RX0) (T := TX0) (N := 10) hx hb hts iX0_insertRow_0 hown hK hP 0 rfl rfl 2 (by decide) (hts (.fieldLink RX0 15 "HallSights$Hall" "heights" "[I") (List.mem_of_getElem? (i := 3) rfl)) (fun _ h9 => h9) rfl dX0_insertRow_49 ?_
    refine lv_iload hx hb dX0_insertRow_52 (lv_at hl 4 rfl) ?_
    refine lv_iload_n hx hb dX0_insertRow_54 rfl (lv_at hl 2 rfl) ?_
    refine kx_iast hx hb hK hP hD hS 2 0 rfl rfl (by omega) (by decide) dX0_insertRow_55 (fun H locs hP hD hS => ?_)
    have hP : va_P D vwCl (HR b cI (z 3) (upd (shA (fun j => z (5 + 4 * j)) ik (nR z)) ik d0) (upd (shA (fun j => z (5 + 4 * j + 1)) ik (nR z)) ik h0) (shA (fun j => z (5 + 4 * j + 2)) ik (nR z)) (shA (fun j => z (5 + 4 * j + 3)) ik (nR z)) (z 4) (fun j => z (45 + 3 * j)) (fun j => z (45 + 3 * j + 1)) (fun j => z (45 + 3 * j + 2)) z) H := hP
    have hD : va_D (kA w0) (HR b cI (z 3) (upd (shA (fun j => z (5 + 4 * j)) ik (nR z)) ik d0) (upd (shA (fun j => z (5 + 4 * j + 1)) ik (nR z)) ik h0) (shA (fun j => z (5 + 4 * j + 2)) ik (nR z)) (shA (fun j => z (5 + 4 * j + 3)) ik (nR z)) (z 4) (fun j => z (45 + 3 * j)) (fun j => z (45 + 3 * j + 1)) (fun j => z (45 + 3 * j + 2)) z) := hD
    refine lv_aload_n hx hb dX0_insertRow_56 rfl (lv_at hl 0 rfl) ?_
    refine va_get (D := D) (ci := 0) (v := .ref (b 3)) (C := RX0) (T := TX0) (N := 10) hx hb hts iX0_insertRow_0 hown hK hP 0 rfl rfl 3 (by decide) (hts (.fieldLink RX0 18 "HallSights$Hall" "seats" "[I") (List.mem_of_getElem? (i := 4) rfl)) (fun _ h9 => h9) rfl dX0_insertRow_57 ?_
    refine lv_iload hx hb dX0_insertRow_60 (lv_at hl 4 rfl) ?_
    refine lv_iload_n hx hb dX0_insertRow_62 rfl (lv_at hl 3 rfl) ?_
    refine kx_iast hx hb hK hP hD hS 3 0 rfl rfl (by omega) (by decide) dX0_insertRow_63 (fun H locs hP hD hS => ?_)
    have hP : va_P D vwCl (HR b cI (z 3) (upd (shA (fun j => z (5 + 4 * j)) ik (nR z)) ik d0) (upd (shA (fun j => z (5 + 4 * j + 1)) ik (nR z)) ik h0) (upd (shA (fun j => z (5 + 4 * j + 2)) ik (nR z)) ik s0) (shA (fun j => z (5 + 4 * j + 3)) ik (nR z)) (z 4) (fun j => z (45 + 3 * j)) (fun j => z (45 + 3 * j + 1)) (fun j => z (45 + 3 * j + 2)) z) H := hP
    have hD : va_D (kA w0) (HR b cI (z 3) (upd (shA (fun j => z (5 + 4 * j)) ik (nR z)) ik d0) (upd (shA (fun j => z (5 + 4 * j + 1)) ik (nR z)) ik h0) (upd (shA (fun j => z (5 + 4 * j + 2)) ik (nR z)) ik s0) (shA (fun j => z (5 + 4 * j + 3)) ik (nR z)) (z 4) (fun j => z (45 + 3 * j)) (fun j => z (45 + 3 * j + 1)) (fun j => z (45 + 3 * j + 2)) z) := hD
    refine lv_aload_n hx hb dX0_insertRow_64 rfl (lv_at hl 0 rfl) ?_
    refine va_get (D := D) (ci := 0) (v := .ref (b 4)) (C := RX0) (T := TX0) (N := 10) hx hb hts iX0_insertRow_0 hown hK hP 0 rfl rfl 4 (by decide) (hts (.fieldLink RX0 21 "HallSights$Hall" "taken" "[I") (List.mem_of_getElem? (i := 5) rfl)) (fun _ h9 => h9) rfl dX0_insertRow_65 ?_
    refine lv_iload hx hb dX0_insertRow_68 (lv_at hl 4 rfl) ?_
    refine lv_iconst (v := nI 0) hx hb dX0_insertRow_70 (by decide) ?_
    refine kx_iast hx hb hK hP hD hS 4 0 rfl rfl (by omega) (by decide) dX0_insertRow_71 (fun H locs hP hD hS => ?_)
    have hP : va_P D vwCl (HR b cI (z 3) (upd (shA (fun j => z (5 + 4 * j)) ik (nR z)) ik d0) (upd (shA (fun j => z (5 + 4 * j + 1)) ik (nR z)) ik h0) (upd (shA (fun j => z (5 + 4 * j + 2)) ik (nR z)) ik s0) (upd (shA (fun j => z (5 + 4 * j + 3)) ik (nR z)) ik (nI 0)) (z 4) (fun j => z (45 + 3 * j)) (fun j => z (45 + 3 * j + 1)) (fun j => z (45 + 3 * j + 2)) z) H := hP
    have hD : va_D (kA w0) (HR b cI (z 3) (upd (shA (fun j => z (5 + 4 * j)) ik (nR z)) ik d0) (upd (shA (fun j => z (5 + 4 * j + 1)) ik (nR z)) ik h0) (upd (shA (fun j => z (5 + 4 * j + 2)) ik (nR z)) ik s0) (upd (shA (fun j => z (5 + 4 * j + 3)) ik (nR z)) ik (nI 0)) (z 4) (fun j => z (45 + 3 * j)) (fun j => z (45 + 3 * j + 1)) (fun j => z (45 + 3 * j + 2)) z) := hD
    refine lv_aload_n hx hb dX0_insertRow_72 rfl (lv_at hl 0 rfl) ?_
    refine lv_dup hx hb dX0_insertRow_73 rfl ?_
    refine va_get (D := D) (ci := 0) (v := .int (z 3)) (C := RX0) (T := TX0) (N := 10) hx hb hts iX0_insertRow_0 hown hK hP 0 rfl rfl 0 (by decide) (hts (.fieldLink RX0 36 "HallSights$Hall" "rows" "I") (List.mem_of_getElem? (i := 1) rfl)) (fun _ h9 => h9) rfl dX0_insertRow_74 ?_
    refine kx_top (wf_R hw) ?_
    refine lv_iconst (v := nI 1) hx hb dX0_insertRow_77 (by decide) ?_
    refine kx_iadd hx hb dX0_insertRow_78 ?_
    refine va_put (D := D) (ci := 0) (v := .int (nI ((nR z) + 1))) (ty := .int) (C := RX0) (T := TX0) (N := 10) hx hb hts iX0_insertRow_0 tyX0 tyX0_ok nmX0 hown hK hP hD hS 0 rfl rfl 0 (by decide) (hts (.fieldLink RX0 36 "HallSights$Hall" "rows" "I") (List.mem_of_getElem? (i := 1) rfl)) (fun _ h9 => h9) rfl (by decide +kernel) rfl rfl (Nat.le_of_ble_eq_true rfl) dX0_insertRow_79 (fun H locs hP hD hS => ?_)
    have hP : va_P D vwCl (HR b cI (nI ((nR z) + 1)) (upd (shA (fun j => z (5 + 4 * j)) ik (nR z)) ik d0) (upd (shA (fun j => z (5 + 4 * j + 1)) ik (nR z)) ik h0) (upd (shA (fun j => z (5 + 4 * j + 2)) ik (nR z)) ik s0) (upd (shA (fun j => z (5 + 4 * j + 3)) ik (nR z)) ik (nI 0)) (z 4) (fun j => z (45 + 3 * j)) (fun j => z (45 + 3 * j + 1)) (fun j => z (45 + 3 * j + 2)) z) H := hP
    have hD : va_D (kA w0) (HR b cI (nI ((nR z) + 1)) (upd (shA (fun j => z (5 + 4 * j)) ik (nR z)) ik d0) (upd (shA (fun j => z (5 + 4 * j + 1)) ik (nR z)) ik h0) (upd (shA (fun j => z (5 + 4 * j + 2)) ik (nR z)) ik s0) (upd (shA (fun j => z (5 + 4 * j + 3)) ik (nR z)) ik (nI 0)) (z 4) (fun j => z (45 + 3 * j)) (fun j => z (45 + 3 * j + 1)) (fun j => z (45 + 3 * j + 2)) z) := hD
    refine lv_iload hx hb dX0_insertRow_82 (lv_at hl 4 rfl) ?_
    have e_9 : (ik : Nat) = (insAt z d0 (nR z)) := by exact qk.symm
    have h_ro_10 : (nI ((nR z) + 1) : Int32) = (insZ z d0 h0 s0) 3 := by exact (ins_3 _ _ _).symm
    have h_di_11 : ∀ j, j < 10 → ((upd (shA (fun j => z (5 + 4 * j)) ik (nR z)) ik d0) : ZZ) j = ((fun j => (insZ z d0 h0 s0) (5 + 4 * j)) : ZZ) j := by intro j hj; rw [← qk]; exact ins_row (w := 0) hn hj (by omega) _ rfl
    have h_hg_12 : ∀ j, j < 10 → ((upd (shA (fun j => z (5 + 4 * j + 1)) ik (nR z)) ik h0) : ZZ) j = ((fun j => (insZ z d0 h0 s0) (5 + 4 * j + 1)) : ZZ) j := by intro j hj; rw [← qk]; exact ins_row (w := 1) hn hj (by omega) _ rfl
    have h_se_13 : ∀ j, j < 10 → ((upd (shA (fun j => z (5 + 4 * j + 2)) ik (nR z)) ik s0) : ZZ) j = ((fun j => (insZ z d0 h0 s0) (5 + 4 * j + 2)) : ZZ) j := by intro j hj; rw [← qk]; exact ins_row (w := 2) hn hj (by omega) _ rfl
    have h_ta_14 : ∀ j, j < 10 → ((upd (shA (fun j => z (5 + 4 * j + 3)) ik (nR z)) ik (nI 0)) : ZZ) j = ((fun j => (insZ z d0 h0 s0) (5 + 4 * j + 3)) : ZZ) j := by intro j hj; rw [← qk]; exact ins_row (w := 3) hn hj (by omega) _ rfl
    have h_co_15 : (z 4 : Int32) = (insZ z d0 h0 s0) 4 := by exact (ins_hi hn (by omega)).symm
    have h_cd_16 : ∀ j, j < 4 → ((fun j => z (45 + 3 * j)) : ZZ) j = ((fun j => (insZ z d0 h0 s0) (45 + 3 * j)) : ZZ) j := by intro j hj; exact (ins_hi hn (by omega)).symm
    have h_cs_17 : ∀ j, j < 4 → ((fun j => z (45 + 3 * j + 1)) : ZZ) j = ((fun j => (insZ z d0 h0 s0) (45 + 3 * j + 1)) : ZZ) j := by intro j hj; exact (ins_hi hn (by omega)).symm
    have h_ch_18 : ∀ j, j < 4 → ((fun j => z (45 + 3 * j + 2)) : ZZ) j = ((fun j => (insZ z d0 h0 s0) (45 + 3 * j + 2)) : ZZ) j := by intro j hj; exact (ins_hi hn (by omega)).symm
    have h_sg_19 : ∀ j, j < 3 → (z : ZZ) j = ((insZ z d0 h0 s0) : ZZ) j := by intro j hj; exact (ins_hi hn (by omega)).symm
    have hP := hw_ext hP _ _ _ _ _ _ _ _ h_ro_10 h_di_11 h_hg_12 h_se_13 h_ta_14 h_co_15 h_cd_16 h_cs_17 h_ch_18 h_sg_19
    have hP : va_P D vwCl (HW b cI (insZ z d0 h0 s0)) H := hP
    have hD : va_D (kA w0) (HW b cI (insZ z d0 h0 s0)) := vaD_x hD rfl
    subst hw0
    exact kq_iret hx hb hrt hlocks (congrArg nI e_9) hP hD hS dX0_insertRow_84
  · refine lv_aload_n hx hb dX0_insertRow_11 rfl (lv_at hl 0 rfl) ?_
    refine va_get (D := D) (ci := 0) (v := .ref (b 1)) (C := RX0) (T := TX0) (N := 10) hx hb hts iX0_insertRow_0 hown hK hP 0 rfl rfl 1 (by decide) (hts (.fieldLink RX0 9 "HallSights$Hall" "distances" "[I") (List.mem_of_getElem? (i := 2) rfl)) (fun _ h9 => h9) rfl dX0_insertRow_12 ?_
    refine lv_iload hx hb dX0_insertRow_15 (lv_at hl 4 rfl) ?_
    refine lv_iconst (v := nI 1) hx hb dX0_insertRow_17 (by decide) ?_
    refine kx_isub hx hb (by omega) dX0_insertRow_18 ?_
    refine kx_iald hx hb hK hP 1 0 rfl rfl (by omega) (by decide) dX0_insertRow_19 ?_
    refine kx_top (show ((shA (fun j => z (5 + 4 * j)) ik (nR z)) (ik - 1) : Int32) = z (5 + 4 * (ik - 1)) from by (unfold shA; rw [if_neg (by omega)])) ?_
    refine lv_iload_n hx hb dX0_insertRow_20 rfl (lv_at hl 1 rfl) ?_
    refine lv_icmp_le (tgt := 40) hx hb dX0_insertRow_21 (by decide) (fun c_21_20 => ?_) (fun c_21_21 => ?_)
    · have c_21_20 : ((z (5 + 4 * (ik - 1))) : Int32) ≤ d0 := c_21_20
      have qk : insAt z d0 (nR z) = ik := by first | exact hinv6.trans (insAt_0 (by omega)) | exact hinv6.trans (insAt_le (by omega) (by assumption))
      refine lv_aload_n hx hb dX0_insertRow_40 rfl (lv_at hl 0 rfl) ?_
      refine va_get (D := D) (ci := 0) (v := .ref (b 1)) (C := RX0) (T := TX0) (N := 10) hx hb hts iX0_insertRow_0 hown hK hP 0 rfl rfl 1 (by decide) (hts (.fieldLink RX0 9 "HallSights$Hall" "distances" "[I") (List.mem_of_getElem? (i := 2) rfl)) (fun _ h9 => h9) rfl dX0_insertRow_41 ?_
      refine lv_iload hx hb dX0_insertRow_44 (lv_at hl 4 rfl) ?_
      refine lv_iload_n hx hb dX0_insertRow_46 rfl (lv_at hl 1 rfl) ?_
      refine kx_iast hx hb hK hP hD hS 1 0 rfl rfl (by omega) (by decide) dX0_insertRow_47 (fun H locs hP hD hS => ?_)
      have hP : va_P D vwCl (HR b cI (z 3) (upd (shA (fun j => z (5 + 4 * j)) ik (nR z)) ik d0) (shA (fun j => z (5 + 4 * j + 1)) ik (nR z)) (shA (fun j => z (5 + 4 * j + 2)) ik (nR z)) (shA (fun j => z (5 + 4 * j + 3)) ik (nR z)) (z 4) (fun j => z (45 + 3 * j)) (fun j => z (45 + 3 * j + 1)) (fun j => z (45 + 3 * j + 2)) z) H := hP
      have hD : va_D (kA w0) (HR b cI (z 3) (upd (shA (fun j => z (5 + 4 * j)) ik (nR z)) ik d0) (shA (fun j => z (5 + 4 * j + 1)) ik (nR z)) (shA (fun j => z (5 + 4 * j + 2)) ik (nR z)) (shA (fun j => z (5 + 4 * j + 3)) ik (nR z)) (z 4) (fun j => z (45 + 3 * j)) (fun j => z (45 + 3 * j + 1)) (fun j => z (45 + 3 * j + 2)) z) := hD
      refine lv_aload_n hx hb dX0_insertRow_48 rfl (lv_at hl 0 rfl) ?_
      refine va_get (D := D) (ci := 0) (v := .ref (b 2)) (C := RX0) (T := TX0) (N := 10) hx hb hts iX0_insertRow_0 hown hK hP 0 rfl rfl 2 (by decide) (hts (.fieldLink RX0 15 "HallSights$Hall" "heights" "[I") (List.mem_of_getElem? (i := 3) rfl)) (fun _ h9 => h9) rfl dX0_insertRow_49 ?_
      refine lv_iload hx hb dX0_insertRow_52 (lv_at hl 4 rfl) ?_
      refine lv_iload_n hx hb dX0_insertRow_54 rfl (lv_at hl 2 rfl) ?_
      refine kx_iast hx hb hK hP hD hS 2 0 rfl rfl (by omega) (by decide) dX0_insertRow_55 (fun H locs hP hD hS => ?_)
      have hP : va_P D vwCl (HR b cI (z 3) (upd (shA (fun j => z (5 + 4 * j)) ik (nR z)) ik d0) (upd (shA (fun j => z (5 + 4 * j + 1)) ik (nR z)) ik h0) (shA (fun j => z (5 + 4 * j + 2)) ik (nR z)) (shA (fun j => z (5 + 4 * j + 3)) ik (nR z)) (z 4) (fun j => z (45 + 3 * j)) (fun j => z (45 + 3 * j + 1)) (fun j => z (45 + 3 * j + 2)) z) H := hP
      have hD : va_D (kA w0) (HR b cI (z 3) (upd (shA (fun j => z (5 + 4 * j)) ik (nR z)) ik d0) (upd (shA (fun j => z (5 + 4 * j + 1)) ik (nR z)) ik h0) (shA (fun j => z (5 + 4 * j + 2)) ik (nR z)) (shA (fun j => z (5 + 4 * j + 3)) ik (nR z)) (z 4) (fun j => z (45 + 3 * j)) (fun j => z (45 + 3 * j + 1)) (fun j => z (45 + 3 * j + 2)) z) := hD
      refine lv_aload_n hx hb dX0_insertRow_56 rfl (lv_at hl 0 rfl) ?_
      refine va_get (D := D) (ci := 0) (v := .ref (b 3)) (C := RX0) (T := TX0) (N := 10) hx hb hts iX0_insertRow_0 hown hK hP 0 rfl rfl 3 (by decide) (hts (.fieldLink RX0 18 "HallSights$Hall" "seats" "[I") (List.mem_of_getElem? (i := 4) rfl)) (fun _ h9 => h9) rfl dX0_insertRow_57 ?_
      refine lv_iload hx hb dX0_insertRow_60 (lv_at hl 4 rfl) ?_
      refine lv_iload_n hx hb dX0_insertRow_62 rfl (lv_at hl 3 rfl) ?_
      refine kx_iast hx hb hK hP hD hS 3 0 rfl rfl (by omega) (by decide) dX0_insertRow_63 (fun H locs hP hD hS => ?_)
      have hP : va_P D vwCl (HR b cI (z 3) (upd (shA (fun j => z (5 + 4 * j)) ik (nR z)) ik d0) (upd (shA (fun j => z (5 + 4 * j + 1)) ik (nR z)) ik h0) (upd (shA (fun j => z (5 + 4 * j + 2)) ik (nR z)) ik s0) (shA (fun j => z (5 + 4 * j + 3)) ik (nR z)) (z 4) (fun j => z (45 + 3 * j)) (fun j => z (45 + 3 * j + 1)) (fun j => z (45 + 3 * j + 2)) z) H := hP
      have hD : va_D (kA w0) (HR b cI (z 3) (upd (shA (fun j => z (5 + 4 * j)) ik (nR z)) ik d0) (upd (shA (fun j => z (5 + 4 * j + 1)) ik (nR z)) ik h0) (upd (shA (fun j => z (5 + 4 * j + 2)) ik (nR z)) ik s0) (shA (fun j => z (5 + 4 * j + 3)) ik (nR z)) (z 4) (fun j => z (45 + 3 * j)) (fun j => z (45 + 3 * j + 1)) (fun j => z (45 + 3 * j + 2)) z) := hD
      refine lv_aload_n hx hb dX0_insertRow_64 rfl (lv_at hl 0 rfl) ?_
      refine va_get (D := D) (ci := 0) (v := .ref (b 4)) (C := RX0) (T := TX0) (N := 10) hx hb hts iX0_insertRow_0 hown hK hP 0 rfl rfl 4 (by decide) (hts (.fieldLink RX0 21 "HallSights$Hall" "taken" "[I") (List.mem_of_getElem? (i := 5) rfl)) (fun _ h9 => h9) rfl dX0_insertRow_65 ?_
      refine lv_iload hx hb dX0_insertRow_68 (lv_at hl 4 rfl) ?_
      refine lv_iconst (v := nI 0) hx hb dX0_insertRow_70 (by decide) ?_
      refine kx_iast hx hb hK hP hD hS 4 0 rfl rfl (by omega) (by decide) dX0_insertRow_71 (fun H locs hP hD hS => ?_)
      have hP : va_P D vwCl (HR b cI (z 3) (upd (shA (fun j => z (5 + 4 * j)) ik (nR z)) ik d0) (upd (shA (fun j => z (5 + 4 * j + 1)) ik (nR z)) ik h0) (upd (shA (fun j => z (5 + 4 * j + 2)) ik (nR z)) ik s0) (upd (shA (fun j => z (5 + 4 * j + 3)) ik (nR z)) ik (nI 0)) (z 4) (fun j => z (45 + 3 * j)) (fun j => z (45 + 3 * j + 1)) (fun j => z (45 + 3 * j + 2)) z) H := hP
      have hD : va_D (kA w0) (HR b cI (z 3) (upd (shA (fun j => z (5 + 4 * j)) ik (nR z)) ik d0) (upd (shA (fun j => z (5 + 4 * j + 1)) ik (nR z)) ik h0) (upd (shA (fun j => z (5 + 4 * j + 2)) ik (nR z)) ik s0) (upd (shA (fun j => z (5 + 4 * j + 3)) ik (nR z)) ik (nI 0)) (z 4) (fun j => z (45 + 3 * j)) (fun j => z (45 + 3 * j + 1)) (fun j => z (45 + 3 * j + 2)) z) := hD
      refine lv_aload_n hx hb dX0_insertRow_72 rfl (lv_at hl 0 rfl) ?_
      refine lv_dup hx hb dX0_insertRow_73 rfl ?_
      refine va_get (D := D) (ci := 0) (v := .int (z 3)) (C := RX0) (T := TX0) (N := 10) hx hb hts iX0_insertRow_0 hown hK hP 0 rfl rfl 0 (by decide) (hts (.fieldLink RX0 36 "HallSights$Hall" "rows" "I") (List.mem_of_getElem? (i := 1) rfl)) (fun _ h9 => h9) rfl dX0_insertRow_74 ?_
      refine kx_top (wf_R hw) ?_
      refine lv_iconst (v := nI 1) hx hb dX0_insertRow_77 (by decide) ?_
      refine kx_iadd hx hb dX0_insertRow_78 ?_
      refine va_put (D := D) (ci := 0) (v := .int (nI ((nR z) + 1))) (ty := .int) (C := RX0) (T := TX0) (N := 10) hx hb hts iX0_insertRow_0 tyX0 tyX0_ok nmX0 hown hK hP hD hS 0 rfl rfl 0 (by decide) (hts (.fieldLink RX0 36 "HallSights$Hall" "rows" "I") (List.mem_of_getElem? (i := 1) rfl)) (fun _ h9 => h9) rfl (by decide +kernel) rfl rfl (Nat.le_of_ble_eq_true rfl) dX0_insertRow_79 (fun H locs hP hD hS => ?_)
      have hP : va_P D vwCl (HR b cI (nI ((nR z) + 1)) (upd (shA (fun j => z (5 + 4 * j)) ik (nR z)) ik d0) (upd (shA (fun j => z (5 + 4 * j + 1)) ik (nR z)) ik h0) (upd (shA (fun j => z (5 + 4 * j + 2)) ik (nR z)) ik s0) (upd (shA (fun j => z (5 + 4 * j + 3)) ik (nR z)) ik (nI 0)) (z 4) (fun j => z (45 + 3 * j)) (fun j => z (45 + 3 * j + 1)) (fun j => z (45 + 3 * j + 2)) z) H := hP
      have hD : va_D (kA w0) (HR b cI (nI ((nR z) + 1)) (upd (shA (fun j => z (5 + 4 * j)) ik (nR z)) ik d0) (upd (shA (fun j => z (5 + 4 * j + 1)) ik (nR z)) ik h0) (upd (shA (fun j => z (5 + 4 * j + 2)) ik (nR z)) ik s0) (upd (shA (fun j => z (5 + 4 * j + 3)) ik (nR z)) ik (nI 0)) (z 4) (fun j => z (45 + 3 * j)) (fun j => z (45 + 3 * j + 1)) (fun j => z (45 + 3 * j + 2)) z) := hD
      refine lv_iload hx hb dX0_insertRow_82 (lv_at hl 4 rfl) ?_
      have e_22 : (ik : Nat) = (insAt z d0 (nR z)) := by exact qk.symm
      have h_ro_23 : (nI ((nR z) + 1) : Int32) = (insZ z d0 h0 s0) 3 := by exact (ins_3 _ _ _).symm
      have h_di_24 : ∀ j, j < 10 → ((upd (shA (fun j => z (5 + 4 * j)) ik (nR z)) ik d0) : ZZ) j = ((fun j => (insZ z d0 h0 s0) (5 + 4 * j)) : ZZ) j := by intro j hj; rw [← qk]; exact ins_row (w := 0) hn hj (by omega) _ rfl
      have h_hg_25 : ∀ j, j < 10 → ((upd (shA (fun j => z (5 + 4 * j + 1)) ik (nR z)) ik h0) : ZZ) j = ((fun j => (insZ z d0 h0 s0) (5 + 4 * j + 1)) : ZZ) j := by intro j hj; rw [← qk]; exact ins_row (w := 1) hn hj (by omega) _ rfl
      have h_se_26 : ∀ j, j < 10 → ((upd (shA (fun j => z (5 + 4 * j + 2)) ik (nR z)) ik s0) : ZZ) j = ((fun j => (insZ z d0 h0 s0) (5 + 4 * j + 2)) : ZZ) j := by intro j hj; rw [← qk]; exact ins_row (w := 2) hn hj (by omega) _ rfl
      have h_ta_27 : ∀ j, j < 10 → ((upd (shA (fun j => z (5 + 4 * j + 3)) ik (nR z)) ik (nI 0)) : ZZ) j = ((fun j => (insZ z d0 h0 s0) (5 + 4 * j + 3)) : ZZ) j := by intro j hj; rw [← qk]; exact ins_row (w := 3) hn hj (by omega) _ rfl
      have h_co_28 : (z 4 : Int32) = (insZ z d0 h0 s0) 4 := by exact (ins_hi hn (by omega)).symm
      have h_cd_29 : ∀ j, j < 4 → ((fun j => z (45 + 3 * j)) : ZZ) j = ((fun j => (insZ z d0 h0 s0) (45 + 3 * j)) : ZZ) j := by intro j hj; exact (ins_hi hn (by omega)).symm
      have h_cs_30 : ∀ j, j < 4 → ((fun j => z (45 + 3 * j + 1)) : ZZ) j = ((fun j => (insZ z d0 h0 s0) (45 + 3 * j + 1)) : ZZ) j := by intro j hj; exact (ins_hi hn (by omega)).symm
      have h_ch_31 : ∀ j, j < 4 → ((fun j => z (45 + 3 * j + 2)) : ZZ) j = ((fun j => (insZ z d0 h0 s0) (45 + 3 * j + 2)) : ZZ) j := by intro j hj; exact (ins_hi hn (by omega)).symm
      have h_sg_32 : ∀ j, j < 3 → (z : ZZ) j = ((insZ z d0 h0 s0) : ZZ) j := by intro j hj; exact (ins_hi hn (by omega)).symm
      have hP := hw_ext hP _ _ _ _ _ _ _ _ h_ro_23 h_di_24 h_hg_25 h_se_26 h_ta_27 h_co_28 h_cd_29 h_cs_30 h_ch_31 h_sg_32
      have hP : va_P D vwCl (HW b cI (insZ z d0 h0 s0)) H := hP
      have hD : va_D (kA w0) (HW b cI (insZ z d0 h0 s0)) := vaD_x hD rfl
      subst hw0
      exact kq_iret hx hb hrt hlocks (congrArg nI e_22) hP hD hS dX0_insertRow_84
    · have c_21_21 : ¬ ((z (5 + 4 * (ik - 1))) : Int32) ≤ d0 := c_21_21
      refine lv_aload_n hx hb dX0_insertRow_24 rfl (lv_at hl 0 rfl) ?_
      refine lv_iload hx hb dX0_insertRow_25 (lv_at hl 4 rfl) ?_
      refine lv_iconst (v := nI 1) hx hb dX0_insertRow_27 (by decide) ?_
      refine kx_isub hx hb (by omega) dX0_insertRow_28 ?_
      refine lv_iload hx hb dX0_insertRow_29 (lv_at hl 4 rfl) ?_
      refine kw_V (As := [.int (nI (ik - 1)), .int (nI ik)]) (rest := []) (C := RX0) (own := RX0) ⟨hx, hb, hml, hown, hts⟩ (c_X0_moveRow l D cI cC cH cL b (z 3) (z 4) (shA (fun j => z (5 + 4 * j)) ik (nR z)) (shA (fun j => z (5 + 4 * j + 1)) ik (nR z)) (shA (fun j => z (5 + 4 * j + 2)) ik (nR z)) (shA (fun j => z (5 + 4 * j + 3)) ik (nR z)) (fun j => z (45 + 3 * j)) (fun j => z (45 + 3 * j + 1)) (fun j => z (45 + 3 * j + 2)) z (ik - 1) ik (by first | assumption | omega) (by first | assumption | omega)) (cwV 2 hts gX0_insertRow_X0_moveRow rfl rfl rfl k_X0_moveRow ⟨Nat.le_of_ble_eq_true rfl, Nat.le_of_ble_eq_true rfl⟩) hP hD hK hS [0, 1, 2, 3, 4, 5, 6, 7, 8] [] rfl rfl (wr := []) rfl (by decide) (by decide) (by decide) (va_recv (q := (RX0, TX0, 10)) hK hP (ci := 0) (q0 := 0) rfl rfl) rfl hl.1 rfl (Nat.le_of_ble_eq_true rfl) dX0_insertRow_31 ⟨Nat.le_of_ble_eq_true rfl, Nat.le_of_ble_eq_true rfl⟩ (fun H locs hP hD hS => ?_)
      have hP : va_P D vwCl (HR b cI (z 3) (upd (shA (fun j => z (5 + 4 * j)) ik (nR z)) ik ((shA (fun j => z (5 + 4 * j)) ik (nR z)) (ik - 1))) (upd (shA (fun j => z (5 + 4 * j + 1)) ik (nR z)) ik ((shA (fun j => z (5 + 4 * j + 1)) ik (nR z)) (ik - 1))) (upd (shA (fun j => z (5 + 4 * j + 2)) ik (nR z)) ik ((shA (fun j => z (5 + 4 * j + 2)) ik (nR z)) (ik - 1))) (upd (shA (fun j => z (5 + 4 * j + 3)) ik (nR z)) ik ((shA (fun j => z (5 + 4 * j + 3)) ik (nR z)) (ik - 1))) (z 4) (fun j => z (45 + 3 * j)) (fun j => z (45 + 3 * j + 1)) (fun j => z (45 + 3 * j + 2)) z) H := hP
      have hD : va_D (kA w0) (HR b cI (z 3) (upd (shA (fun j => z (5 + 4 * j)) ik (nR z)) ik ((shA (fun j => z (5 + 4 * j)) ik (nR z)) (ik - 1))) (upd (shA (fun j => z (5 + 4 * j + 1)) ik (nR z)) ik ((shA (fun j => z (5 + 4 * j + 1)) ik (nR z)) (ik - 1))) (upd (shA (fun j => z (5 + 4 * j + 2)) ik (nR z)) ik ((shA (fun j => z (5 + 4 * j + 2)) ik (nR z)) (ik - 1))) (upd (shA (fun j => z (5 + 4 * j + 3)) ik (nR z)) ik ((shA (fun j => z (5 + 4 * j + 3)) ik (nR z)) (ik - 1))) (z 4) (fun j => z (45 + 3 * j)) (fun j => z (45 + 3 * j + 1)) (fun j => z (45 + 3 * j + 2)) z) := hD
      refine lv_iinc (v := nI (ik - 1)) (lv' := [(4, .int (nI (ik - 1))), (0, .ref (b 0)), (1, .int d0), (2, .int h0), (3, .int s0)]) hx hb dX0_insertRow_34 hl (k := 4) rfl (kx_dec (by omega)) (by decide) rfl (fun ls hl => ?_)
      refine lv_goto (tgt := 6) hx hb dX0_insertRow_37 (by decide) ?_
      have e6_33 : (ik - 1 : Nat) = ((ik - 1)) := by first | rfl | omega | (simp [Int32.not_lt, Int32.not_le, c_8_8, Nat.ne_of_gt c_8_8, c_21_21, Int32.not_le.mp c_21_21]; done) | (simp [Int32.not_lt, Int32.not_le, c_8_8, Nat.ne_of_gt c_8_8, c_21_21, Int32.not_le.mp c_21_21]; omega) | (revert c_8_8 c_21_21; simp +contextual [Int32.not_lt, Int32.not_le]; done) | (revert c_8_8 c_21_21; simp +contextual [Int32.not_lt, Int32.not_le]; omega)
      have hl6_34 : lv_has ls 5 [(0, .ref (b 0)), (1, .int d0), (2, .int h0), (3, .int s0), (4, .int (nI (ik - 1)))] := lv_eqv (l1 := [(0, .ref (b 0)), (1, .int d0), (2, .int h0), (3, .int s0), (4, .int (nI (ik - 1)))]) (lv_sub hl [1, 2, 3, 4, 0] rfl) (lv_ce rfl (lv_ce rfl (lv_ce rfl (lv_ce rfl (lv_ce (congrArg (fun x => Value.int (nI x)) e6_33) rfl)))))
      have ec_di_35 : ((upd (shA (fun j => z (5 + 4 * j)) ik (nR z)) ik ((shA (fun j => z (5 + 4 * j)) ik (nR z)) (ik - 1))) : ZZ) = (shA (fun j => z (5 + 4 * j)) (ik - 1) (nR z)) := by funext jj; simp only [upd, shA]; (repeat' split) <;> first | rfl | omega | (exfalso; omega) | (congr 1; omega)
      have ec_hg_36 : ((upd (shA (fun j => z (5 + 4 * j + 1)) ik (nR z)) ik ((shA (fun j => z (5 + 4 * j + 1)) ik (nR z)) (ik - 1))) : ZZ) = (shA (fun j => z (5 + 4 * j + 1)) (ik - 1) (nR z)) := by funext jj; simp only [upd, shA]; (repeat' split) <;> first | rfl | omega | (exfalso; omega) | (congr 1; omega)
      have ec_se_37 : ((upd (shA (fun j => z (5 + 4 * j + 2)) ik (nR z)) ik ((shA (fun j => z (5 + 4 * j + 2)) ik (nR z)) (ik - 1))) : ZZ) = (shA (fun j => z (5 + 4 * j + 2)) (ik - 1) (nR z)) := by funext jj; simp only [upd, shA]; (repeat' split) <;> first | rfl | omega | (exfalso; omega) | (congr 1; omega)
      have ec_ta_38 : ((upd (shA (fun j => z (5 + 4 * j + 3)) ik (nR z)) ik ((shA (fun j => z (5 + 4 * j + 3)) ik (nR z)) (ik - 1))) : ZZ) = (shA (fun j => z (5 + 4 * j + 3)) (ik - 1) (nR z)) := by funext jj; simp only [upd, shA]; (repeat' split) <;> first | rfl | omega | (exfalso; omega) | (congr 1; omega)
      have ew_39 : (HR b cI (z 3) (upd (shA (fun j => z (5 + 4 * j)) ik (nR z)) ik ((shA (fun j => z (5 + 4 * j)) ik (nR z)) (ik - 1))) (upd (shA (fun j => z (5 + 4 * j + 1)) ik (nR z)) ik ((shA (fun j => z (5 + 4 * j + 1)) ik (nR z)) (ik - 1))) (upd (shA (fun j => z (5 + 4 * j + 2)) ik (nR z)) ik ((shA (fun j => z (5 + 4 * j + 2)) ik (nR z)) (ik - 1))) (upd (shA (fun j => z (5 + 4 * j + 3)) ik (nR z)) ik ((shA (fun j => z (5 + 4 * j + 3)) ik (nR z)) (ik - 1))) (z 4) (fun j => z (45 + 3 * j)) (fun j => z (45 + 3 * j + 1)) (fun j => z (45 + 3 * j + 2)) z : va_W) = (HR b cI (z 3) (shA (fun j => z (5 + 4 * j)) (ik - 1) (nR z)) (shA (fun j => z (5 + 4 * j + 1)) (ik - 1) (nR z)) (shA (fun j => z (5 + 4 * j + 2)) (ik - 1) (nR z)) (shA (fun j => z (5 + 4 * j + 3)) (ik - 1) (nR z)) (z 4) (fun j => z (45 + 3 * j)) (fun j => z (45 + 3 * j + 1)) (fun j => z (45 + 3 * j + 2)) z) := hr_c rfl ec_di_35 ec_hg_36 ec_se_37 ec_ta_38 rfl rfl rfl rfl rfl
      rw [ew_39] at hP hD
      exact ih6 _ _ _ (by omega) ⟨⟨hP, hD, hS⟩, ⟨hl6_34, hinv6.trans (insAt_gt (by omega) (by assumption))⟩⟩
set_option maxRecDepth 20000 in
theorem iX0_deleteRow_0 : ∀ w ∈ wsX00, w ∈ wsX0_deleteRow := by decide +kernel
set_option maxHeartbeats 4000000 in
set_option maxRecDepth 100000 in
theorem c_X0_deleteRow (l : Launch) (D : va_G) (cI cC cH cL : ClassId) (b : Nat → Nat) (z : ZZ) (r0 : Nat) (hw : WF z) (hr : r0 < nR z) : Met l yX0_deleteRow wsX0_deleteRow ({ frames := 1, cells := 0, slots := 0, locals := 22 }) (kw [.ref (b 0), .int (nI r0)] D (HW b cI z) (kT cI cC cH cL)) (kq D (HW b cI z) (HW b cI (delZ z r0)) (.returned none)) 0 0 (kA (HW b cI z)) := by
  refine Met.ofW (cc := cX0_deleteRow) (maxL := 3) (ret := none) (by decide) rfl ?_
  intro p e s m args below meth c s₁ B hml hv
  obtain ⟨rfl, hP, hK, hD0⟩ := hv
  have hx := B.exec
  have hb := B.bytes
  have hrt := B.returns
  have hts := atoms_spec (ws := wsX0_deleteRow) B.pre
  have hown : s.vm.findClass RX0 = some m.cls := findClass_of_methodNamed B.named
  have hlocks := B.notSynchronized
  have hl := lv_entry ([.ref (b 0), .int (nI r0)]) (n := 3) (Nat.le_of_ble_eq_true rfl)
  rw [lg_entry_eq]
  generalize (lg_sl ([.ref (b 0), .int (nI r0)]) ++ List.replicate (3 - (lg_sl ([.ref (b 0), .int (nI r0)])).length) Slot.unset).toArray = ls at hl ⊢
  have hl : lv_has ls 3 [(0, .ref (b 0)), (1, .int (nI r0))] := hl
  have hD := kA_self hD0
  obtain ⟨w0, hw0⟩ : ∃ w : va_W, w = HW b cI z := ⟨_, rfl⟩
  have hD : va_D (kA w0) (HW b cI z) := by rw [hw0]; exact hD
  have hS : va_S (kA w0) s.heap s.heap [] := va_S.rf
  rw [show kA (HW b cI z) = kA w0 from by rw [hw0], show kq D (HW b cI z) = kq D w0 from by rw [hw0]]
  have hP : va_P D vwCl (HW b cI z) s.heap := hP
  have hR10 := wf_R10 hw
  have hC4 := wf_C4 hw
  refine lv_iload_n hx hb dX0_deleteRow_0 rfl (lv_at hl 1 rfl) ?_
  refine lv_iconst (v := nI 1) hx hb dX0_deleteRow_1 (by decide) ?_
  refine kx_iadd hx hb dX0_deleteRow_2 ?_
  refine lv_istore_n (lv' := [(2, .int (nI (r0 + 1))), (0, .ref (b 0)), (1, .int (nI r0))]) hx hb dX0_deleteRow_3 rfl hl (by decide) rfl (fun ls hl => ?_)
  have e4_0 : (r0 + 1 : Nat) = ((r0 + 1)) := by first | rfl | omega | (simp [Int32.not_lt, Int32.not_le]; done) | (simp [Int32.not_lt, Int32.not_le]; omega)
  have hl4_1 : lv_has ls 3 [(0, .ref (b 0)), (1, .int (nI r0)), (2, .int (nI (r0 + 1)))] := lv_eqv (l1 := [(0, .ref (b 0)), (1, .int (nI r0)), (2, .int (nI (r0 + 1)))]) (lv_sub hl [1, 2, 0] rfl) (lv_ce rfl (lv_ce rfl (lv_ce (congrArg (fun x => Value.int (nI x)) e4_0) rfl)))
  have ec_di_2 : ((fun j => z (5 + 4 * j)) : ZZ) = (dlA (fun j => z (5 + 4 * j)) r0 (r0 + 1)) := by funext jj; simp only [upd, dlA]; (repeat' split) <;> first | rfl | omega | (exfalso; omega) | (congr 1; omega)
  have ec_hg_3 : ((fun j => z (5 + 4 * j + 1)) : ZZ) = (dlA (fun j => z (5 + 4 * j + 1)) r0 (r0 + 1)) := by funext jj; simp only [upd, dlA]; (repeat' split) <;> first | rfl | omega | (exfalso; omega) | (congr 1; omega)
  have ec_se_4 : ((fun j => z (5 + 4 * j + 2)) : ZZ) = (dlA (fun j => z (5 + 4 * j + 2)) r0 (r0 + 1)) := by funext jj; simp only [upd, dlA]; (repeat' split) <;> first | rfl | omega | (exfalso; omega) | (congr 1; omega)
  have ec_ta_5 : ((fun j => z (5 + 4 * j + 3)) : ZZ) = (dlA (fun j => z (5 + 4 * j + 3)) r0 (r0 + 1)) := by funext jj; simp only [upd, dlA]; (repeat' split) <;> first | rfl | omega | (exfalso; omega) | (congr 1; omega)
  have ew_6 : (HW b cI z : va_W) = (HR b cI (z 3) (dlA (fun j => z (5 + 4 * j)) r0 (r0 + 1)) (dlA (fun j => z (5 + 4 * j + 1)) r0 (r0 + 1)) (dlA (fun j => z (5 + 4 * j + 2)) r0 (r0 + 1)) (dlA (fun j => z (5 + 4 * j + 3)) r0 (r0 + 1)) (z 4) (fun j => z (45 + 3 * j)) (fun j => z (45 + 3 * j + 1)) (fun j => z (45 + 3 * j + 2)) z) := hr_c rfl ec_di_2 ec_hg_3 ec_se_4 ec_ta_5 rfl rfl rfl rfl rfl
  rw [ew_6] at hP hD
  refine kx_upW (fun k H locs ls => (va_P D vwCl (HR b cI (z 3) (dlA (fun j => z (5 + 4 * j)) r0 k) (dlA (fun j => z (5 + 4 * j + 1)) r0 k) (dlA (fun j => z (5 + 4 * j + 2)) r0 k) (dlA (fun j => z (5 + 4 * j + 3)) r0 k) (z 4) (fun j => z (45 + 3 * j)) (fun j => z (45 + 3 * j + 1)) (fun j => z (45 + 3 * j + 2)) z) H ∧ va_D (kA w0) (HR b cI (z 3) (dlA (fun j => z (5 + 4 * j)) r0 k) (dlA (fun j => z (5 + 4 * j + 1)) r0 k) (dlA (fun j => z (5 + 4 * j + 2)) r0 k) (dlA (fun j => z (5 + 4 * j + 3)) r0 k) (z 4) (fun j => z (45 + 3 * j)) (fun j => z (45 + 3 * j + 1)) (fun j => z (45 + 3 * j + 2)) z) ∧ va_S (kA w0) s.heap H locs) ∧ lv_has ls 3 [(0, .ref (b 0)), (1, .int (nI r0)), (2, .int (nI k))]) (r0 + 1) (nR z) (by omega) _ _ ls ⟨⟨hP, hD, hS⟩, hl4_1⟩ ?_
  clear hP hD hS
  intro ik H locs ls hikl hikh hp ih4
  obtain ⟨⟨hP, hD, hS⟩, hp⟩ := hp
  have hl := hp
  refine lv_iload_n hx hb dX0_deleteRow_4 rfl (lv_at hl 2 rfl) ?_
  refine lv_aload_n hx hb dX0_deleteRow_5 rfl (lv_at hl 0 rfl) ?_
  refine va_get (D := D) (ci := 0) (v := .int (z 3)) (C := RX0) (T := TX0) (N := 10) hx hb hts iX0_deleteRow_0 hown hK hP 0 rfl rfl 0 (by decide) (hts (.fieldLink RX0 36 "HallSights$Hall" "rows" "I") (List.mem_of_getElem? (i := 1) rfl)) (fun _ h9 => h9) rfl dX0_deleteRow_6 ?_
  refine kx_top (wf_R hw) ?_
  refine kx_icmp_ge (tgt := 26) hx hb (by omega) (by omega) dX0_deleteRow_9 (by decide) (fun c_9_7 => ?_) (fun c_9_8 => ?_)
  · have hq9 : nR z = ik := by omega
    subst hq9
    refine lv_aload_n hx hb dX0_deleteRow_26 rfl (lv_at hl 0 rfl) ?_
    refine lv_dup hx hb dX0_deleteRow_27 rfl ?_
    refine va_get (D := D) (ci := 0) (v := .int (z 3)) (C := RX0) (T := TX0) (N := 10) hx hb hts iX0_deleteRow_0 hown hK hP 0 rfl rfl 0 (by decide) (hts (.fieldLink RX0 36 "HallSights$Hall" "rows" "I") (List.mem_of_getElem? (i := 1) rfl)) (fun _ h9 => h9) rfl dX0_deleteRow_28 ?_
    refine kx_top (wf_R hw) ?_
    refine lv_iconst (v := nI 1) hx hb dX0_deleteRow_31 (by decide) ?_
    refine kx_isub hx hb (by omega) dX0_deleteRow_32 ?_
    refine va_put (D := D) (ci := 0) (v := .int (nI ((nR z) - 1))) (ty := .int) (C := RX0) (T := TX0) (N := 10) hx hb hts iX0_deleteRow_0 tyX0 tyX0_ok nmX0 hown hK hP hD hS 0 rfl rfl 0 (by decide) (hts (.fieldLink RX0 36 "HallSights$Hall" "rows" "I") (List.mem_of_getElem? (i := 1) rfl)) (fun _ h9 => h9) rfl (by decide +kernel) rfl rfl (Nat.le_of_ble_eq_true rfl) dX0_deleteRow_33 (fun H locs hP hD hS => ?_)
    have hP : va_P D vwCl (HR b cI (nI ((nR z) - 1)) (dlA (fun j => z (5 + 4 * j)) r0 (nR z)) (dlA (fun j => z (5 + 4 * j + 1)) r0 (nR z)) (dlA (fun j => z (5 + 4 * j + 2)) r0 (nR z)) (dlA (fun j => z (5 + 4 * j + 3)) r0 (nR z)) (z 4) (fun j => z (45 + 3 * j)) (fun j => z (45 + 3 * j + 1)) (fun j => z (45 + 3 * j + 2)) z) H := hP
    have hD : va_D (kA w0) (HR b cI (nI ((nR z) - 1)) (dlA (fun j => z (5 + 4 * j)) r0 (nR z)) (dlA (fun j => z (5 + 4 * j + 1)) r0 (nR z)) (dlA (fun j => z (5 + 4 * j + 2)) r0 (nR z)) (dlA (fun j => z (5 + 4 * j + 3)) r0 (nR z)) (z 4) (fun j => z (45 + 3 * j)) (fun j => z (45 + 3 * j + 1)) (fun j => z (45 + 3 * j + 2)) z) := hD
    have h_ro_10 : (nI ((nR z) - 1) : Int32) = (delZ z r0) 3 := by first | rfl | (simp only [delZ, delS, dlA, upd]; (repeat' split) <;> first | rfl | omega | (exfalso; omega) | (congr 1; omega))
    have h_di_11 : ∀ j, j < 10 → ((dlA (fun j => z (5 + 4 * j)) r0 (nR z)) : ZZ) j = ((fun j => (delZ z r0) (5 + 4 * j)) : ZZ) j := by intro j hj; first | rfl | (simp only [delZ, delS, dlA, upd]; (repeat' split) <;> first | rfl | omega | (exfalso; omega) | (congr 1; omega))
    have h_hg_12 : ∀ j, j < 10 → ((dlA (fun j => z (5 + 4 * j + 1)) r0 (nR z)) : ZZ) j = ((fun j => (delZ z r0) (5 + 4 * j + 1)) : ZZ) j := by intro j hj; first | rfl | (simp only [delZ, delS, dlA, upd]; (repeat' split) <;> first | rfl | omega | (exfalso; omega) | (congr 1; omega))
    have h_se_13 : ∀ j, j < 10 → ((dlA (fun j => z (5 + 4 * j + 2)) r0 (nR z)) : ZZ) j = ((fun j => (delZ z r0) (5 + 4 * j + 2)) : ZZ) j := by intro j hj; first | rfl | (simp only [delZ, delS, dlA, upd]; (repeat' split) <;> first | rfl | omega | (exfalso; omega) | (congr 1; omega))
    have h_ta_14 : ∀ j, j < 10 → ((dlA (fun j => z (5 + 4 * j + 3)) r0 (nR z)) : ZZ) j = ((fun j => (delZ z r0) (5 + 4 * j + 3)) : ZZ) j := by intro j hj; first | rfl | (simp only [delZ, delS, dlA, upd]; (repeat' split) <;> first | rfl | omega | (exfalso; omega) | (congr 1; omega))
    have h_co_15 : (z 4 : Int32) = (delZ z r0) 4 := by first | rfl | (simp only [delZ, delS, dlA, upd]; (repeat' split) <;> first | rfl | omega | (exfalso; omega) | (congr 1; omega))
    have h_cd_16 : ∀ j, j < 4 → ((fun j => z (45 + 3 * j)) : ZZ) j = ((fun j => (delZ z r0) (45 + 3 * j)) : ZZ) j := by intro j hj; first | rfl | (simp only [delZ, delS, dlA, upd]; (repeat' split) <;> first | rfl | omega | (exfalso; omega) | (congr 1; omega))
    have h_cs_17 : ∀ j, j < 4 → ((fun j => z (45 + 3 * j + 1)) : ZZ) j = ((fun j => (delZ z r0) (45 + 3 * j + 1)) : ZZ) j := by intro j hj; first | rfl | (simp only [delZ, delS, dlA, upd]; (repeat' split) <;> first | rfl | omega | (exfalso; omega) | (congr 1; omega))
    have h_ch_18 : ∀ j, j < 4 → ((fun j => z (45 + 3 * j + 2)) : ZZ) j = ((fun j => (delZ z r0) (45 + 3 * j + 2)) : ZZ) j := by intro j hj; first | rfl | (simp only [delZ, delS, dlA, upd]; (repeat' split) <;> first | rfl | omega | (exfalso; omega) | (congr 1; omega))
    have h_sg_19 : ∀ j, j < 3 → (z : ZZ) j = ((delZ z r0) : ZZ) j := by intro j hj; first | rfl | (simp only [delZ, delS, dlA, upd]; (repeat' split) <;> first | rfl | omega | (exfalso; omega) | (congr 1; omega))
    have hP := hw_ext hP _ _ _ _ _ _ _ _ h_ro_10 h_di_11 h_hg_12 h_se_13 h_ta_14 h_co_15 h_cd_16 h_cs_17 h_ch_18 h_sg_19
    have hP : va_P D vwCl (HW b cI (delZ z r0)) H := hP
    have hD : va_D (kA w0) (HW b cI (delZ z r0)) := vaD_x hD rfl
    subst hw0
    exact kq_vret hx hb hrt hlocks hP hD hS dX0_deleteRow_36
  · refine lv_aload_n hx hb dX0_deleteRow_12 rfl (lv_at hl 0 rfl) ?_
    refine lv_iload_n hx hb dX0_deleteRow_13 rfl (lv_at hl 2 rfl) ?_
    refine lv_iload_n hx hb dX0_deleteRow_14 rfl (lv_at hl 2 rfl) ?_
    refine lv_iconst (v := nI 1) hx hb dX0_deleteRow_15 (by decide) ?_
    refine kx_isub hx hb (by omega) dX0_deleteRow_16 ?_
    refine kw_V (As := [.int (nI ik), .int (nI (ik - 1))]) (rest := []) (C := RX0) (own := RX0) ⟨hx, hb, hml, hown, hts⟩ (c_X0_moveRow l D cI cC cH cL b (z 3) (z 4) (dlA (fun j => z (5 + 4 * j)) r0 ik) (dlA (fun j => z (5 + 4 * j + 1)) r0 ik) (dlA (fun j => z (5 + 4 * j + 2)) r0 ik) (dlA (fun j => z (5 + 4 * j + 3)) r0 ik) (fun j => z (45 + 3 * j)) (fun j => z (45 + 3 * j + 1)) (fun j => z (45 + 3 * j + 2)) z ik (ik - 1) (by first | assumption | omega) (by first | assumption | omega)) (cwV 2 hts gX0_deleteRow_X0_moveRow rfl rfl rfl k_X0_moveRow ⟨Nat.le_of_ble_eq_true rfl, Nat.le_of_ble_eq_true rfl⟩) hP hD hK hS [0, 1, 2, 3, 4, 5, 6, 7, 8] [] rfl rfl (wr := []) rfl (by decide) (by decide) (by decide) (va_recv (q := (RX0, TX0, 10)) hK hP (ci := 0) (q0 := 0) rfl rfl) rfl hl.1 rfl (Nat.le_of_ble_eq_true rfl) dX0_deleteRow_17 ⟨Nat.le_of_ble_eq_true rfl, Nat.le_of_ble_eq_true rfl⟩ (fun H locs hP hD hS => ?_)
    have hP : va_P D vwCl (HR b cI (z 3) (upd (dlA (fun j => z (5 + 4 * j)) r0 ik) (ik - 1) ((dlA (fun j => z (5 + 4 * j)) r0 ik) ik)) (upd (dlA (fun j => z (5 + 4 * j + 1)) r0 ik) (ik - 1) ((dlA (fun j => z (5 + 4 * j + 1)) r0 ik) ik)) (upd (dlA (fun j => z (5 + 4 * j + 2)) r0 ik) (ik - 1) ((dlA (fun j => z (5 + 4 * j + 2)) r0 ik) ik)) (upd (dlA (fun j => z (5 + 4 * j + 3)) r0 ik) (ik - 1) ((dlA (fun j => z (5 + 4 * j + 3)) r0 ik) ik)) (z 4) (fun j => z (45 + 3 * j)) (fun j => z (45 + 3 * j + 1)) (fun j => z (45 + 3 * j + 2)) z) H := hP
    have hD : va_D (kA w0) (HR b cI (z 3) (upd (dlA (fun j => z (5 + 4 * j)) r0 ik) (ik - 1) ((dlA (fun j => z (5 + 4 * j)) r0 ik) ik)) (upd (dlA (fun j => z (5 + 4 * j + 1)) r0 ik) (ik - 1) ((dlA (fun j => z (5 + 4 * j + 1)) r0 ik) ik)) (upd (dlA (fun j => z (5 + 4 * j + 2)) r0 ik) (ik - 1) ((dlA (fun j => z (5 + 4 * j + 2)) r0 ik) ik)) (upd (dlA (fun j => z (5 + 4 * j + 3)) r0 ik) (ik - 1) ((dlA (fun j => z (5 + 4 * j + 3)) r0 ik) ik)) (z 4) (fun j => z (45 + 3 * j)) (fun j => z (45 + 3 * j + 1)) (fun j => z (45 + 3 * j + 2)) z) := hD
    refine lv_iinc (v := nI (ik + 1)) (lv' := [(2, .int (nI (ik + 1))), (0, .ref (b 0)), (1, .int (nI r0))]) hx hb dX0_deleteRow_20 hl (k := 2) rfl (kx_inc 1) (by decide) rfl (fun ls hl => ?_)
    refine lv_goto (tgt := 4) hx hb dX0_deleteRow_23 (by decide) ?_
    have e4_20 : (ik + 1 : Nat) = ((ik + 1)) := by first | rfl | omega | (simp [Int32.not_lt, Int32.not_le, c_9_8, Nat.not_le.mpr c_9_8]; done) | (simp [Int32.not_lt, Int32.not_le, c_9_8, Nat.not_le.mpr c_9_8]; omega) | (revert c_9_8; simp +contextual [Int32.not_lt, Int32.not_le]; done) | (revert c_9_8; simp +contextual [Int32.not_lt, Int32.not_le]; omega)
    have hl4_21 : lv_has ls 3 [(0, .ref (b 0)), (1, .int (nI r0)), (2, .int (nI (ik + 1)))] := lv_eqv (l1 := [(0, .ref (b 0)), (1, .int (nI r0)), (2, .int (nI (ik + 1)))]) (lv_sub hl [1, 2, 0] rfl) (lv_ce rfl (lv_ce rfl (lv_ce (congrArg (fun x => Value.int (nI x)) e4_20) rfl)))
    have ec_di_22 : ((upd (dlA (fun j => z (5 + 4 * j)) r0 ik) (ik - 1) ((dlA (fun j => z (5 + 4 * j)) r0 ik) ik)) : ZZ) = (dlA (fun j => z (5 + 4 * j)) r0 (ik + 1)) := by funext jj; simp only [upd, dlA]; (repeat' split) <;> first | rfl | omega | (exfalso; omega) | (congr 1; omega)
    have ec_hg_23 : ((upd (dlA (fun j => z (5 + 4 * j + 1)) r0 ik) (ik - 1) ((dlA (fun j => z (5 + 4 * j + 1)) r0 ik) ik)) : ZZ) = (dlA (fun j => z (5 + 4 * j + 1)) r0 (ik + 1)) := by funext jj; simp only [upd, dlA]; (repeat' split) <;> first | rfl | omega | (exfalso; omega) | (congr 1; omega)
    have ec_se_24 : ((upd (dlA (fun j => z (5 + 4 * j + 2)) r0 ik) (ik - 1) ((dlA (fun j => z (5 + 4 * j + 2)) r0 ik) ik)) : ZZ) = (dlA (fun j => z (5 + 4 * j + 2)) r0 (ik + 1)) := by funext jj; simp only [upd, dlA]; (repeat' split) <;> first | rfl | omega | (exfalso; omega) | (congr 1; omega)
    have ec_ta_25 : ((upd (dlA (fun j => z (5 + 4 * j + 3)) r0 ik) (ik - 1) ((dlA (fun j => z (5 + 4 * j + 3)) r0 ik) ik)) : ZZ) = (dlA (fun j => z (5 + 4 * j + 3)) r0 (ik + 1)) := by funext jj; simp only [upd, dlA]; (repeat' split) <;> first | rfl | omega | (exfalso; omega) | (congr 1; omega)
    have ew_26 : (HR b cI (z 3) (upd (dlA (fun j => z (5 + 4 * j)) r0 ik) (ik - 1) ((dlA (fun j => z (5 + 4 * j)) r0 ik) ik)) (upd (dlA (fun j => z (5 + 4 * j + 1)) r0 ik) (ik - 1) ((dlA (fun j => z (5 + 4 * j + 1)) r0 ik) ik)) (upd (dlA (fun j => z (5 + 4 * j + 2)) r0 ik) (ik - 1) ((dlA (fun j => z (5 + 4 * j + 2)) r0 ik) ik)) (upd (dlA (fun j => z (5 + 4 * j + 3)) r0 ik) (ik - 1) ((dlA (fun j => z (5 + 4 * j + 3)) r0 ik) ik)) (z 4) (fun j => z (45 + 3 * j)) (fun j => z (45 + 3 * j + 1)) (fun j => z (45 + 3 * j + 2)) z : va_W) = (HR b cI (z 3) (dlA (fun j => z (5 + 4 * j)) r0 (ik + 1)) (dlA (fun j => z (5 + 4 * j + 1)) r0 (ik + 1)) (dlA (fun j => z (5 + 4 * j + 2)) r0 (ik + 1)) (dlA (fun j => z (5 + 4 * j + 3)) r0 (ik + 1)) (z 4) (fun j => z (45 + 3 * j)) (fun j => z (45 + 3 * j + 1)) (fun j => z (45 + 3 * j + 2)) z) := hr_c rfl ec_di_22 ec_hg_23 ec_se_24 ec_ta_25 rfl rfl rfl rfl rfl
    rw [ew_26] at hP hD
    exact ih4 _ _ _ (by omega) ⟨⟨hP, hD, hS⟩, hl4_21⟩
set_option maxRecDepth 20000 in
theorem iX0_insertColumn_0 : ∀ w ∈ wsX00, w ∈ wsX0_insertColumn := by decide +kernel
set_option maxHeartbeats 4000000 in
set_option maxRecDepth 100000 in
theorem c_X0_insertColumn (l : Launch) (D : va_G) (cI cC cH cL : ClassId) (b : Nat → Nat) (z : ZZ) (d0 : Int32) (s0 : Int32) (h0 : Int32) (hw : WF z) (hn : nC z < 4) : Met l yX0_insertColumn wsX0_insertColumn ({ frames := 0, cells := 0, slots := 0, locals := 0 }) (kw [.ref (b 0), .int d0, .int s0, .int h0] D (HW b cI z) (kT cI cC cH cL)) (kq D (HW b cI z) (HW b cI (addC z d0 s0 h0)) (.returned (some (.int (nI (nC z)))))) 0 0 (kA (HW b cI z)) := by
  refine Met.ofW (cc := cX0_insertColumn) (maxL := 4) (ret := (some .int)) (by decide) rfl ?_
  intro p e s m args below meth c s₁ B hml hv
  obtain ⟨rfl, hP, hK, hD0⟩ := hv
  have hx := B.exec
  have hb := B.bytes
  have hrt := B.returns
  have hts := atoms_spec (ws := wsX0_insertColumn) B.pre
  have hown : s.vm.findClass RX0 = some m.cls := findClass_of_methodNamed B.named
  have hlocks := B.notSynchronized
  have hl := lv_entry ([.ref (b 0), .int d0, .int s0, .int h0]) (n := 4) (Nat.le_of_ble_eq_true rfl)
  rw [lg_entry_eq]
  generalize (lg_sl ([.ref (b 0), .int d0, .int s0, .int h0]) ++ List.replicate (4 - (lg_sl ([.ref (b 0), .int d0, .int s0, .int h0])).length) Slot.unset).toArray = ls at hl ⊢
  have hl : lv_has ls 4 [(0, .ref (b 0)), (1, .int d0), (2, .int s0), (3, .int h0)] := hl
  have hD := kA_self hD0
  obtain ⟨w0, hw0⟩ : ∃ w : va_W, w = HW b cI z := ⟨_, rfl⟩
  have hD : va_D (kA w0) (HW b cI z) := by rw [hw0]; exact hD
  have hS : va_S (kA w0) s.heap s.heap [] := va_S.rf
  rw [show kA (HW b cI z) = kA w0 from by rw [hw0], show kq D (HW b cI z) = kq D w0 from by rw [hw0]]
  have hP : va_P D vwCl (HW b cI z) s.heap := hP
  have hR10 := wf_R10 hw
  have hC4 := wf_C4 hw
  refine lv_aload_n hx hb dX0_insertColumn_0 rfl (lv_at hl 0 rfl) ?_
  refine va_get (D := D) (ci := 0) (v := .ref (b 5)) (C := RX0) (T := TX0) (N := 10) hx hb hts iX0_insertColumn_0 hown hK hP 0 rfl rfl 6 (by decide) (hts (.fieldLink RX0 24 "HallSights$Hall" "columnDistances" "[I") (List.mem_of_getElem? (i := 1) rfl)) (fun _ h9 => h9) rfl dX0_insertColumn_1 ?_
  refine lv_aload_n hx hb dX0_insertColumn_4 rfl (lv_at hl 0 rfl) ?_
  refine va_get (D := D) (ci := 0) (v := .int (z 4)) (C := RX0) (T := TX0) (N := 10) hx hb hts iX0_insertColumn_0 hown hK hP 0 rfl rfl 5 (by decide) (hts (.fieldLink RX0 46 "HallSights$Hall" "columns" "I") (List.mem_of_getElem? (i := 2) rfl)) (fun _ h9 => h9) rfl dX0_insertColumn_5 ?_
  refine kx_top (wf_C hw) ?_
  refine lv_iload_n hx hb dX0_insertColumn_8 rfl (lv_at hl 1 rfl) ?_
  refine kx_iast hx hb hK hP hD hS 5 0 rfl rfl (by omega) (by decide) dX0_insertColumn_9 (fun H locs hP hD hS => ?_)
  have hP : va_P D vwCl (HR b cI (z 3) (fun j => z (5 + 4 * j)) (fun j => z (5 + 4 * j + 1)) (fun j => z (5 + 4 * j + 2)) (fun j => z (5 + 4 * j + 3)) (z 4) (upd (fun j => z (45 + 3 * j)) (nC z) d0) (fun j => z (45 + 3 * j + 1)) (fun j => z (45 + 3 * j + 2)) z) H := hP
  have hD : va_D (kA w0) (HR b cI (z 3) (fun j => z (5 + 4 * j)) (fun j => z (5 + 4 * j + 1)) (fun j => z (5 + 4 * j + 2)) (fun j => z (5 + 4 * j + 3)) (z 4) (upd (fun j => z (45 + 3 * j)) (nC z) d0) (fun j => z (45 + 3 * j + 1)) (fun j => z (45 + 3 * j + 2)) z) := hD
  refine lv_aload_n hx hb dX0_insertColumn_10 rfl (lv_at hl 0 rfl) ?_
  refine va_get (D := D) (ci := 0) (v := .ref (b 6)) (C := RX0) (T := TX0) (N := 10) hx hb hts iX0_insertColumn_0 hown hK hP 0 rfl rfl 7 (by decide) (hts (.fieldLink RX0 27 "HallSights$Hall" "columnSides" "[I") (List.mem_of_getElem? (i := 3) rfl)) (fun _ h9 => h9) rfl dX0_insertColumn_11 ?_
  refine lv_aload_n hx hb dX0_insertColumn_14 rfl (lv_at hl 0 rfl) ?_
  refine va_get (D := D) (ci := 0) (v := .int (z 4)) (C := RX0) (T := TX0) (N := 10) hx hb hts iX0_insertColumn_0 hown hK hP 0 rfl rfl 5 (by decide) (hts (.fieldLink RX0 46 "HallSights$Hall" "columns" "I") (List.mem_of_getElem? (i := 2) rfl)) (fun _ h9 => h9) rfl dX0_insertColumn_15 ?_
  refine kx_top (wf_C hw) ?_
  refine lv_iload_n hx hb dX0_insertColumn_18 rfl (lv_at hl 2 rfl) ?_
  refine kx_iast hx hb hK hP hD hS 6 0 rfl rfl (by omega) (by decide) dX0_insertColumn_19 (fun H locs hP hD hS => ?_)
  have hP : va_P D vwCl (HR b cI (z 3) (fun j => z (5 + 4 * j)) (fun j => z (5 + 4 * j + 1)) (fun j => z (5 + 4 * j + 2)) (fun j => z (5 + 4 * j + 3)) (z 4) (upd (fun j => z (45 + 3 * j)) (nC z) d0) (upd (fun j => z (45 + 3 * j + 1)) (nC z) s0) (fun j => z (45 + 3 * j + 2)) z) H := hP
  have hD : va_D (kA w0) (HR b cI (z 3) (fun j => z (5 + 4 * j)) (fun j => z (5 + 4 * j + 1)) (fun j => z (5 + 4 * j + 2)) (fun j => z (5 + 4 * j + 3)) (z 4) (upd (fun j => z (45 + 3 * j)) (nC z) d0) (upd (fun j => z (45 + 3 * j + 1)) (nC z) s0) (fun j => z (45 + 3 * j + 2)) z) := hD
  refine lv_aload_n hx hb dX0_insertColumn_20 rfl (lv_at hl 0 rfl) ?_
  refine va_get (D := D) (ci := 0) (v := .ref (b 7)) (C := RX0) (T := TX0) (N := 10) hx hb hts iX0_insertColumn_0 hown hK hP 0 rfl rfl 8 (by decide) (hts (.fieldLink RX0 30 "HallSights$Hall" "columnHalves" "[I") (List.mem_of_getElem? (i := 4) rfl)) (fun _ h9 => h9) rfl dX0_insertColumn_21 ?_
  refine lv_aload_n hx hb dX0_insertColumn_24 rfl (lv_at hl 0 rfl) ?_
  refine va_get (D := D) (ci := 0) (v := .int (z 4)) (C := RX0) (T := TX0) (N := 10) hx hb hts iX0_insertColumn_0 hown hK hP 0 rfl rfl 5 (by decide) (hts (.fieldLink RX0 46 "HallSights$Hall" "columns" "I") (List.mem_of_getElem? (i := 2) rfl)) (fun _ h9 => h9) rfl dX0_insertColumn_25 ?_
  refine kx_top (wf_C hw) ?_
  refine lv_iload_n hx hb dX0_insertColumn_28 rfl (lv_at hl 3 rfl) ?_
  refine kx_iast hx hb hK hP hD hS 7 0 rfl rfl (by omega) (by decide) dX0_insertColumn_29 (fun H locs hP hD hS => ?_)
  have hP : va_P D vwCl (HR b cI (z 3) (fun j => z (5 + 4 * j)) (fun j => z (5 + 4 * j + 1)) (fun j => z (5 + 4 * j + 2)) (fun j => z (5 + 4 * j + 3)) (z 4) (upd (fun j => z (45 + 3 * j)) (nC z) d0) (upd (fun j => z (45 + 3 * j + 1)) (nC z) s0) (upd (fun j => z (45 + 3 * j + 2)) (nC z) h0) z) H := hP
  have hD : va_D (kA w0) (HR b cI (z 3) (fun j => z (5 + 4 * j)) (fun j => z (5 + 4 * j + 1)) (fun j => z (5 + 4 * j + 2)) (fun j => z (5 + 4 * j + 3)) (z 4) (upd (fun j => z (45 + 3 * j)) (nC z) d0) (upd (fun j => z (45 + 3 * j + 1)) (nC z) s0) (upd (fun j => z (45 + 3 * j + 2)) (nC z) h0) z) := hD
  refine lv_aload_n hx hb dX0_insertColumn_30 rfl (lv_at hl 0 rfl) ?_
  refine lv_dup hx hb dX0_insertColumn_31 rfl ?_
  refine va_get (D := D) (ci := 0) (v := .int (z 4)) (C := RX0) (T := TX0) (N := 10) hx hb hts iX0_insertColumn_0 hown hK hP 0 rfl rfl 5 (by decide) (hts (.fieldLink RX0 46 "HallSights$Hall" "columns" "I") (List.mem_of_getElem? (i := 2) rfl)) (fun _ h9 => h9) rfl dX0_insertColumn_32 ?_
  refine kx_top (wf_C hw) ?_
  refine lv_iconst (v := nI 1) hx hb dX0_insertColumn_35 (by decide) ?_
  refine kx_iadd hx hb dX0_insertColumn_36 ?_
  refine va_put (D := D) (ci := 0) (v := .int (nI ((nC z) + 1))) (ty := .int) (C := RX0) (T := TX0) (N := 10) hx hb hts iX0_insertColumn_0 tyX0 tyX0_ok nmX0 hown hK hP hD hS 0 rfl rfl 5 (by decide) (hts (.fieldLink RX0 46 "HallSights$Hall" "columns" "I") (List.mem_of_getElem? (i := 2) rfl)) (fun _ h9 => h9) rfl (by decide +kernel) rfl rfl (Nat.le_of_ble_eq_true rfl) dX0_insertColumn_37 (fun H locs hP hD hS => ?_)
  have hP : va_P D vwCl (HR b cI (z 3) (fun j => z (5 + 4 * j)) (fun j => z (5 + 4 * j + 1)) (fun j => z (5 + 4 * j + 2)) (fun j => z (5 + 4 * j + 3)) (nI ((nC z) + 1)) (upd (fun j => z (45 + 3 * j)) (nC z) d0) (upd (fun j => z (45 + 3 * j + 1)) (nC z) s0) (upd (fun j => z (45 + 3 * j + 2)) (nC z) h0) z) H := hP
  have hD : va_D (kA w0) (HR b cI (z 3) (fun j => z (5 + 4 * j)) (fun j => z (5 + 4 * j + 1)) (fun j => z (5 + 4 * j + 2)) (fun j => z (5 + 4 * j + 3)) (nI ((nC z) + 1)) (upd (fun j => z (45 + 3 * j)) (nC z) d0) (upd (fun j => z (45 + 3 * j + 1)) (nC z) s0) (upd (fun j => z (45 + 3 * j + 2)) (nC z) h0) z) := hD
  refine lv_aload_n hx hb dX0_insertColumn_40 rfl (lv_at hl 0 rfl) ?_
  refine va_get (D := D) (ci := 0) (v := .int (nI ((nC z) + 1))) (C := RX0) (T := TX0) (N := 10) hx hb hts iX0_insertColumn_0 hown hK hP 0 rfl rfl 5 (by decide) (hts (.fieldLink RX0 46 "HallSights$Hall" "columns" "I") (List.mem_of_getElem? (i := 2) rfl)) (fun _ h9 => h9) rfl dX0_insertColumn_41 ?_
  refine lv_iconst (v := nI 1) hx hb dX0_insertColumn_44 (by decide) ?_
  refine kx_isub hx hb (by omega) dX0_insertColumn_45 ?_
  have e_0 : ((((nC z) + 1) - 1) : Nat) = (nC z) := by first | rfl | omega | (simp [Int32.not_lt, Int32.not_le]; done) | (simp [Int32.not_lt, Int32.not_le]; omega)
  have h_ro_1 : (z 3 : Int32) = (addC z d0 s0 h0) 3 := by first | rfl | (simp only [addC, upd]; (repeat' split) <;> first | rfl | omega | (exfalso; omega) | (congr 1; omega))
  have h_di_2 : ∀ j, j < 10 → ((fun j => z (5 + 4 * j)) : ZZ) j = ((fun j => (addC z d0 s0 h0) (5 + 4 * j)) : ZZ) j := by intro j hj; first | rfl | (simp only [addC, upd]; (repeat' split) <;> first | rfl | omega | (exfalso; omega) | (congr 1; omega))
  have h_hg_3 : ∀ j, j < 10 → ((fun j => z (5 + 4 * j + 1)) : ZZ) j = ((fun j => (addC z d0 s0 h0) (5 + 4 * j + 1)) : ZZ) j := by intro j hj; first | rfl | (simp only [addC, upd]; (repeat' split) <;> first | rfl | omega | (exfalso; omega) | (congr 1; omega))
  have h_se_4 : ∀ j, j < 10 → ((fun j => z (5 + 4 * j + 2)) : ZZ) j = ((fun j => (addC z d0 s0 h0) (5 + 4 * j + 2)) : ZZ) j := by intro j hj; first | rfl | (simp only [addC, upd]; (repeat' split) <;> first | rfl | omega | (exfalso; omega) | (congr 1; omega))
  have h_ta_5 : ∀ j, j < 10 → ((fun j => z (5 + 4 * j + 3)) : ZZ) j = ((fun j => (addC z d0 s0 h0) (5 + 4 * j + 3)) : ZZ) j := by intro j hj; first | rfl | (simp only [addC, upd]; (repeat' split) <;> first | rfl | omega | (exfalso; omega) | (congr 1; omega))
  have h_co_6 : (nI ((nC z) + 1) : Int32) = (addC z d0 s0 h0) 4 := by first | rfl | (simp only [addC, upd]; (repeat' split) <;> first | rfl | omega | (exfalso; omega) | (congr 1; omega))
  have h_cd_7 : ∀ j, j < 4 → ((upd (fun j => z (45 + 3 * j)) (nC z) d0) : ZZ) j = ((fun j => (addC z d0 s0 h0) (45 + 3 * j)) : ZZ) j := by intro j hj; first | rfl | (simp only [addC, upd]; (repeat' split) <;> first | rfl | omega | (exfalso; omega) | (congr 1; omega))
  have h_cs_8 : ∀ j, j < 4 → ((upd (fun j => z (45 + 3 * j + 1)) (nC z) s0) : ZZ) j = ((fun j => (addC z d0 s0 h0) (45 + 3 * j + 1)) : ZZ) j := by intro j hj; first | rfl | (simp only [addC, upd]; (repeat' split) <;> first | rfl | omega | (exfalso; omega) | (congr 1; omega))
  have h_ch_9 : ∀ j, j < 4 → ((upd (fun j => z (45 + 3 * j + 2)) (nC z) h0) : ZZ) j = ((fun j => (addC z d0 s0 h0) (45 + 3 * j + 2)) : ZZ) j := by intro j hj; first | rfl | (simp only [addC, upd]; (repeat' split) <;> first | rfl | omega | (exfalso; omega) | (congr 1; omega))
  have h_sg_10 : ∀ j, j < 3 → (z : ZZ) j = ((addC z d0 s0 h0) : ZZ) j := by intro j hj; first | rfl | (simp only [addC, upd]; (repeat' split) <;> first | rfl | omega | (exfalso; omega) | (congr 1; omega))
  have hP := hw_ext hP _ _ _ _ _ _ _ _ h_ro_1 h_di_2 h_hg_3 h_se_4 h_ta_5 h_co_6 h_cd_7 h_cs_8 h_ch_9 h_sg_10
  have hP : va_P D vwCl (HW b cI (addC z d0 s0 h0)) H := hP
  have hD : va_D (kA w0) (HW b cI (addC z d0 s0 h0)) := vaD_x hD rfl
  subst hw0
  exact kq_iret hx hb hrt hlocks (congrArg nI e_0) hP hD hS dX0_insertColumn_46
set_option maxRecDepth 20000 in
theorem iX0_deleteColumn_0 : ∀ w ∈ wsX00, w ∈ wsX0_deleteColumn := by decide +kernel
set_option maxHeartbeats 4000000 in
set_option maxRecDepth 100000 in
theorem c_X0_deleteColumn (l : Launch) (D : va_G) (cI cC cH cL : ClassId) (b : Nat → Nat) (z : ZZ) (k0 : Nat) (hw : WF z) (hk : k0 < nC z) : Met l yX0_deleteColumn wsX0_deleteColumn ({ frames := 0, cells := 0, slots := 0, locals := 0 }) (kw [.ref (b 0), .int (nI k0)] D (HW b cI z) (kT cI cC cH cL)) (kq D (HW b cI z) (HW b cI (dlcZ z k0)) (.returned none)) 0 0 (kA (HW b cI z)) := by
  refine Met.ofW (cc := cX0_deleteColumn) (maxL := 3) (ret := none) (by decide) rfl ?_
  intro p e s m args below meth c s₁ B hml hv
  obtain ⟨rfl, hP, hK, hD0⟩ := hv
  have hx := B.exec
  have hb := B.bytes
  have hrt := B.returns
  have hts := atoms_spec (ws := wsX0_deleteColumn) B.pre
  have hown : s.vm.findClass RX0 = some m.cls := findClass_of_methodNamed B.named
  have hlocks := B.notSynchronized
  have hl := lv_entry ([.ref (b 0), .int (nI k0)]) (n := 3) (Nat.le_of_ble_eq_true rfl)
  rw [lg_entry_eq]
  generalize (lg_sl ([.ref (b 0), .int (nI k0)]) ++ List.replicate (3 - (lg_sl ([.ref (b 0), .int (nI k0)])).length) Slot.unset).toArray = ls at hl ⊢
  have hl : lv_has ls 3 [(0, .ref (b 0)), (1, .int (nI k0))] := hl
  have hD := kA_self hD0
  obtain ⟨w0, hw0⟩ : ∃ w : va_W, w = HW b cI z := ⟨_, rfl⟩
  have hD : va_D (kA w0) (HW b cI z) := by rw [hw0]; exact hD
  have hS : va_S (kA w0) s.heap s.heap [] := va_S.rf
  rw [show kA (HW b cI z) = kA w0 from by rw [hw0], show kq D (HW b cI z) = kq D w0 from by rw [hw0]]
  have hP : va_P D vwCl (HW b cI z) s.heap := hP
  have hR10 := wf_R10 hw
  have hC4 := wf_C4 hw
  refine lv_iload_n hx hb dX0_deleteColumn_0 rfl (lv_at hl 1 rfl) ?_
  refine lv_iconst (v := nI 1) hx hb dX0_deleteColumn_1 (by decide) ?_
  refine kx_iadd hx hb dX0_deleteColumn_2 ?_
  refine lv_istore_n (lv' := [(2, .int (nI (k0 + 1))), (0, .ref (b 0)), (1, .int (nI k0))]) hx hb dX0_deleteColumn_3 rfl hl (by decide) rfl (fun ls hl => ?_)
  have e4_0 : (k0 + 1 : Nat) = ((k0 + 1)) := by first | rfl | omega | (simp [Int32.not_lt, Int32.not_le]; done) | (simp [Int32.not_lt, Int32.not_le]; omega)
  have hl4_1 : lv_has ls 3 [(0, .ref (b 0)), (1, .int (nI k0)), (2, .int (nI (k0 + 1)))] := lv_eqv (l1 := [(0, .ref (b 0)), (1, .int (nI k0)), (2, .int (nI (k0 + 1)))]) (lv_sub hl [1, 2, 0] rfl) (lv_ce rfl (lv_ce rfl (lv_ce (congrArg (fun x => Value.int (nI x)) e4_0) rfl)))
  have ec_cd_2 : ((fun j => z (45 + 3 * j)) : ZZ) = (dlA (fun j => z (45 + 3 * j)) k0 (k0 + 1)) := by funext jj; simp only [upd, dlA]; (repeat' split) <;> first | rfl | omega | (exfalso; omega) | (congr 1; omega)
  have ec_cs_3 : ((fun j => z (45 + 3 * j + 1)) : ZZ) = (dlA (fun j => z (45 + 3 * j + 1)) k0 (k0 + 1)) := by funext jj; simp only [upd, dlA]; (repeat' split) <;> first | rfl | omega | (exfalso; omega) | (congr 1; omega)
  have ec_ch_4 : ((fun j => z (45 + 3 * j + 2)) : ZZ) = (dlA (fun j => z (45 + 3 * j + 2)) k0 (k0 + 1)) := by funext jj; simp only [upd, dlA]; (repeat' split) <;> first | rfl | omega | (exfalso; omega) | (congr 1; omega)
  have ew_5 : (HW b cI z : va_W) = (HR b cI (z 3) (fun j => z (5 + 4 * j)) (fun j => z (5 + 4 * j + 1)) (fun j => z (5 + 4 * j + 2)) (fun j => z (5 + 4 * j + 3)) (z 4) (dlA (fun j => z (45 + 3 * j)) k0 (k0 + 1)) (dlA (fun j => z (45 + 3 * j + 1)) k0 (k0 + 1)) (dlA (fun j => z (45 + 3 * j + 2)) k0 (k0 + 1)) z) := hr_c rfl rfl rfl rfl rfl rfl ec_cd_2 ec_cs_3 ec_ch_4 rfl
  rw [ew_5] at hP hD
  refine kx_upW (fun k H locs ls => (va_P D vwCl (HR b cI (z 3) (fun j => z (5 + 4 * j)) (fun j => z (5 + 4 * j + 1)) (fun j => z (5 + 4 * j + 2)) (fun j => z (5 + 4 * j + 3)) (z 4) (dlA (fun j => z (45 + 3 * j)) k0 k) (dlA (fun j => z (45 + 3 * j + 1)) k0 k) (dlA (fun j => z (45 + 3 * j + 2)) k0 k) z) H ∧ va_D (kA w0) (HR b cI (z 3) (fun j => z (5 + 4 * j)) (fun j => z (5 + 4 * j + 1)) (fun j => z (5 + 4 * j + 2)) (fun j => z (5 + 4 * j + 3)) (z 4) (dlA (fun j => z (45 + 3 * j)) k0 k) (dlA (fun j => z (45 + 3 * j + 1)) k0 k) (dlA (fun j => z (45 + 3 * j + 2)) k0 k) z) ∧ va_S (kA w0) s.heap H locs) ∧ lv_has ls 3 [(0, .ref (b 0)), (1, .int (nI k0)), (2, .int (nI k))]) (k0 + 1) (nC z) (by omega) _ _ ls ⟨⟨hP, hD, hS⟩, hl4_1⟩ ?_
  clear hP hD hS
  intro ik H locs ls hikl hikh hp ih4
  obtain ⟨⟨hP, hD, hS⟩, hp⟩ := hp
  have hl := hp
  refine lv_iload_n hx hb dX0_deleteColumn_4 rfl (lv_at hl 2 rfl) ?_
  refine lv_aload_n hx hb dX0_deleteColumn_5 rfl (lv_at hl 0 rfl) ?_
  refine va_get (D := D) (ci := 0) (v := .int (z 4)) (C := RX0) (T := TX0) (N := 10) hx hb hts iX0_deleteColumn_0 hown hK hP 0 rfl rfl 5 (by decide) (hts (.fieldLink RX0 46 "HallSights$Hall" "columns" "I") (List.mem_of_getElem? (i := 1) rfl)) (fun _ h9 => h9) rfl dX0_deleteColumn_6 ?_
  refine kx_top (wf_C hw) ?_
  refine kx_icmp_ge (tgt := 60) hx hb (by omega) (by omega) dX0_deleteColumn_9 (by decide) (fun c_9_6 => ?_) (fun c_9_7 => ?_)
  · have hq8 : nC z = ik := by omega
    subst hq8
    refine lv_aload_n hx hb dX0_deleteColumn_60 rfl (lv_at hl 0 rfl) ?_
    refine lv_dup hx hb dX0_deleteColumn_61 rfl ?_
    refine va_get (D := D) (ci := 0) (v := .int (z 4)) (C := RX0) (T := TX0) (N := 10) hx hb hts iX0_deleteColumn_0 hown hK hP 0 rfl rfl 5 (by decide) (hts (.fieldLink RX0 46 "HallSights$Hall" "columns" "I") (List.mem_of_getElem? (i := 1) rfl)) (fun _ h9 => h9) rfl dX0_deleteColumn_62 ?_
    refine kx_top (wf_C hw) ?_
    refine lv_iconst (v := nI 1) hx hb dX0_deleteColumn_65 (by decide) ?_
    refine kx_isub hx hb (by omega) dX0_deleteColumn_66 ?_
    refine va_put (D := D) (ci := 0) (v := .int (nI ((nC z) - 1))) (ty := .int) (C := RX0) (T := TX0) (N := 10) hx hb hts iX0_deleteColumn_0 tyX0 tyX0_ok nmX0 hown hK hP hD hS 0 rfl rfl 5 (by decide) (hts (.fieldLink RX0 46 "HallSights$Hall" "columns" "I") (List.mem_of_getElem? (i := 1) rfl)) (fun _ h9 => h9) rfl (by decide +kernel) rfl rfl (Nat.le_of_ble_eq_true rfl) dX0_deleteColumn_67 (fun H locs hP hD hS => ?_)
    have hP : va_P D vwCl (HR b cI (z 3) (fun j => z (5 + 4 * j)) (fun j => z (5 + 4 * j + 1)) (fun j => z (5 + 4 * j + 2)) (fun j => z (5 + 4 * j + 3)) (nI ((nC z) - 1)) (dlA (fun j => z (45 + 3 * j)) k0 (nC z)) (dlA (fun j => z (45 + 3 * j + 1)) k0 (nC z)) (dlA (fun j => z (45 + 3 * j + 2)) k0 (nC z)) z) H := hP
    have hD : va_D (kA w0) (HR b cI (z 3) (fun j => z (5 + 4 * j)) (fun j => z (5 + 4 * j + 1)) (fun j => z (5 + 4 * j + 2)) (fun j => z (5 + 4 * j + 3)) (nI ((nC z) - 1)) (dlA (fun j => z (45 + 3 * j)) k0 (nC z)) (dlA (fun j => z (45 + 3 * j + 1)) k0 (nC z)) (dlA (fun j => z (45 + 3 * j + 2)) k0 (nC z)) z) := hD
    have h_ro_9 : (z 3 : Int32) = (dlcZ z k0) 3 := by first | rfl | (simp only [dlcZ, dlcS, dlA, upd]; (repeat' split) <;> first | rfl | omega | (exfalso; omega) | (congr 1; omega))
    have h_di_10 : ∀ j, j < 10 → ((fun j => z (5 + 4 * j)) : ZZ) j = ((fun j => (dlcZ z k0) (5 + 4 * j)) : ZZ) j := by intro j hj; first | rfl | (simp only [dlcZ, dlcS, dlA, upd]; (repeat' split) <;> first | rfl | omega | (exfalso; omega) | (congr 1; omega))
    have h_hg_11 : ∀ j, j < 10 → ((fun j => z (5 + 4 * j + 1)) : ZZ) j = ((fun j => (dlcZ z k0) (5 + 4 * j + 1)) : ZZ) j := by intro j hj; first | rfl | (simp only [dlcZ, dlcS, dlA, upd]; (repeat' split) <;> first | rfl | omega | (exfalso; omega) | (congr 1; omega))
    have h_se_12 : ∀ j, j < 10 → ((fun j => z (5 + 4 * j + 2)) : ZZ) j = ((fun j => (dlcZ z k0) (5 + 4 * j + 2)) : ZZ) j := by intro j hj; first | rfl | (simp only [dlcZ, dlcS, dlA, upd]; (repeat' split) <;> first | rfl | omega | (exfalso; omega) | (congr 1; omega))
    have h_ta_13 : ∀ j, j < 10 → ((fun j => z (5 + 4 * j + 3)) : ZZ) j = ((fun j => (dlcZ z k0) (5 + 4 * j + 3)) : ZZ) j := by intro j hj; first | rfl | (simp only [dlcZ, dlcS, dlA, upd]; (repeat' split) <;> first | rfl | omega | (exfalso; omega) | (congr 1; omega))
    have h_co_14 : (nI ((nC z) - 1) : Int32) = (dlcZ z k0) 4 := by first | rfl | (simp only [dlcZ, dlcS, dlA, upd]; (repeat' split) <;> first | rfl | omega | (exfalso; omega) | (congr 1; omega))
    have h_cd_15 : ∀ j, j < 4 → ((dlA (fun j => z (45 + 3 * j)) k0 (nC z)) : ZZ) j = ((fun j => (dlcZ z k0) (45 + 3 * j)) : ZZ) j := by intro j hj; first | rfl | (simp only [dlcZ, dlcS, dlA, upd]; (repeat' split) <;> first | rfl | omega | (exfalso; omega) | (congr 1; omega))
    have h_cs_16 : ∀ j, j < 4 → ((dlA (fun j => z (45 + 3 * j + 1)) k0 (nC z)) : ZZ) j = ((fun j => (dlcZ z k0) (45 + 3 * j + 1)) : ZZ) j := by intro j hj; first | rfl | (simp only [dlcZ, dlcS, dlA, upd]; (repeat' split) <;> first | rfl | omega | (exfalso; omega) | (congr 1; omega))
    have h_ch_17 : ∀ j, j < 4 → ((dlA (fun j => z (45 + 3 * j + 2)) k0 (nC z)) : ZZ) j = ((fun j => (dlcZ z k0) (45 + 3 * j + 2)) : ZZ) j := by intro j hj; first | rfl | (simp only [dlcZ, dlcS, dlA, upd]; (repeat' split) <;> first | rfl | omega | (exfalso; omega) | (congr 1; omega))
    have h_sg_18 : ∀ j, j < 3 → (z : ZZ) j = ((dlcZ z k0) : ZZ) j := by intro j hj; first | rfl | (simp only [dlcZ, dlcS, dlA, upd]; (repeat' split) <;> first | rfl | omega | (exfalso; omega) | (congr 1; omega))
    have hP := hw_ext hP _ _ _ _ _ _ _ _ h_ro_9 h_di_10 h_hg_11 h_se_12 h_ta_13 h_co_14 h_cd_15 h_cs_16 h_ch_17 h_sg_18
    have hP : va_P D vwCl (HW b cI (dlcZ z k0)) H := hP
    have hD : va_D (kA w0) (HW b cI (dlcZ z k0)) := vaD_x hD rfl
    subst hw0
    exact kq_vret hx hb hrt hlocks hP hD hS dX0_deleteColumn_70
  · refine lv_aload_n hx hb dX0_deleteColumn_12 rfl (lv_at hl 0 rfl) ?_
    refine va_get (D := D) (ci := 0) (v := .ref (b 5)) (C := RX0) (T := TX0) (N := 10) hx hb hts iX0_deleteColumn_0 hown hK hP 0 rfl rfl 6 (by decide) (hts (.fieldLink RX0 24 "HallSights$Hall" "columnDistances" "[I") (List.mem_of_getElem? (i := 2) rfl)) (fun _ h9 => h9) rfl dX0_deleteColumn_13 ?_
    refine lv_iload_n hx hb dX0_deleteColumn_16 rfl (lv_at hl 2 rfl) ?_
    refine lv_iconst (v := nI 1) hx hb dX0_deleteColumn_17 (by decide) ?_
    refine kx_isub hx hb (by omega) dX0_deleteColumn_18 ?_
    refine lv_aload_n hx hb dX0_deleteColumn_19 rfl (lv_at hl 0 rfl) ?_
    refine va_get (D := D) (ci := 0) (v := .ref (b 5)) (C := RX0) (T := TX0) (N := 10) hx hb hts iX0_deleteColumn_0 hown hK hP 0 rfl rfl 6 (by decide) (hts (.fieldLink RX0 24 "HallSights$Hall" "columnDistances" "[I") (List.mem_of_getElem? (i := 2) rfl)) (fun _ h9 => h9) rfl dX0_deleteColumn_20 ?_
    refine lv_iload_n hx hb dX0_deleteColumn_23 rfl (lv_at hl 2 rfl) ?_
    refine kx_iald hx hb hK hP 5 0 rfl rfl (by omega) (by decide) dX0_deleteColumn_24 ?_
    refine kx_iast hx hb hK hP hD hS 5 0 rfl rfl (by omega) (by decide) dX0_deleteColumn_25 (fun H locs hP hD hS => ?_)
    have hP : va_P D vwCl (HR b cI (z 3) (fun j => z (5 + 4 * j)) (fun j => z (5 + 4 * j + 1)) (fun j => z (5 + 4 * j + 2)) (fun j => z (5 + 4 * j + 3)) (z 4) (upd (dlA (fun j => z (45 + 3 * j)) k0 ik) (ik - 1) ((dlA (fun j => z (45 + 3 * j)) k0 ik) ik)) (dlA (fun j => z (45 + 3 * j + 1)) k0 ik) (dlA (fun j => z (45 + 3 * j + 2)) k0 ik) z) H := hP
    have hD : va_D (kA w0) (HR b cI (z 3) (fun j => z (5 + 4 * j)) (fun j => z (5 + 4 * j + 1)) (fun j => z (5 + 4 * j + 2)) (fun j => z (5 + 4 * j + 3)) (z 4) (upd (dlA (fun j => z (45 + 3 * j)) k0 ik) (ik - 1) ((dlA (fun j => z (45 + 3 * j)) k0 ik) ik)) (dlA (fun j => z (45 + 3 * j + 1)) k0 ik) (dlA (fun j => z (45 + 3 * j + 2)) k0 ik) z) := hD
    refine lv_aload_n hx hb dX0_deleteColumn_26 rfl (lv_at hl 0 rfl) ?_
    refine va_get (D := D) (ci := 0) (v := .ref (b 6)) (C := RX0) (T := TX0) (N := 10) hx hb hts iX0_deleteColumn_0 hown hK hP 0 rfl rfl 7 (by decide) (hts (.fieldLink RX0 27 "HallSights$Hall" "columnSides" "[I") (List.mem_of_getElem? (i := 3) rfl)) (fun _ h9 => h9) rfl dX0_deleteColumn_27 ?_
    refine lv_iload_n hx hb dX0_deleteColumn_30 rfl (lv_at hl 2 rfl) ?_
    refine lv_iconst (v := nI 1) hx hb dX0_deleteColumn_31 (by decide) ?_
    refine kx_isub hx hb (by omega) dX0_deleteColumn_32 ?_
    refine lv_aload_n hx hb dX0_deleteColumn_33 rfl (lv_at hl 0 rfl) ?_
    refine va_get (D := D) (ci := 0) (v := .ref (b 6)) (C := RX0) (T := TX0) (N := 10) hx hb hts iX0_deleteColumn_0 hown hK hP 0 rfl rfl 7 (by decide) (hts (.fieldLink RX0 27 "HallSights$Hall" "columnSides" "[I") (List.mem_of_getElem? (i := 3) rfl)) (fun _ h9 => h9) rfl dX0_deleteColumn_34 ?_
    refine lv_iload_n hx hb dX0_deleteColumn_37 rfl (lv_at hl 2 rfl) ?_
    refine kx_iald hx hb hK hP 6 0 rfl rfl (by omega) (by decide) dX0_deleteColumn_38 ?_
    refine kx_iast hx hb hK hP hD hS 6 0 rfl rfl (by omega) (by decide) dX0_deleteColumn_39 (fun H locs hP hD hS => ?_)
    have hP : va_P D vwCl (HR b cI (z 3) (fun j => z (5 + 4 * j)) (fun j => z (5 + 4 * j + 1)) (fun j => z (5 + 4 * j + 2)) (fun j => z (5 + 4 * j + 3)) (z 4) (upd (dlA (fun j => z (45 + 3 * j)) k0 ik) (ik - 1) ((dlA (fun j => z (45 + 3 * j)) k0 ik) ik)) (upd (dlA (fun j => z (45 + 3 * j + 1)) k0 ik) (ik - 1) ((dlA (fun j => z (45 + 3 * j + 1)) k0 ik) ik)) (dlA (fun j => z (45 + 3 * j + 2)) k0 ik) z) H := hP
    have hD : va_D (kA w0) (HR b cI (z 3) (fun j => z (5 + 4 * j)) (fun j => z (5 + 4 * j + 1)) (fun j => z (5 + 4 * j + 2)) (fun j => z (5 + 4 * j + 3)) (z 4) (upd (dlA (fun j => z (45 + 3 * j)) k0 ik) (ik - 1) ((dlA (fun j => z (45 + 3 * j)) k0 ik) ik)) (upd (dlA (fun j => z (45 + 3 * j + 1)) k0 ik) (ik - 1) ((dlA (fun j => z (45 + 3 * j + 1)) k0 ik) ik)) (dlA (fun j => z (45 + 3 * j + 2)) k0 ik) z) := hD
    refine lv_aload_n hx hb dX0_deleteColumn_40 rfl (lv_at hl 0 rfl) ?_
    refine va_get (D := D) (ci := 0) (v := .ref (b 7)) (C := RX0) (T := TX0) (N := 10) hx hb hts iX0_deleteColumn_0 hown hK hP 0 rfl rfl 8 (by decide) (hts (.fieldLink RX0 30 "HallSights$Hall" "columnHalves" "[I") (List.mem_of_getElem? (i := 4) rfl)) (fun _ h9 => h9) rfl dX0_deleteColumn_41 ?_
    refine lv_iload_n hx hb dX0_deleteColumn_44 rfl (lv_at hl 2 rfl) ?_
    refine lv_iconst (v := nI 1) hx hb dX0_deleteColumn_45 (by decide) ?_
    refine kx_isub hx hb (by omega) dX0_deleteColumn_46 ?_
    refine lv_aload_n hx hb dX0_deleteColumn_47 rfl (lv_at hl 0 rfl) ?_
    refine va_get (D := D) (ci := 0) (v := .ref (b 7)) (C := RX0) (T := TX0) (N := 10) hx hb hts iX0_deleteColumn_0 hown hK hP 0 rfl rfl 8 (by decide) (hts (.fieldLink RX0 30 "HallSights$Hall" "columnHalves" "[I") (List.mem_of_getElem? (i := 4) rfl)) (fun _ h9 => h9) rfl dX0_deleteColumn_48 ?_
    refine lv_iload_n hx hb dX0_deleteColumn_51 rfl (lv_at hl 2 rfl) ?_
    refine kx_iald hx hb hK hP 7 0 rfl rfl (by omega) (by decide) dX0_deleteColumn_52 ?_
    refine kx_iast hx hb hK hP hD hS 7 0 rfl rfl (by omega) (by decide) dX0_deleteColumn_53 (fun H locs hP hD hS => ?_)
    have hP : va_P D vwCl (HR b cI (z 3) (fun j => z (5 + 4 * j)) (fun j => z (5 + 4 * j + 1)) (fun j => z (5 + 4 * j + 2)) (fun j => z (5 + 4 * j + 3)) (z 4) (upd (dlA (fun j => z (45 + 3 * j)) k0 ik) (ik - 1) ((dlA (fun j => z (45 + 3 * j)) k0 ik) ik)) (upd (dlA (fun j => z (45 + 3 * j + 1)) k0 ik) (ik - 1) ((dlA (fun j => z (45 + 3 * j + 1)) k0 ik) ik)) (upd (dlA (fun j => z (45 + 3 * j + 2)) k0 ik) (ik - 1) ((dlA (fun j => z (45 + 3 * j + 2)) k0 ik) ik)) z) H := hP
    have hD : va_D (kA w0) (HR b cI (z 3) (fun j => z (5 + 4 * j)) (fun j => z (5 + 4 * j + 1)) (fun j => z (5 + 4 * j + 2)) (fun j => z (5 + 4 * j + 3)) (z 4) (upd (dlA (fun j => z (45 + 3 * j)) k0 ik) (ik - 1) ((dlA (fun j => z (45 + 3 * j)) k0 ik) ik)) (upd (dlA (fun j => z (45 + 3 * j + 1)) k0 ik) (ik - 1) ((dlA (fun j => z (45 + 3 * j + 1)) k0 ik) ik)) (upd (dlA (fun j => z (45 + 3 * j + 2)) k0 ik) (ik - 1) ((dlA (fun j => z (45 + 3 * j + 2)) k0 ik) ik)) z) := hD
    refine lv_iinc (v := nI (ik + 1)) (lv' := [(2, .int (nI (ik + 1))), (0, .ref (b 0)), (1, .int (nI k0))]) hx hb dX0_deleteColumn_54 hl (k := 2) rfl (kx_inc 1) (by decide) rfl (fun ls hl => ?_)
    refine lv_goto (tgt := 4) hx hb dX0_deleteColumn_57 (by decide) ?_
    have e4_19 : (ik + 1 : Nat) = ((ik + 1)) := by first | rfl | omega | (simp [Int32.not_lt, Int32.not_le, c_9_7, Nat.not_le.mpr c_9_7]; done) | (simp [Int32.not_lt, Int32.not_le, c_9_7, Nat.not_le.mpr c_9_7]; omega) | (revert c_9_7; simp +contextual [Int32.not_lt, Int32.not_le]; done) | (revert c_9_7; simp +contextual [Int32.not_lt, Int32.not_le]; omega)
    have hl4_20 : lv_has ls 3 [(0, .ref (b 0)), (1, .int (nI k0)), (2, .int (nI (ik + 1)))] := lv_eqv (l1 := [(0, .ref (b 0)), (1, .int (nI k0)), (2, .int (nI (ik + 1)))]) (lv_sub hl [1, 2, 0] rfl) (lv_ce rfl (lv_ce rfl (lv_ce (congrArg (fun x => Value.int (nI x)) e4_19) rfl)))
    have ec_cd_21 : ((upd (dlA (fun j => z (45 + 3 * j)) k0 ik) (ik - 1) ((dlA (fun j => z (45 + 3 * j)) k0 ik) ik)) : ZZ) = (dlA (fun j => z (45 + 3 * j)) k0 (ik + 1)) := by funext jj; simp only [upd, dlA]; (repeat' split) <;> first | rfl | omega | (exfalso; omega) | (congr 1; omega)
    have ec_cs_22 : ((upd (dlA (fun j => z (45 + 3 * j + 1)) k0 ik) (ik - 1) ((dlA (fun j => z (45 + 3 * j + 1)) k0 ik) ik)) : ZZ) = (dlA (fun j => z (45 + 3 * j + 1)) k0 (ik + 1)) := by funext jj; simp only [upd, dlA]; (repeat' split) <;> first | rfl | omega | (exfalso; omega) | (congr 1; omega)
    have ec_ch_23 : ((upd (dlA (fun j => z (45 + 3 * j + 2)) k0 ik) (ik - 1) ((dlA (fun j => z (45 + 3 * j + 2)) k0 ik) ik)) : ZZ) = (dlA (fun j => z (45 + 3 * j + 2)) k0 (ik + 1)) := by funext jj; simp only [upd, dlA]; (repeat' split) <;> first | rfl | omega | (exfalso; omega) | (congr 1; omega)
    have ew_24 : (HR b cI (z 3) (fun j => z (5 + 4 * j)) (fun j => z (5 + 4 * j + 1)) (fun j => z (5 + 4 * j + 2)) (fun j => z (5 + 4 * j + 3)) (z 4) (upd (dlA (fun j => z (45 + 3 * j)) k0 ik) (ik - 1) ((dlA (fun j => z (45 + 3 * j)) k0 ik) ik)) (upd (dlA (fun j => z (45 + 3 * j + 1)) k0 ik) (ik - 1) ((dlA (fun j => z (45 + 3 * j + 1)) k0 ik) ik)) (upd (dlA (fun j => z (45 + 3 * j + 2)) k0 ik) (ik - 1) ((dlA (fun j => z (45 + 3 * j + 2)) k0 ik) ik)) z : va_W) = (HR b cI (z 3) (fun j => z (5 + 4 * j)) (fun j => z (5 + 4 * j + 1)) (fun j => z (5 + 4 * j + 2)) (fun j => z (5 + 4 * j + 3)) (z 4) (dlA (fun j => z (45 + 3 * j)) k0 (ik + 1)) (dlA (fun j => z (45 + 3 * j + 1)) k0 (ik + 1)) (dlA (fun j => z (45 + 3 * j + 2)) k0 (ik + 1)) z) := hr_c rfl rfl rfl rfl rfl rfl ec_cd_21 ec_cs_22 ec_ch_23 rfl
    rw [ew_24] at hP hD
    exact ih4 _ _ _ (by omega) ⟨⟨hP, hD, hS⟩, hl4_20⟩
set_option maxRecDepth 20000 in
theorem iX0_occupy_0 : ∀ w ∈ wsX00, w ∈ wsX0_occupy := by decide +kernel
set_option maxHeartbeats 4000000 in
set_option maxRecDepth 100000 in
theorem c_X0_occupy (l : Launch) (D : va_G) (cI cC cH cL : ClassId) (b : Nat → Nat) (z : ZZ) (r0 : Nat) (f0 : Nat) (m0 : Nat) (hr : r0 < 10) : Met l yX0_occupy wsX0_occupy ({ frames := 1, cells := 0, slots := 0, locals := 21 }) (kw [.ref (b 0), .int (nI r0), .int (nI f0), .int (nI m0)] D (HW b cI z) (kT cI cC cH cL)) (kq D (HW b cI z) (HW b cI (occZ z r0 f0 m0)) (.returned none)) 0 0 (kA (HW b cI z)) := by
  refine Met.ofW (cc := cX0_occupy) (maxL := 4) (ret := none) (by decide) rfl ?_
  intro p e s m args below meth c s₁ B hml hv
  obtain ⟨rfl, hP, hK, hD0⟩ := hv
  have hx := B.exec
  have hb := B.bytes
  have hrt := B.returns
  have hts := atoms_spec (ws := wsX0_occupy) B.pre
  have hown : s.vm.findClass RX0 = some m.cls := findClass_of_methodNamed B.named
  have hlocks := B.notSynchronized
  have hl := lv_entry ([.ref (b 0), .int (nI r0), .int (nI f0), .int (nI m0)]) (n := 4) (Nat.le_of_ble_eq_true rfl)
  rw [lg_entry_eq]
  generalize (lg_sl ([.ref (b 0), .int (nI r0), .int (nI f0), .int (nI m0)]) ++ List.replicate (4 - (lg_sl ([.ref (b 0), .int (nI r0), .int (nI f0), .int (nI m0)])).length) Slot.unset).toArray = ls at hl ⊢
  have hl : lv_has ls 4 [(0, .ref (b 0)), (1, .int (nI r0)), (2, .int (nI f0)), (3, .int (nI m0))] := hl
  have hD := kA_self hD0
  obtain ⟨w0, hw0⟩ : ∃ w : va_W, w = HW b cI z := ⟨_, rfl⟩
  have hD : va_D (kA w0) (HW b cI z) := by rw [hw0]; exact hD
  have hS : va_S (kA w0) s.heap s.heap [] := va_S.rf
  rw [show kA (HW b cI z) = kA w0 from by rw [hw0], show kq D (HW b cI z) = kq D w0 from by rw [hw0]]
  have hP : va_P D vwCl (HW b cI z) s.heap := hP
  refine lv_aload_n hx hb dX0_occupy_0 rfl (lv_at hl 0 rfl) ?_
  refine va_get (D := D) (ci := 0) (v := .ref (b 4)) (C := RX0) (T := TX0) (N := 10) hx hb hts iX0_occupy_0 hown hK hP 0 rfl rfl 4 (by decide) (hts (.fieldLink RX0 21 "HallSights$Hall" "taken" "[I") (List.mem_of_getElem? (i := 1) rfl)) (fun _ h9 => h9) rfl dX0_occupy_1 ?_
  refine lv_iload_n hx hb dX0_occupy_4 rfl (lv_at hl 1 rfl) ?_
  refine lv_aload_n hx hb dX0_occupy_5 rfl (lv_at hl 0 rfl) ?_
  refine va_get (D := D) (ci := 0) (v := .ref (b 4)) (C := RX0) (T := TX0) (N := 10) hx hb hts iX0_occupy_0 hown hK hP 0 rfl rfl 4 (by decide) (hts (.fieldLink RX0 21 "HallSights$Hall" "taken" "[I") (List.mem_of_getElem? (i := 1) rfl)) (fun _ h9 => h9) rfl dX0_occupy_6 ?_
  refine lv_iload_n hx hb dX0_occupy_9 rfl (lv_at hl 1 rfl) ?_
  refine kx_iald hx hb hK hP 4 0 rfl rfl (by omega) (by decide) dX0_occupy_10 ?_
  refine lv_iload_n hx hb dX0_occupy_11 rfl (lv_at hl 2 rfl) ?_
  refine lv_iload_n hx hb dX0_occupy_12 rfl (lv_at hl 3 rfl) ?_
  refine kr_S (As := [.int (nI f0), .int (nI m0)]) (rest := [.int (z (5 + 4 * r0 + 3)), .int (nI r0), .ref (b 4)]) (own := RX0) ⟨hx, hb, hml, hown, hts⟩ (c_X0_bitsOf l D cI cC cH cL  f0 m0 ) (va_cwS 2 hts gX0_occupy_X0_bitsOf rfl rfl rfl k_X0_bitsOfS ⟨Nat.le_of_ble_eq_true rfl, Nat.le_of_ble_eq_true rfl⟩) (hP.sub (ws' := []) [] rfl) hK rfl hl.1 rfl (Nat.le_of_ble_eq_true rfl) dX0_occupy_13 ⟨Nat.le_of_ble_eq_true rfl, Nat.le_of_ble_eq_true rfl⟩ ?_
  refine lv_ior hx hb dX0_occupy_16 ?_
  refine kx_iast hx hb hK hP hD hS 4 0 rfl rfl (by omega) (by decide) dX0_occupy_17 (fun H locs hP hD hS => ?_)
  have hP : va_P D vwCl (HR b cI (z 3) (fun j => z (5 + 4 * j)) (fun j => z (5 + 4 * j + 1)) (fun j => z (5 + 4 * j + 2)) (upd (fun j => z (5 + 4 * j + 3)) r0 ((z (5 + 4 * r0 + 3)) ||| (bitsI f0 m0))) (z 4) (fun j => z (45 + 3 * j)) (fun j => z (45 + 3 * j + 1)) (fun j => z (45 + 3 * j + 2)) z) H := hP
  have hD : va_D (kA w0) (HR b cI (z 3) (fun j => z (5 + 4 * j)) (fun j => z (5 + 4 * j + 1)) (fun j => z (5 + 4 * j + 2)) (upd (fun j => z (5 + 4 * j + 3)) r0 ((z (5 + 4 * r0 + 3)) ||| (bitsI f0 m0))) (z 4) (fun j => z (45 + 3 * j)) (fun j => z (45 + 3 * j + 1)) (fun j => z (45 + 3 * j + 2)) z) := hD
  have h_ro_0 : (z 3 : Int32) = (occZ z r0 f0 m0) 3 := by first | rfl | (simp only [occZ, upd]; (repeat' split) <;> first | rfl | omega | (exfalso; omega) | (congr 1; omega))
  have h_di_1 : ∀ j, j < 10 → ((fun j => z (5 + 4 * j)) : ZZ) j = ((fun j => (occZ z r0 f0 m0) (5 + 4 * j)) : ZZ) j := by intro j hj; first | rfl | (simp only [occZ, upd]; (repeat' split) <;> first | rfl | omega | (exfalso; omega) | (congr 1; omega))
  have h_hg_2 : ∀ j, j < 10 → ((fun j => z (5 + 4 * j + 1)) : ZZ) j = ((fun j => (occZ z r0 f0 m0) (5 + 4 * j + 1)) : ZZ) j := by intro j hj; first | rfl | (simp only [occZ, upd]; (repeat' split) <;> first | rfl | omega | (exfalso; omega) | (congr 1; omega))
  have h_se_3 : ∀ j, j < 10 → ((fun j => z (5 + 4 * j + 2)) : ZZ) j = ((fun j => (occZ z r0 f0 m0) (5 + 4 * j + 2)) : ZZ) j := by intro j hj; first | rfl | (simp only [occZ, upd]; (repeat' split) <;> first | rfl | omega | (exfalso; omega) | (congr 1; omega))
  have h_ta_4 : ∀ j, j < 10 → ((upd (fun j => z (5 + 4 * j + 3)) r0 ((z (5 + 4 * r0 + 3)) ||| (bitsI f0 m0))) : ZZ) j = ((fun j => (occZ z r0 f0 m0) (5 + 4 * j + 3)) : ZZ) j := by intro j hj; first | rfl | (simp only [occZ, upd]; (repeat' split) <;> first | rfl | omega | (exfalso; omega) | (congr 1; omega))
  have h_co_5 : (z 4 : Int32) = (occZ z r0 f0 m0) 4 := by first | rfl | (simp only [occZ, upd]; (repeat' split) <;> first | rfl | omega | (exfalso; omega) | (congr 1; omega))
  have h_cd_6 : ∀ j, j < 4 → ((fun j => z (45 + 3 * j)) : ZZ) j = ((fun j => (occZ z r0 f0 m0) (45 + 3 * j)) : ZZ) j := by intro j hj; first | rfl | (simp only [occZ, upd]; (repeat' split) <;> first | rfl | omega | (exfalso; omega) | (congr 1; omega))
  have h_cs_7 : ∀ j, j < 4 → ((fun j => z (45 + 3 * j + 1)) : ZZ) j = ((fun j => (occZ z r0 f0 m0) (45 + 3 * j + 1)) : ZZ) j := by intro j hj; first | rfl | (simp only [occZ, upd]; (repeat' split) <;> first | rfl | omega | (exfalso; omega) | (congr 1; omega))
  have h_ch_8 : ∀ j, j < 4 → ((fun j => z (45 + 3 * j + 2)) : ZZ) j = ((fun j => (occZ z r0 f0 m0) (45 + 3 * j + 2)) : ZZ) j := by intro j hj; first | rfl | (simp only [occZ, upd]; (repeat' split) <;> first | rfl | omega | (exfalso; omega) | (congr 1; omega))
  have h_sg_9 : ∀ j, j < 3 → (z : ZZ) j = ((occZ z r0 f0 m0) : ZZ) j := by intro j hj; first | rfl | (simp only [occZ, upd]; (repeat' split) <;> first | rfl | omega | (exfalso; omega) | (congr 1; omega))
  have hP := hw_ext hP _ _ _ _ _ _ _ _ h_ro_0 h_di_1 h_hg_2 h_se_3 h_ta_4 h_co_5 h_cd_6 h_cs_7 h_ch_8 h_sg_9
  have hP : va_P D vwCl (HW b cI (occZ z r0 f0 m0)) H := hP
  have hD : va_D (kA w0) (HW b cI (occZ z r0 f0 m0)) := vaD_x hD rfl
  subst hw0
  exact kq_vret hx hb hrt hlocks hP hD hS dX0_occupy_18
set_option maxRecDepth 20000 in
theorem iX0_vacate_0 : ∀ w ∈ wsX00, w ∈ wsX0_vacate := by decide +kernel
set_option maxHeartbeats 4000000 in
set_option maxRecDepth 100000 in
theorem c_X0_vacate (l : Launch) (D : va_G) (cI cC cH cL : ClassId) (b : Nat → Nat) (z : ZZ) (r0 : Nat) (f0 : Nat) (hr : r0 < 10) : Met l yX0_vacate wsX0_vacate ({ frames := 1, cells := 0, slots := 0, locals := 21 }) (kw [.ref (b 0), .int (nI r0), .int (nI f0)] D (HW b cI z) (kT cI cC cH cL)) (kq D (HW b cI z) (HW b cI (vacZ z r0 f0)) (.returned none)) 0 0 (kA (HW b cI z)) := by
  refine Met.ofW (cc := cX0_vacate) (maxL := 3) (ret := none) (by decide) rfl ?_
  intro p e s m args below meth c s₁ B hml hv
  obtain ⟨rfl, hP, hK, hD0⟩ := hv
  have hx := B.exec
  have hb := B.bytes
  have hrt := B.returns
  have hts := atoms_spec (ws := wsX0_vacate) B.pre
  have hown : s.vm.findClass RX0 = some m.cls := findClass_of_methodNamed B.named
  have hlocks := B.notSynchronized
  have hl := lv_entry ([.ref (b 0), .int (nI r0), .int (nI f0)]) (n := 3) (Nat.le_of_ble_eq_true rfl)
  rw [lg_entry_eq]
  generalize (lg_sl ([.ref (b 0), .int (nI r0), .int (nI f0)]) ++ List.replicate (3 - (lg_sl ([.ref (b 0), .int (nI r0), .int (nI f0)])).length) Slot.unset).toArray = ls at hl ⊢
  have hl : lv_has ls 3 [(0, .ref (b 0)), (1, .int (nI r0)), (2, .int (nI f0))] := hl
  have hD := kA_self hD0
  obtain ⟨w0, hw0⟩ : ∃ w : va_W, w = HW b cI z := ⟨_, rfl⟩
  have hD : va_D (kA w0) (HW b cI z) := by rw [hw0]; exact hD
  have hS : va_S (kA w0) s.heap s.heap [] := va_S.rf
  rw [show kA (HW b cI z) = kA w0 from by rw [hw0], show kq D (HW b cI z) = kq D w0 from by rw [hw0]]
  have hP : va_P D vwCl (HW b cI z) s.heap := hP
  refine lv_aload_n hx hb dX0_vacate_0 rfl (lv_at hl 0 rfl) ?_
  refine va_get (D := D) (ci := 0) (v := .ref (b 4)) (C := RX0) (T := TX0) (N := 10) hx hb hts iX0_vacate_0 hown hK hP 0 rfl rfl 4 (by decide) (hts (.fieldLink RX0 21 "HallSights$Hall" "taken" "[I") (List.mem_of_getElem? (i := 1) rfl)) (fun _ h9 => h9) rfl dX0_vacate_1 ?_
  refine lv_iload_n hx hb dX0_vacate_4 rfl (lv_at hl 1 rfl) ?_
  refine lv_aload_n hx hb dX0_vacate_5 rfl (lv_at hl 0 rfl) ?_
  refine va_get (D := D) (ci := 0) (v := .ref (b 4)) (C := RX0) (T := TX0) (N := 10) hx hb hts iX0_vacate_0 hown hK hP 0 rfl rfl 4 (by decide) (hts (.fieldLink RX0 21 "HallSights$Hall" "taken" "[I") (List.mem_of_getElem? (i := 1) rfl)) (fun _ h9 => h9) rfl dX0_vacate_6 ?_
  refine lv_iload_n hx hb dX0_vacate_9 rfl (lv_at hl 1 rfl) ?_
  refine kx_iald hx hb hK hP 4 0 rfl rfl (by omega) (by decide) dX0_vacate_10 ?_
  refine lv_iload_n hx hb dX0_vacate_11 rfl (lv_at hl 2 rfl) ?_
  refine lv_iconst (v := nI 1) hx hb dX0_vacate_12 (by decide) ?_
  refine kr_S (As := [.int (nI f0), .int (nI 1)]) (rest := [.int (z (5 + 4 * r0 + 3)), .int (nI r0), .ref (b 4)]) (own := RX0) ⟨hx, hb, hml, hown, hts⟩ (c_X0_bitsOf l D cI cC cH cL  f0 1 ) (va_cwS 2 hts gX0_vacate_X0_bitsOf rfl rfl rfl k_X0_bitsOfS ⟨Nat.le_of_ble_eq_true rfl, Nat.le_of_ble_eq_true rfl⟩) (hP.sub (ws' := []) [] rfl) hK rfl hl.1 rfl (Nat.le_of_ble_eq_true rfl) dX0_vacate_13 ⟨Nat.le_of_ble_eq_true rfl, Nat.le_of_ble_eq_true rfl⟩ ?_
  refine lv_iconst (v := (-1)) hx hb dX0_vacate_16 (by decide) ?_
  refine lv_ixor hx hb dX0_vacate_17 ?_
  refine lv_iand hx hb dX0_vacate_18 ?_
  refine kx_iast hx hb hK hP hD hS 4 0 rfl rfl (by omega) (by decide) dX0_vacate_19 (fun H locs hP hD hS => ?_)
  have hP : va_P D vwCl (HR b cI (z 3) (fun j => z (5 + 4 * j)) (fun j => z (5 + 4 * j + 1)) (fun j => z (5 + 4 * j + 2)) (upd (fun j => z (5 + 4 * j + 3)) r0 ((z (5 + 4 * r0 + 3)) &&& ((bitsI f0 1) ^^^ (-1)))) (z 4) (fun j => z (45 + 3 * j)) (fun j => z (45 + 3 * j + 1)) (fun j => z (45 + 3 * j + 2)) z) H := hP
  have hD : va_D (kA w0) (HR b cI (z 3) (fun j => z (5 + 4 * j)) (fun j => z (5 + 4 * j + 1)) (fun j => z (5 + 4 * j + 2)) (upd (fun j => z (5 + 4 * j + 3)) r0 ((z (5 + 4 * r0 + 3)) &&& ((bitsI f0 1) ^^^ (-1)))) (z 4) (fun j => z (45 + 3 * j)) (fun j => z (45 + 3 * j + 1)) (fun j => z (45 + 3 * j + 2)) z) := hD
  have h_ro_0 : (z 3 : Int32) = (vacZ z r0 f0) 3 := by first | rfl | (simp only [vacZ, upd]; (repeat' split) <;> first | rfl | omega | (exfalso; omega) | (congr 1; omega))
  have h_di_1 : ∀ j, j < 10 → ((fun j => z (5 + 4 * j)) : ZZ) j = ((fun j => (vacZ z r0 f0) (5 + 4 * j)) : ZZ) j := by intro j hj; first | rfl | (simp only [vacZ, upd]; (repeat' split) <;> first | rfl | omega | (exfalso; omega) | (congr 1; omega))
  have h_hg_2 : ∀ j, j < 10 → ((fun j => z (5 + 4 * j + 1)) : ZZ) j = ((fun j => (vacZ z r0 f0) (5 + 4 * j + 1)) : ZZ) j := by intro j hj; first | rfl | (simp only [vacZ, upd]; (repeat' split) <;> first | rfl | omega | (exfalso; omega) | (congr 1; omega))
  have h_se_3 : ∀ j, j < 10 → ((fun j => z (5 + 4 * j + 2)) : ZZ) j = ((fun j => (vacZ z r0 f0) (5 + 4 * j + 2)) : ZZ) j := by intro j hj; first | rfl | (simp only [vacZ, upd]; (repeat' split) <;> first | rfl | omega | (exfalso; omega) | (congr 1; omega))
  have h_ta_4 : ∀ j, j < 10 → ((upd (fun j => z (5 + 4 * j + 3)) r0 ((z (5 + 4 * r0 + 3)) &&& ((bitsI f0 1) ^^^ (-1)))) : ZZ) j = ((fun j => (vacZ z r0 f0) (5 + 4 * j + 3)) : ZZ) j := by intro j hj; first | rfl | (simp only [vacZ, upd]; (repeat' split) <;> first | rfl | omega | (exfalso; omega) | (congr 1; omega))
  have h_co_5 : (z 4 : Int32) = (vacZ z r0 f0) 4 := by first | rfl | (simp only [vacZ, upd]; (repeat' split) <;> first | rfl | omega | (exfalso; omega) | (congr 1; omega))
  have h_cd_6 : ∀ j, j < 4 → ((fun j => z (45 + 3 * j)) : ZZ) j = ((fun j => (vacZ z r0 f0) (45 + 3 * j)) : ZZ) j := by intro j hj; first | rfl | (simp only [vacZ, upd]; (repeat' split) <;> first | rfl | omega | (exfalso; omega) | (congr 1; omega))
  have h_cs_7 : ∀ j, j < 4 → ((fun j => z (45 + 3 * j + 1)) : ZZ) j = ((fun j => (vacZ z r0 f0) (45 + 3 * j + 1)) : ZZ) j := by intro j hj; first | rfl | (simp only [vacZ, upd]; (repeat' split) <;> first | rfl | omega | (exfalso; omega) | (congr 1; omega))
  have h_ch_8 : ∀ j, j < 4 → ((fun j => z (45 + 3 * j + 2)) : ZZ) j = ((fun j => (vacZ z r0 f0) (45 + 3 * j + 2)) : ZZ) j := by intro j hj; first | rfl | (simp only [vacZ, upd]; (repeat' split) <;> first | rfl | omega | (exfalso; omega) | (congr 1; omega))
  have h_sg_9 : ∀ j, j < 3 → (z : ZZ) j = ((vacZ z r0 f0) : ZZ) j := by intro j hj; first | rfl | (simp only [vacZ, upd]; (repeat' split) <;> first | rfl | omega | (exfalso; omega) | (congr 1; omega))
  have hP := hw_ext hP _ _ _ _ _ _ _ _ h_ro_0 h_di_1 h_hg_2 h_se_3 h_ta_4 h_co_5 h_cd_6 h_cs_7 h_ch_8 h_sg_9
  have hP : va_P D vwCl (HW b cI (vacZ z r0 f0)) H := hP
  have hD : va_D (kA w0) (HW b cI (vacZ z r0 f0)) := vaD_x hD rfl
  subst hw0
  exact kq_vret hx hb hrt hlocks hP hD hS dX0_vacate_20
set_option maxRecDepth 20000 in
theorem iX0_vacateAll_0 : ∀ w ∈ wsX00, w ∈ wsX0_vacateAll := by decide +kernel
set_option maxHeartbeats 4000000 in
set_option maxRecDepth 100000 in
theorem c_X0_vacateAll (l : Launch) (D : va_G) (cI cC cH cL : ClassId) (b : Nat → Nat) (z : ZZ)  (hw : WF z) : Met l yX0_vacateAll wsX0_vacateAll ({ frames := 0, cells := 0, slots := 0, locals := 0 }) (kw [.ref (b 0)] D (HW b cI z) (kT cI cC cH cL)) (kq D (HW b cI z) (HW b cI (clrZ z)) (.returned none)) 0 0 (kA (HW b cI z)) := by
  refine Met.ofW (cc := cX0_vacateAll) (maxL := 2) (ret := none) (by decide) rfl ?_
  intro p e s m args below meth c s₁ B hml hv
  obtain ⟨rfl, hP, hK, hD0⟩ := hv
  have hx := B.exec
  have hb := B.bytes
  have hrt := B.returns
  have hts := atoms_spec (ws := wsX0_vacateAll) B.pre
  have hown : s.vm.findClass RX0 = some m.cls := findClass_of_methodNamed B.named
  have hlocks := B.notSynchronized
  have hl := lv_entry ([.ref (b 0)]) (n := 2) (Nat.le_of_ble_eq_true rfl)
  rw [lg_entry_eq]
  generalize (lg_sl ([.ref (b 0)]) ++ List.replicate (2 - (lg_sl ([.ref (b 0)])).length) Slot.unset).toArray = ls at hl ⊢
  have hl : lv_has ls 2 [(0, .ref (b 0))] := hl
  have hD := kA_self hD0
  obtain ⟨w0, hw0⟩ : ∃ w : va_W, w = HW b cI z := ⟨_, rfl⟩
  have hD : va_D (kA w0) (HW b cI z) := by rw [hw0]; exact hD
  have hS : va_S (kA w0) s.heap s.heap [] := va_S.rf
  rw [show kA (HW b cI z) = kA w0 from by rw [hw0], show kq D (HW b cI z) = kq D w0 from by rw [hw0]]
  have hP : va_P D vwCl (HW b cI z) s.heap := hP
  have hR10 := wf_R10 hw
  have hC4 := wf_C4 hw
  refine lv_iconst (v := nI 0) hx hb dX0_vacateAll_0 (by decide) ?_
  refine lv_istore_n (lv' := [(1, .int (nI 0)), (0, .ref (b 0))]) hx hb dX0_vacateAll_1 rfl hl (by decide) rfl (fun ls hl => ?_)
  have ec_ta_0 : ((fun j => z (5 + 4 * j + 3)) : ZZ) = (zrA (fun j => z (5 + 4 * j + 3)) 0) := by funext jj; simp only [upd, zrA]; (repeat' split) <;> first | rfl | omega | (exfalso; omega) | (congr 1; omega)
  have ew_1 : (HW b cI z : va_W) = (HR b cI (z 3) (fun j => z (5 + 4 * j)) (fun j => z (5 + 4 * j + 1)) (fun j => z (5 + 4 * j + 2)) (zrA (fun j => z (5 + 4 * j + 3)) 0) (z 4) (fun j => z (45 + 3 * j)) (fun j => z (45 + 3 * j + 1)) (fun j => z (45 + 3 * j + 2)) z) := hr_c rfl rfl rfl rfl ec_ta_0 rfl rfl rfl rfl rfl
  rw [ew_1] at hP hD
  refine kx_upW (fun k H locs ls => (va_P D vwCl (HR b cI (z 3) (fun j => z (5 + 4 * j)) (fun j => z (5 + 4 * j + 1)) (fun j => z (5 + 4 * j + 2)) (zrA (fun j => z (5 + 4 * j + 3)) k) (z 4) (fun j => z (45 + 3 * j)) (fun j => z (45 + 3 * j + 1)) (fun j => z (45 + 3 * j + 2)) z) H ∧ va_D (kA w0) (HR b cI (z 3) (fun j => z (5 + 4 * j)) (fun j => z (5 + 4 * j + 1)) (fun j => z (5 + 4 * j + 2)) (zrA (fun j => z (5 + 4 * j + 3)) k) (z 4) (fun j => z (45 + 3 * j)) (fun j => z (45 + 3 * j + 1)) (fun j => z (45 + 3 * j + 2)) z) ∧ va_S (kA w0) s.heap H locs) ∧ lv_has ls 2 [(0, .ref (b 0)), (1, .int (nI k))]) (0) (nR z) (by omega) _ _ ls ⟨⟨hP, hD, hS⟩, (lv_sub hl [1, 0] rfl)⟩ ?_
  clear hP hD hS
  intro ik H locs ls hikl hikh hp ih2
  obtain ⟨⟨hP, hD, hS⟩, hp⟩ := hp
  have hl := hp
  refine lv_iload_n hx hb dX0_vacateAll_2 rfl (lv_at hl 1 rfl) ?_
  refine lv_aload_n hx hb dX0_vacateAll_3 rfl (lv_at hl 0 rfl) ?_
  refine va_get (D := D) (ci := 0) (v := .int (z 3)) (C := RX0) (T := TX0) (N := 10) hx hb hts iX0_vacateAll_0 hown hK hP 0 rfl rfl 0 (by decide) (hts (.fieldLink RX0 36 "HallSights$Hall" "rows" "I") (List.mem_of_getElem? (i := 1) rfl)) (fun _ h9 => h9) rfl dX0_vacateAll_4 ?_
  refine kx_top (wf_R hw) ?_
  refine kx_icmp_ge (tgt := 23) hx hb (by omega) (by omega) dX0_vacateAll_7 (by decide) (fun c_7_2 => ?_) (fun c_7_3 => ?_)
  · have hq4 : nR z = ik := by omega
    subst hq4
    have h_ro_5 : (z 3 : Int32) = (clrZ z) 3 := by first | rfl | (simp only [clrZ, clrS, zrA, upd]; (repeat' split) <;> first | rfl | omega | (exfalso; omega) | (congr 1; omega))
    have h_di_6 : ∀ j, j < 10 → ((fun j => z (5 + 4 * j)) : ZZ) j = ((fun j => (clrZ z) (5 + 4 * j)) : ZZ) j := by intro j hj; first | rfl | (simp only [clrZ, clrS, zrA, upd]; (repeat' split) <;> first | rfl | omega | (exfalso; omega) | (congr 1; omega))
    have h_hg_7 : ∀ j, j < 10 → ((fun j => z (5 + 4 * j + 1)) : ZZ) j = ((fun j => (clrZ z) (5 + 4 * j + 1)) : ZZ) j := by intro j hj; first | rfl | (simp only [clrZ, clrS, zrA, upd]; (repeat' split) <;> first | rfl | omega | (exfalso; omega) | (congr 1; omega))
    have h_se_8 : ∀ j, j < 10 → ((fun j => z (5 + 4 * j + 2)) : ZZ) j = ((fun j => (clrZ z) (5 + 4 * j + 2)) : ZZ) j := by intro j hj; first | rfl | (simp only [clrZ, clrS, zrA, upd]; (repeat' split) <;> first | rfl | omega | (exfalso; omega) | (congr 1; omega))
    have h_ta_9 : ∀ j, j < 10 → ((zrA (fun j => z (5 + 4 * j + 3)) (nR z)) : ZZ) j = ((fun j => (clrZ z) (5 + 4 * j + 3)) : ZZ) j := by intro j hj; first | rfl | (simp only [clrZ, clrS, zrA, upd]; (repeat' split) <;> first | rfl | omega | (exfalso; omega) | (congr 1; omega))
    have h_co_10 : (z 4 : Int32) = (clrZ z) 4 := by first | rfl | (simp only [clrZ, clrS, zrA, upd]; (repeat' split) <;> first | rfl | omega | (exfalso; omega) | (congr 1; omega))
    have h_cd_11 : ∀ j, j < 4 → ((fun j => z (45 + 3 * j)) : ZZ) j = ((fun j => (clrZ z) (45 + 3 * j)) : ZZ) j := by intro j hj; first | rfl | (simp only [clrZ, clrS, zrA, upd]; (repeat' split) <;> first | rfl | omega | (exfalso; omega) | (congr 1; omega))
    have h_cs_12 : ∀ j, j < 4 → ((fun j => z (45 + 3 * j + 1)) : ZZ) j = ((fun j => (clrZ z) (45 + 3 * j + 1)) : ZZ) j := by intro j hj; first | rfl | (simp only [clrZ, clrS, zrA, upd]; (repeat' split) <;> first | rfl | omega | (exfalso; omega) | (congr 1; omega))
    have h_ch_13 : ∀ j, j < 4 → ((fun j => z (45 + 3 * j + 2)) : ZZ) j = ((fun j => (clrZ z) (45 + 3 * j + 2)) : ZZ) j := by intro j hj; first | rfl | (simp only [clrZ, clrS, zrA, upd]; (repeat' split) <;> first | rfl | omega | (exfalso; omega) | (congr 1; omega))
    have h_sg_14 : ∀ j, j < 3 → (z : ZZ) j = ((clrZ z) : ZZ) j := by intro j hj; first | rfl | (simp only [clrZ, clrS, zrA, upd]; (repeat' split) <;> first | rfl | omega | (exfalso; omega) | (congr 1; omega))
    have hP := hw_ext hP _ _ _ _ _ _ _ _ h_ro_5 h_di_6 h_hg_7 h_se_8 h_ta_9 h_co_10 h_cd_11 h_cs_12 h_ch_13 h_sg_14
    have hP : va_P D vwCl (HW b cI (clrZ z)) H := hP
    have hD : va_D (kA w0) (HW b cI (clrZ z)) := vaD_x hD rfl
    subst hw0
    exact kq_vret hx hb hrt hlocks hP hD hS dX0_vacateAll_23
  · refine lv_aload_n hx hb dX0_vacateAll_10 rfl (lv_at hl 0 rfl) ?_
    refine va_get (D := D) (ci := 0) (v := .ref (b 4)) (C := RX0) (T := TX0) (N := 10) hx hb hts iX0_vacateAll_0 hown hK hP 0 rfl rfl 4 (by decide) (hts (.fieldLink RX0 21 "HallSights$Hall" "taken" "[I") (List.mem_of_getElem? (i := 2) rfl)) (fun _ h9 => h9) rfl dX0_vacateAll_11 ?_
    refine lv_iload_n hx hb dX0_vacateAll_14 rfl (lv_at hl 1 rfl) ?_
    refine lv_iconst (v := nI 0) hx hb dX0_vacateAll_15 (by decide) ?_
    refine kx_iast hx hb hK hP hD hS 4 0 rfl rfl (by omega) (by decide) dX0_vacateAll_16 (fun H locs hP hD hS => ?_)
    have hP : va_P D vwCl (HR b cI (z 3) (fun j => z (5 + 4 * j)) (fun j => z (5 + 4 * j + 1)) (fun j => z (5 + 4 * j + 2)) (upd (zrA (fun j => z (5 + 4 * j + 3)) ik) ik (nI 0)) (z 4) (fun j => z (45 + 3 * j)) (fun j => z (45 + 3 * j + 1)) (fun j => z (45 + 3 * j + 2)) z) H := hP
    have hD : va_D (kA w0) (HR b cI (z 3) (fun j => z (5 + 4 * j)) (fun j => z (5 + 4 * j + 1)) (fun j => z (5 + 4 * j + 2)) (upd (zrA (fun j => z (5 + 4 * j + 3)) ik) ik (nI 0)) (z 4) (fun j => z (45 + 3 * j)) (fun j => z (45 + 3 * j + 1)) (fun j => z (45 + 3 * j + 2)) z) := hD
    refine lv_iinc (v := nI (ik + 1)) (lv' := [(1, .int (nI (ik + 1))), (0, .ref (b 0))]) hx hb dX0_vacateAll_17 hl (k := 1) rfl (kx_inc 1) (by decide) rfl (fun ls hl => ?_)
    refine lv_goto (tgt := 2) hx hb dX0_vacateAll_20 (by decide) ?_
    have e2_15 : (ik + 1 : Nat) = ((ik + 1)) := by first | rfl | omega | (simp [Int32.not_lt, Int32.not_le, c_7_3, Nat.not_le.mpr c_7_3]; done) | (simp [Int32.not_lt, Int32.not_le, c_7_3, Nat.not_le.mpr c_7_3]; omega) | (revert c_7_3; simp +contextual [Int32.not_lt, Int32.not_le]; done) | (revert c_7_3; simp +contextual [Int32.not_lt, Int32.not_le]; omega)
    have hl2_16 : lv_has ls 2 [(0, .ref (b 0)), (1, .int (nI (ik + 1)))] := lv_eqv (l1 := [(0, .ref (b 0)), (1, .int (nI (ik + 1)))]) (lv_sub hl [1, 0] rfl) (lv_ce rfl (lv_ce (congrArg (fun x => Value.int (nI x)) e2_15) rfl))
    have ec_ta_17 : ((upd (zrA (fun j => z (5 + 4 * j + 3)) ik) ik (nI 0)) : ZZ) = (zrA (fun j => z (5 + 4 * j + 3)) (ik + 1)) := by funext jj; simp only [upd, zrA]; (repeat' split) <;> first | rfl | omega | (exfalso; omega) | (congr 1; omega)
    have ew_18 : (HR b cI (z 3) (fun j => z (5 + 4 * j)) (fun j => z (5 + 4 * j + 1)) (fun j => z (5 + 4 * j + 2)) (upd (zrA (fun j => z (5 + 4 * j + 3)) ik) ik (nI 0)) (z 4) (fun j => z (45 + 3 * j)) (fun j => z (45 + 3 * j + 1)) (fun j => z (45 + 3 * j + 2)) z : va_W) = (HR b cI (z 3) (fun j => z (5 + 4 * j)) (fun j => z (5 + 4 * j + 1)) (fun j => z (5 + 4 * j + 2)) (zrA (fun j => z (5 + 4 * j + 3)) (ik + 1)) (z 4) (fun j => z (45 + 3 * j)) (fun j => z (45 + 3 * j + 1)) (fun j => z (45 + 3 * j + 2)) z) := hr_c rfl rfl rfl rfl ec_ta_17 rfl rfl rfl rfl rfl
    rw [ew_18] at hP hD
    exact ih2 _ _ _ (by omega) ⟨⟨hP, hD, hS⟩, hl2_16⟩
