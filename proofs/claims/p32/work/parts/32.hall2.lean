theorem k_J6_bitCount_0f7a4 : yJ6_bitCount_0f7a4.cls = RJ6 ∧ yJ6_bitCount_0f7a4.cls ≠ "java/lang/invoke/MethodHandle" ∧ yJ6_bitCount_0f7a4.cls ≠ "java/lang/invoke/VarHandle" ∧ (parseMethodDescriptor yJ6_bitCount_0f7a4.desc).map (fun d => d.parameters.length) = some 1 := by decide +kernel
theorem k_J6_bitCount_0f7a4S : yJ6_bitCount_0f7a4.cls ≠ "java/lang/invoke/MethodHandle" ∧ yJ6_bitCount_0f7a4.cls ≠ "java/lang/invoke/VarHandle" ∧ (parseMethodDescriptor yJ6_bitCount_0f7a4.desc).map (fun d => d.parameters.length) = some 1 := k_J6_bitCount_0f7a4.2
theorem k_X0_takenInRow : yX0_takenInRow.cls = RX0 ∧ yX0_takenInRow.cls ≠ "java/lang/invoke/MethodHandle" ∧ yX0_takenInRow.cls ≠ "java/lang/invoke/VarHandle" ∧ (parseMethodDescriptor yX0_takenInRow.desc).map (fun d => d.parameters.length) = some 1 := by decide +kernel
theorem k_X0_takenInRowS : yX0_takenInRow.cls ≠ "java/lang/invoke/MethodHandle" ∧ yX0_takenInRow.cls ≠ "java/lang/invoke/VarHandle" ∧ (parseMethodDescriptor yX0_takenInRow.desc).map (fun d => d.parameters.length) = some 1 := k_X0_takenInRow.2
set_option maxHeartbeats 4000000 in
set_option maxRecDepth 100000 in
theorem c_J6_bitCount_0f7a4 (l : Launch) (D : va_G) (cI cC cH cL : ClassId)  (x0 : Int32)  : Met l yJ6_bitCount_0f7a4 wsJ6_bitCount_0f7a4 ({ frames := 0, cells := 0, slots := 0, locals := 0 }) (kp [.int x0] D ([]) (kT cI cC cH cL)) (kr (.returned (some (.int (bcI x0))))) 0 0 (fun _ => False) := by
  refine Met.ofW (cc := cJ6_bitCount_0f7a4) (maxL := 1) (ret := (some .int)) (by decide) rfl ?_
  intro p e s m args below meth c s₁ B hml hv
  obtain ⟨rfl, hP, hK⟩ := hv
  have hx := B.exec
  have hb := B.bytes
  have hrt := B.returns
  have hts := atoms_spec (ws := wsJ6_bitCount_0f7a4) B.pre
  have hown : s.vm.findClass RJ6 = some m.cls := findClass_of_methodNamed B.named
  have hlocks := B.notSynchronized
  have hl := lv_entry ([.int x0]) (n := 1) (Nat.le_of_ble_eq_true rfl)
  rw [lg_entry_eq]
  generalize (lg_sl ([.int x0]) ++ List.replicate (1 - (lg_sl ([.int x0])).length) Slot.unset).toArray = ls at hl ⊢
  have hl : lv_has ls 1 [(0, .int x0)] := hl
  refine lv_iload_n hx hb dJ6_bitCount_0f7a4_0 rfl (lv_at hl 0 rfl) ?_
  refine lv_iload_n hx hb dJ6_bitCount_0f7a4_1 rfl (lv_at hl 0 rfl) ?_
  refine lv_iconst (v := nI 1) hx hb dJ6_bitCount_0f7a4_2 (by decide) ?_
  refine lv_iushr (v := (ush x0 (nI 1))) hx hb dJ6_bitCount_0f7a4_3 rfl ?_
  refine lv_ldcw (v := 1431655765) hx hb hown (hts (.constant RJ6 265 (1431655765)) (List.mem_of_getElem? (i := 1) rfl)) dJ6_bitCount_0f7a4_4 ?_
  refine lv_iand hx hb dJ6_bitCount_0f7a4_7 ?_
  refine lv_isub hx hb dJ6_bitCount_0f7a4_8 ?_
  refine lv_istore_n (lv' := [(0, .int (x0 - ((ush x0 (nI 1)) &&& 1431655765)))]) hx hb dJ6_bitCount_0f7a4_9 rfl hl (by decide) rfl (fun ls hl => ?_)
  refine lv_iload_n hx hb dJ6_bitCount_0f7a4_10 rfl (lv_at hl 0 rfl) ?_
  refine lv_ldcw (v := 858993459) hx hb hown (hts (.constant RJ6 266 (858993459)) (List.mem_of_getElem? (i := 2) rfl)) dJ6_bitCount_0f7a4_11 ?_
  refine lv_iand hx hb dJ6_bitCount_0f7a4_14 ?_
  refine lv_iload_n hx hb dJ6_bitCount_0f7a4_15 rfl (lv_at hl 0 rfl) ?_
  refine lv_iconst (v := nI 2) hx hb dJ6_bitCount_0f7a4_16 (by decide) ?_
  refine lv_iushr (v := (ush (x0 - ((ush x0 (nI 1)) &&& 1431655765)) (nI 2))) hx hb dJ6_bitCount_0f7a4_17 rfl ?_
  refine lv_ldcw (v := 858993459) hx hb hown (hts (.constant RJ6 266 (858993459)) (List.mem_of_getElem? (i := 2) rfl)) dJ6_bitCount_0f7a4_18 ?_
  refine lv_iand hx hb dJ6_bitCount_0f7a4_21 ?_
  refine lv_iadd hx hb dJ6_bitCount_0f7a4_22 ?_
  refine lv_istore_n (lv' := [(0, .int (((x0 - ((ush x0 (nI 1)) &&& 1431655765)) &&& 858993459) + ((ush (x0 - ((ush x0 (nI 1)) &&& 1431655765)) (nI 2)) &&& 858993459)))]) hx hb dJ6_bitCount_0f7a4_23 rfl hl (by decide) rfl (fun ls hl => ?_)
  refine lv_iload_n hx hb dJ6_bitCount_0f7a4_24 rfl (lv_at hl 0 rfl) ?_
  refine lv_iload_n hx hb dJ6_bitCount_0f7a4_25 rfl (lv_at hl 0 rfl) ?_
  refine lv_iconst (v := nI 4) hx hb dJ6_bitCount_0f7a4_26 (by decide) ?_
  refine lv_iushr (v := (ush (((x0 - ((ush x0 (nI 1)) &&& 1431655765)) &&& 858993459) + ((ush (x0 - ((ush x0 (nI 1)) &&& 1431655765)) (nI 2)) &&& 858993459)) (nI 4))) hx hb dJ6_bitCount_0f7a4_27 rfl ?_
  refine lv_iadd hx hb dJ6_bitCount_0f7a4_28 ?_
  refine lv_ldcw (v := 252645135) hx hb hown (hts (.constant RJ6 267 (252645135)) (List.mem_of_getElem? (i := 3) rfl)) dJ6_bitCount_0f7a4_29 ?_
  refine lv_iand hx hb dJ6_bitCount_0f7a4_32 ?_
  refine lv_istore_n (lv' := [(0, .int (((((x0 - ((ush x0 (nI 1)) &&& 1431655765)) &&& 858993459) + ((ush (x0 - ((ush x0 (nI 1)) &&& 1431655765)) (nI 2)) &&& 858993459)) + (ush (((x0 - ((ush x0 (nI 1)) &&& 1431655765)) &&& 858993459) + ((ush (x0 - ((ush x0 (nI 1)) &&& 1431655765)) (nI 2)) &&& 858993459)) (nI 4))) &&& 252645135))]) hx hb dJ6_bitCount_0f7a4_33 rfl hl (by decide) rfl (fun ls hl => ?_)
  refine lv_iload_n hx hb dJ6_bitCount_0f7a4_34 rfl (lv_at hl 0 rfl) ?_
  refine lv_iload_n hx hb dJ6_bitCount_0f7a4_35 rfl (lv_at hl 0 rfl) ?_
  refine lv_bipush (v := nI 8) hx hb dJ6_bitCount_0f7a4_36 (by decide) ?_
  refine lv_iushr (v := (ush (((((x0 - ((ush x0 (nI 1)) &&& 1431655765)) &&& 858993459) + ((ush (x0 - ((ush x0 (nI 1)) &&& 1431655765)) (nI 2)) &&& 858993459)) + (ush (((x0 - ((ush x0 (nI 1)) &&& 1431655765)) &&& 858993459) + ((ush (x0 - ((ush x0 (nI 1)) &&& 1431655765)) (nI 2)) &&& 858993459)) (nI 4))) &&& 252645135) (nI 8))) hx hb dJ6_bitCount_0f7a4_38 rfl ?_
  refine lv_iadd hx hb dJ6_bitCount_0f7a4_39 ?_
  refine lv_istore_n (lv' := [(0, .int ((((((x0 - ((ush x0 (nI 1)) &&& 1431655765)) &&& 858993459) + ((ush (x0 - ((ush x0 (nI 1)) &&& 1431655765)) (nI 2)) &&& 858993459)) + (ush (((x0 - ((ush x0 (nI 1)) &&& 1431655765)) &&& 858993459) + ((ush (x0 - ((ush x0 (nI 1)) &&& 1431655765)) (nI 2)) &&& 858993459)) (nI 4))) &&& 252645135) + (ush (((((x0 - ((ush x0 (nI 1)) &&& 1431655765)) &&& 858993459) + ((ush (x0 - ((ush x0 (nI 1)) &&& 1431655765)) (nI 2)) &&& 858993459)) + (ush (((x0 - ((ush x0 (nI 1)) &&& 1431655765)) &&& 858993459) + ((ush (x0 - ((ush x0 (nI 1)) &&& 1431655765)) (nI 2)) &&& 858993459)) (nI 4))) &&& 252645135) (nI 8))))]) hx hb dJ6_bitCount_0f7a4_40 rfl hl (by decide) rfl (fun ls hl => ?_)
  refine lv_iload_n hx hb dJ6_bitCount_0f7a4_41 rfl (lv_at hl 0 rfl) ?_
  refine lv_iload_n hx hb dJ6_bitCount_0f7a4_42 rfl (lv_at hl 0 rfl) ?_
  refine lv_bipush (v := nI 16) hx hb dJ6_bitCount_0f7a4_43 (by decide) ?_
  refine lv_iushr (v := (ush ((((((x0 - ((ush x0 (nI 1)) &&& 1431655765)) &&& 858993459) + ((ush (x0 - ((ush x0 (nI 1)) &&& 1431655765)) (nI 2)) &&& 858993459)) + (ush (((x0 - ((ush x0 (nI 1)) &&& 1431655765)) &&& 858993459) + ((ush (x0 - ((ush x0 (nI 1)) &&& 1431655765)) (nI 2)) &&& 858993459)) (nI 4))) &&& 252645135) + (ush (((((x0 - ((ush x0 (nI 1)) &&& 1431655765)) &&& 858993459) + ((ush (x0 - ((ush x0 (nI 1)) &&& 1431655765)) (nI 2)) &&& 858993459)) + (ush (((x0 - ((ush x0 (nI 1)) &&& 1431655765)) &&& 858993459) + ((ush (x0 - ((ush x0 (nI 1)) &&& 1431655765)) (nI 2)) &&& 858993459)) (nI 4))) &&& 252645135) (nI 8))) (nI 16))) hx hb dJ6_bitCount_0f7a4_45 rfl ?_
  refine lv_iadd hx hb dJ6_bitCount_0f7a4_46 ?_
  refine lv_istore_n (lv' := [(0, .int (((((((x0 - ((ush x0 (nI 1)) &&& 1431655765)) &&& 858993459) + ((ush (x0 - ((ush x0 (nI 1)) &&& 1431655765)) (nI 2)) &&& 858993459)) + (ush (((x0 - ((ush x0 (nI 1)) &&& 1431655765)) &&& 858993459) + ((ush (x0 - ((ush x0 (nI 1)) &&& 1431655765)) (nI 2)) &&& 858993459)) (nI 4))) &&& 252645135) + (ush (((((x0 - ((ush x0 (nI 1)) &&& 1431655765)) &&& 858993459) + ((ush (x0 - ((ush x0 (nI 1)) &&& 1431655765)) (nI 2)) &&& 858993459)) + (ush (((x0 - ((ush x0 (nI 1)) &&& 1431655765)) &&& 858993459) + ((ush (x0 - ((ush x0 (nI 1)) &&& 1431655765)) (nI 2)) &&& 858993459)) (nI 4))) &&& 252645135) (nI 8))) + (ush ((((((x0 - ((ush x0 (nI 1)) &&& 1431655765)) &&& 858993459) + ((ush (x0 - ((ush x0 (nI 1)) &&& 1431655765)) (nI 2)) &&& 858993459)) + (ush (((x0 - ((ush x0 (nI 1)) &&& 1431655765)) &&& 858993459) + ((ush (x0 - ((ush x0 (nI 1)) &&& 1431655765)) (nI 2)) &&& 858993459)) (nI 4))) &&& 252645135) + (ush (((((x0 - ((ush x0 (nI 1)) &&& 1431655765)) &&& 858993459) + ((ush (x0 - ((ush x0 (nI 1)) &&& 1431655765)) (nI 2)) &&& 858993459)) + (ush (((x0 - ((ush x0 (nI 1)) &&& 1431655765)) &&& 858993459) + ((ush (x0 - ((ush x0 (nI 1)) &&& 1431655765)) (nI 2)) &&& 858993459)) (nI 4))) &&& 252645135) (nI 8))) (nI 16))))]) hx hb dJ6_bitCount_0f7a4_47 rfl hl (by decide) rfl (fun ls hl => ?_)
  refine lv_iload_n hx hb dJ6_bitCount_0f7a4_48 rfl (lv_at hl 0 rfl) ?_
  refine lv_bipush (v := nI 63) hx hb dJ6_bitCount_0f7a4_49 (by decide) ?_
  refine lv_iand hx hb dJ6_bitCount_0f7a4_51 ?_
  have e_0 : (((((((((x0 - ((ush x0 (nI 1)) &&& 1431655765)) &&& 858993459) + ((ush (x0 - ((ush x0 (nI 1)) &&& 1431655765)) (nI 2)) &&& 858993459)) + (ush (((x0 - ((ush x0 (nI 1)) &&& 1431655765)) &&& 858993459) + ((ush (x0 - ((ush x0 (nI 1)) &&& 1431655765)) (nI 2)) &&& 858993459)) (nI 4))) &&& 252645135) + (ush (((((x0 - ((ush x0 (nI 1)) &&& 1431655765)) &&& 858993459) + ((ush (x0 - ((ush x0 (nI 1)) &&& 1431655765)) (nI 2)) &&& 858993459)) + (ush (((x0 - ((ush x0 (nI 1)) &&& 1431655765)) &&& 858993459) + ((ush (x0 - ((ush x0 (nI 1)) &&& 1431655765)) (nI 2)) &&& 858993459)) (nI 4))) &&& 252645135) (nI 8))) + (ush ((((((x0 - ((ush x0 (nI 1)) &&& 1431655765)) &&& 858993459) + ((ush (x0 - ((ush x0 (nI 1)) &&& 1431655765)) (nI 2)) &&& 858993459)) + (ush (((x0 - ((ush x0 (nI 1)) &&& 1431655765)) &&& 858993459) + ((ush (x0 - ((ush x0 (nI 1)) &&& 1431655765)) (nI 2)) &&& 858993459)) (nI 4))) &&& 252645135) + (ush (((((x0 - ((ush x0 (nI 1)) &&& 1431655765)) &&& 858993459) + ((ush (x0 - ((ush x0 (nI 1)) &&& 1431655765)) (nI 2)) &&& 858993459)) + (ush (((x0 - ((ush x0 (nI 1)) &&& 1431655765)) &&& 858993459) + ((ush (x0 - ((ush x0 (nI 1)) &&& 1431655765)) (nI 2)) &&& 858993459)) (nI 4))) &&& 252645135) (nI 8))) (nI 16))) &&& (nI 63)) : Int32) = (bcI x0) := by first | rfl | omega | (simp [Int32.not_lt, Int32.not_le]; done) | (simp [Int32.not_lt, Int32.not_le]; omega)
  exact kr_iret hx hb hrt hlocks e_0 rfl dJ6_bitCount_0f7a4_52
set_option maxRecDepth 20000 in
theorem iX0_takenInRow_0 : ∀ w ∈ wsX00, w ∈ wsX0_takenInRow := by decide +kernel
set_option maxHeartbeats 4000000 in
set_option maxRecDepth 100000 in
theorem c_X0_takenInRow (l : Launch) (D : va_G) (cI cC cH cL : ClassId) (b : Nat → Nat) (z : ZZ) (r0 : Nat) (hw : WF z) (hv : VT z) (hr : r0 < nR z) : Met l yX0_takenInRow wsX0_takenInRow ({ frames := 1, cells := 0, slots := 0, locals := 20 }) (kp [.ref (b 0), .int (nI r0)] D (HW b cI z) (kT cI cC cH cL)) (kr (.returned (some (.int (nI (takenIn z r0)))))) 0 0 (fun _ => False) := by
  refine Met.ofW (cc := cX0_takenInRow) (maxL := 2) (ret := (some .int)) (by decide) rfl ?_
  intro p e s m args below meth c s₁ B hml hv
  obtain ⟨rfl, hP, hK⟩ := hv
  have hx := B.exec
  have hb := B.bytes
  have hrt := B.returns
  have hts := atoms_spec (ws := wsX0_takenInRow) B.pre
  have hown : s.vm.findClass RX0 = some m.cls := findClass_of_methodNamed B.named
  have hlocks := B.notSynchronized
  have hl := lv_entry ([.ref (b 0), .int (nI r0)]) (n := 2) (Nat.le_of_ble_eq_true rfl)
  rw [lg_entry_eq]
  generalize (lg_sl ([.ref (b 0), .int (nI r0)]) ++ List.replicate (2 - (lg_sl ([.ref (b 0), .int (nI r0)])).length) Slot.unset).toArray = ls at hl ⊢
  have hl : lv_has ls 2 [(0, .ref (b 0)), (1, .int (nI r0))] := hl
  have hR10 := wf_R10 hw
  have hC4 := wf_C4 hw
  refine lv_aload_n hx hb dX0_takenInRow_0 rfl (lv_at hl 0 rfl) ?_
  refine va_get (D := D) (ci := 0) (v := .ref (b 4)) (C := RX0) (T := TX0) (N := 10) hx hb hts iX0_takenInRow_0 hown hK hP 0 rfl rfl 4 (by decide) (hts (.fieldLink RX0 21 "HallSights$Hall" "taken" "[I") (List.mem_of_getElem? (i := 1) rfl)) (fun _ h9 => h9) rfl dX0_takenInRow_1 ?_
  refine lv_iload_n hx hb dX0_takenInRow_4 rfl (lv_at hl 1 rfl) ?_
  refine kx_iald hx hb hK hP 4 0 rfl rfl (by omega) (by decide) dX0_takenInRow_5 ?_
  refine kr_S (As := [.int (z (5 + 4 * r0 + 3))]) (rest := []) (own := RX0) ⟨hx, hb, hml, hown, hts⟩ (c_J6_bitCount_0f7a4 l D cI cC cH cL  (z (5 + 4 * r0 + 3)) ) (va_cwS 1 hts gX0_takenInRow_J6_bitCount_0f7a4 rfl rfl rfl k_J6_bitCount_0f7a4S ⟨Nat.le_of_ble_eq_true rfl, Nat.le_of_ble_eq_true rfl⟩) (hP.sub (ws' := []) [] rfl) hK rfl hl.1 rfl (Nat.le_of_ble_eq_true rfl) dX0_takenInRow_6 ⟨Nat.le_of_ble_eq_true rfl, Nat.le_of_ble_eq_true rfl⟩ ?_
  refine kx_top (show (bcI (z (5 + 4 * r0 + 3)) : Int32) = nI (takenIn z r0) from by exact tk_cnt hw hv hr) ?_
  exact kr_iret hx hb hrt hlocks rfl rfl dX0_takenInRow_9
set_option maxRecDepth 20000 in
theorem iX0_takenInAll_0 : ∀ w ∈ wsX00, w ∈ wsX0_takenInAll := by decide +kernel
set_option maxHeartbeats 4000000 in
set_option maxRecDepth 100000 in
theorem c_X0_takenInAll (l : Launch) (D : va_G) (cI cC cH cL : ClassId) (b : Nat → Nat) (z : ZZ)  (hw : WF z) (hv : VT z) : Met l yX0_takenInAll wsX0_takenInAll ({ frames := 2, cells := 0, slots := 0, locals := 41 }) (kp [.ref (b 0)] D (HW b cI z) (kT cI cC cH cL)) (kr (.returned (some (.int (nI (takenAll z)))))) 0 0 (fun _ => False) := by
  refine Met.ofW (cc := cX0_takenInAll) (maxL := 3) (ret := (some .int)) (by decide) rfl ?_
  intro p e s m args below meth c s₁ B hml hv
  obtain ⟨rfl, hP, hK⟩ := hv
  have hx := B.exec
  have hb := B.bytes
  have hrt := B.returns
  have hts := atoms_spec (ws := wsX0_takenInAll) B.pre
  have hown : s.vm.findClass RX0 = some m.cls := findClass_of_methodNamed B.named
  have hlocks := B.notSynchronized
  have hl := lv_entry ([.ref (b 0)]) (n := 3) (Nat.le_of_ble_eq_true rfl)
  rw [lg_entry_eq]
  generalize (lg_sl ([.ref (b 0)]) ++ List.replicate (3 - (lg_sl ([.ref (b 0)])).length) Slot.unset).toArray = ls at hl ⊢
  have hl : lv_has ls 3 [(0, .ref (b 0))] := hl
  have hR10 := wf_R10 hw
  have hC4 := wf_C4 hw
  refine lv_iconst (v := nI 0) hx hb dX0_takenInAll_0 (by decide) ?_
  refine lv_istore_n (lv' := [(1, .int (nI 0)), (0, .ref (b 0))]) hx hb dX0_takenInAll_1 rfl hl (by decide) rfl (fun ls hl => ?_)
  refine lv_iconst (v := nI 0) hx hb dX0_takenInAll_2 (by decide) ?_
  refine lv_istore_n (lv' := [(2, .int (nI 0)), (1, .int (nI 0)), (0, .ref (b 0))]) hx hb dX0_takenInAll_3 rfl hl (by decide) rfl (fun ls hl => ?_)
  have e4_0 : (0 : Nat) = (sumN 0 (fun r => takenIn z r)) := by first | rfl | omega | (simp [takenAll, sumN_s, Int32.not_lt, Int32.not_le]; done) | (simp [takenAll, sumN_s, Int32.not_lt, Int32.not_le]; omega)
  have hl4_1 : lv_has ls 3 [(0, .ref (b 0)), (1, .int (nI (sumN 0 (fun r => takenIn z r)))), (2, .int (nI 0))] := lv_eqv (l1 := [(0, .ref (b 0)), (1, .int (nI 0)), (2, .int (nI 0))]) (lv_sub hl [2, 1, 0] rfl) (lv_ce rfl (lv_ce (congrArg (fun x => Value.int (nI x)) e4_0) (lv_ce rfl rfl)))
  refine kx_up (fun k ls => lv_has ls 3 [(0, .ref (b 0)), (1, .int (nI (sumN k (fun r => takenIn z r)))), (2, .int (nI k))]) (0) (nR z) (by omega) ls (hl4_1) ?_
  intro ir ls hirl hirh hp ih4
  have hl := hp
  refine lv_iload_n hx hb dX0_takenInAll_4 rfl (lv_at hl 2 rfl) ?_
  refine lv_aload_n hx hb dX0_takenInAll_5 rfl (lv_at hl 0 rfl) ?_
  refine va_get (D := D) (ci := 0) (v := .int (z 3)) (C := RX0) (T := TX0) (N := 10) hx hb hts iX0_takenInAll_0 hown hK hP 0 rfl rfl 0 (by decide) (hts (.fieldLink RX0 36 "HallSights$Hall" "rows" "I") (List.mem_of_getElem? (i := 1) rfl)) (fun _ h9 => h9) rfl dX0_takenInAll_6 ?_
  refine kx_top (wf_R hw) ?_
  refine kx_icmp_ge (tgt := 26) hx hb (by omega) (by omega) dX0_takenInAll_9 (by decide) (fun c_9_2 => ?_) (fun c_9_3 => ?_)
  · have hq4 : nR z = ir := by omega
    subst hq4
    refine lv_iload_n hx hb dX0_takenInAll_26 rfl (lv_at hl 1 rfl) ?_
    have e_5 : (sumN (nR z) (fun r => takenIn z r) : Nat) = (takenAll z) := by first | rfl | omega | (simp [takenAll, sumN_s, Int32.not_lt, Int32.not_le, c_9_2, Nat.not_lt.mpr c_9_2]; done) | (simp [takenAll, sumN_s, Int32.not_lt, Int32.not_le, c_9_2, Nat.not_lt.mpr c_9_2]; omega) | (revert c_9_2; simp +contextual [takenAll, sumN_s, Int32.not_lt, Int32.not_le]; done) | (revert c_9_2; simp +contextual [takenAll, sumN_s, Int32.not_lt, Int32.not_le]; omega)
    exact kr_iret hx hb hrt hlocks (congrArg nI e_5) rfl dX0_takenInAll_27
  · refine lv_iload_n hx hb dX0_takenInAll_12 rfl (lv_at hl 1 rfl) ?_
    refine lv_aload_n hx hb dX0_takenInAll_13 rfl (lv_at hl 0 rfl) ?_
    refine lv_iload_n hx hb dX0_takenInAll_14 rfl (lv_at hl 2 rfl) ?_
    refine kr_V (As := [.int (nI ir)]) (rest := [.int (nI (sumN ir (fun r => takenIn z r)))]) (C := RX0) (own := RX0) ⟨hx, hb, hml, hown, hts⟩ (c_X0_takenInRow l D cI cC cH cL b z ir (by first | assumption | omega) (by first | assumption | omega) (by first | assumption | omega)) (cwV 1 hts gX0_takenInAll_X0_takenInRow rfl rfl rfl k_X0_takenInRow ⟨Nat.le_of_ble_eq_true rfl, Nat.le_of_ble_eq_true rfl⟩) hP hK (va_recv (q := (RX0, TX0, 10)) hK hP (ci := 0) (q0 := 0) rfl rfl) rfl hl.1 rfl (Nat.le_of_ble_eq_true rfl) dX0_takenInAll_15 ⟨Nat.le_of_ble_eq_true rfl, Nat.le_of_ble_eq_true rfl⟩ ?_
    refine kx_iadd hx hb dX0_takenInAll_18 ?_
    refine lv_istore_n (lv' := [(1, .int (nI ((sumN ir (fun r => takenIn z r)) + (takenIn z ir)))), (0, .ref (b 0)), (2, .int (nI ir))]) hx hb dX0_takenInAll_19 rfl hl (by decide) rfl (fun ls hl => ?_)
    refine lv_iinc (v := nI (ir + 1)) (lv' := [(2, .int (nI (ir + 1))), (1, .int (nI ((sumN ir (fun r => takenIn z r)) + (takenIn z ir)))), (0, .ref (b 0))]) hx hb dX0_takenInAll_20 hl (k := 2) rfl (kx_inc 1) (by decide) rfl (fun ls hl => ?_)
    refine lv_goto (tgt := 4) hx hb dX0_takenInAll_23 (by decide) ?_
    have e4_6 : ((sumN ir (fun r => takenIn z r)) + (takenIn z ir) : Nat) = (sumN (ir + 1) (fun r => takenIn z r)) := by first | rfl | omega | (simp [takenAll, sumN_s, Int32.not_lt, Int32.not_le, c_9_3, Nat.not_le.mpr c_9_3]; done) | (simp [takenAll, sumN_s, Int32.not_lt, Int32.not_le, c_9_3, Nat.not_le.mpr c_9_3]; omega) | (revert c_9_3; simp +contextual [takenAll, sumN_s, Int32.not_lt, Int32.not_le]; done) | (revert c_9_3; simp +contextual [takenAll, sumN_s, Int32.not_lt, Int32.not_le]; omega)
    have e4_7 : (ir + 1 : Nat) = ((ir + 1)) := by first | rfl | omega | (simp [takenAll, sumN_s, Int32.not_lt, Int32.not_le, c_9_3, Nat.not_le.mpr c_9_3]; done) | (simp [takenAll, sumN_s, Int32.not_lt, Int32.not_le, c_9_3, Nat.not_le.mpr c_9_3]; omega) | (revert c_9_3; simp +contextual [takenAll, sumN_s, Int32.not_lt, Int32.not_le]; done) | (revert c_9_3; simp +contextual [takenAll, sumN_s, Int32.not_lt, Int32.not_le]; omega)
    have hl4_8 : lv_has ls 3 [(0, .ref (b 0)), (1, .int (nI (sumN (ir + 1) (fun r => takenIn z r)))), (2, .int (nI (ir + 1)))] := lv_eqv (l1 := [(0, .ref (b 0)), (1, .int (nI ((sumN ir (fun r => takenIn z r)) + (takenIn z ir)))), (2, .int (nI (ir + 1)))]) (lv_sub hl [2, 1, 0] rfl) (lv_ce rfl (lv_ce (congrArg (fun x => Value.int (nI x)) e4_6) (lv_ce (congrArg (fun x => Value.int (nI x)) e4_7) rfl)))
    exact ih4 _ (by omega) (hl4_8)
