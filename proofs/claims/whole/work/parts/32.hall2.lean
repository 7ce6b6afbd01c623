theorem k_J6_bitCount_0f7a4 : yJ6_bitCount_0f7a4.cls = RJ6 ∧ yJ6_bitCount_0f7a4.cls ≠ "java/lang/invoke/MethodHandle" ∧ yJ6_bitCount_0f7a4.cls ≠ "java/lang/invoke/VarHandle" ∧ (parseMethodDescriptor yJ6_bitCount_0f7a4.desc).map (fun d => d.parameters.length) = some 1 := by decide +kernel
theorem k_J6_bitCount_0f7a4S : yJ6_bitCount_0f7a4.cls ≠ "java/lang/invoke/MethodHandle" ∧ yJ6_bitCount_0f7a4.cls ≠ "java/lang/invoke/VarHandle" ∧ (parseMethodDescriptor yJ6_bitCount_0f7a4.desc).map (fun d => d.parameters.length) = some 1 := k_J6_bitCount_0f7a4.2
theorem k_J9_floorDiv_7cf53 : yJ9_floorDiv_7cf53.cls = RJ9 ∧ yJ9_floorDiv_7cf53.cls ≠ "java/lang/invoke/MethodHandle" ∧ yJ9_floorDiv_7cf53.cls ≠ "java/lang/invoke/VarHandle" ∧ (parseMethodDescriptor yJ9_floorDiv_7cf53.desc).map (fun d => d.parameters.length) = some 2 := by decide +kernel
theorem k_J9_floorDiv_7cf53S : yJ9_floorDiv_7cf53.cls ≠ "java/lang/invoke/MethodHandle" ∧ yJ9_floorDiv_7cf53.cls ≠ "java/lang/invoke/VarHandle" ∧ (parseMethodDescriptor yJ9_floorDiv_7cf53.desc).map (fun d => d.parameters.length) = some 2 := k_J9_floorDiv_7cf53.2
theorem k_X0_heightToSeeOver : yX0_heightToSeeOver.cls = RX0 ∧ yX0_heightToSeeOver.cls ≠ "java/lang/invoke/MethodHandle" ∧ yX0_heightToSeeOver.cls ≠ "java/lang/invoke/VarHandle" ∧ (parseMethodDescriptor yX0_heightToSeeOver.desc).map (fun d => d.parameters.length) = some 2 := by decide +kernel
theorem k_X0_heightToSeeOverS : yX0_heightToSeeOver.cls ≠ "java/lang/invoke/MethodHandle" ∧ yX0_heightToSeeOver.cls ≠ "java/lang/invoke/VarHandle" ∧ (parseMethodDescriptor yX0_heightToSeeOver.desc).map (fun d => d.parameters.length) = some 2 := k_X0_heightToSeeOver.2
theorem k_X0_takenInRow : yX0_takenInRow.cls = RX0 ∧ yX0_takenInRow.cls ≠ "java/lang/invoke/MethodHandle" ∧ yX0_takenInRow.cls ≠ "java/lang/invoke/VarHandle" ∧ (parseMethodDescriptor yX0_takenInRow.desc).map (fun d => d.parameters.length) = some 1 := by decide +kernel
theorem k_X0_takenInRowS : yX0_takenInRow.cls ≠ "java/lang/invoke/MethodHandle" ∧ yX0_takenInRow.cls ≠ "java/lang/invoke/VarHandle" ∧ (parseMethodDescriptor yX0_takenInRow.desc).map (fun d => d.parameters.length) = some 1 := k_X0_takenInRow.2
set_option maxHeartbeats 4000000 in
set_option maxRecDepth 100000 in
theorem c_J6_bitCount_0f7a4 (l : Launch) (D : va_G) (cI cC cH cL : ClassId)  (x0 : Int32)  : Met l yJ6_bitCount_0f7a4 wsJ6_bitCount_0f7a4 ({ frames := 0, cells := 0, slots := 0, locals := 0 }) (kp [.int x0] D ([]) (kT cI cC cH cL)) (kr (.returned (some (.int (bcI x0))))) 0 0 (fun _ => False) := by
  refine Met.ofW (cc := cJ6_bitCount_0f7a4) (maxL := 1) (ret := (some .int)) (by decide) rfl ?_
  intro p e s m args below meth c s₁ B hml hv
  obtain ⟨rfl, hP, hK⟩ := hv
  have hx := B.exec
  have hb := B.bytes
  have hrt := B.returns
  have hts := atoms_spec (ws := wsJ6_bitCount_0f7a4) B.pre
  have hown : s.vm.findClass RJ6 = some m.cls := findClass_of_methodNamed B.named
  have hlocks := B.notSynchronized
  have hl := lv_entry ([.int x0]) (n := 1) (Nat.le_of_ble_eq_true rfl)
  rw [lg_entry_eq]
  generalize (lg_sl ([.int x0]) ++ List.replicate (1 - (lg_sl ([.int x0])).length) Slot.unset).toArray = ls at hl ⊢
  have hl : lv_has ls 1 [(0, .int x0)] := hl
  refine lv_iload_n hx hb dJ6_bitCount_0f7a4_0 rfl (lv_at hl 0 rfl) ?_
  refine lv_iload_n hx hb dJ6_bitCount_0f7a4_1 rfl (lv_at hl 0 rfl) ?_
  refine lv_iconst (v := nI 1) hx hb dJ6_bitCount_0f7a4_2 (by decide) ?_
  refine lv_iushr (v := (ush x0 (nI 1))) hx hb dJ6_bitCount_0f7a4_3 rfl ?_
  refine lv_ldcw (v := 1431655765) hx hb hown (hts (.constant RJ6 265 (1431655765)) (List.mem_of_getElem? (i := 1) rfl)) dJ6_bitCount_0f7a4_4 ?_
  refine lv_iand hx hb dJ6_bitCount_0f7a4_7 ?_
  refine lv_isub hx hb dJ6_bitCount_0f7a4_8 ?_
  refine lv_istore_n (lv' := [(0, .int (x0 - ((ush x0 (nI 1)) &&& 1431655765)))]) hx hb dJ6_bitCount_0f7a4_9 rfl hl (by decide) rfl (fun ls hl => ?_)
  refine lv_iload_n hx hb dJ6_bitCount_0f7a4_10 rfl (lv_at hl 0 rfl) ?_
  refine lv_ldcw (v := 858993459) hx hb hown (hts (.constant RJ6 266 (858993459)) (List.mem_of_getElem? (i := 2) rfl)) dJ6_bitCount_0f7a4_11 ?_
  refine lv_iand hx hb dJ6_bitCount_0f7a4_14 ?_
  refine lv_iload_n hx hb dJ6_bitCount_0f7a4_15 rfl (lv_at hl 0 rfl) ?_
  refine lv_iconst (v := nI 2) hx hb dJ6_bitCount_0f7a4_16 (by decide) ?_
  refine lv_iushr (v := (ush (x0 - ((ush x0 (nI 1)) &&& 1431655765)) (nI 2))) hx hb dJ6_bitCount_0f7a4_17 rfl ?_
  refine lv_ldcw (v := 858993459) hx hb hown (hts (.constant RJ6 266 (858993459)) (List.mem_of_getElem? (i := 2) rfl)) dJ6_bitCount_0f7a4_18 ?_
  refine lv_iand hx hb dJ6_bitCount_0f7a4_21 ?_
  refine lv_iadd hx hb dJ6_bitCount_0f7a4_22 ?_
  refine lv_istore_n (lv' := [(0, .int (((x0 - ((ush x0 (nI 1)) &&& 1431655765)) &&& 858993459) + ((ush (x0 - ((ush x0 (nI 1)) &&& 1431655765)) (nI 2)) &&& 858993459)))]) hx hb dJ6_bitCount_0f7a4_23 rfl hl (by decide) rfl (fun ls hl => ?_)
  refine lv_iload_n hx hb dJ6_bitCount_0f7a4_24 rfl (lv_at hl 0 rfl) ?_
  refine lv_iload_n hx hb dJ6_bitCount_0f7a4_25 rfl (lv_at hl 0 rfl) ?_
  refine lv_iconst (v := nI 4) hx hb dJ6_bitCount_0f7a4_26 (by decide) ?_
  refine lv_iushr (v := (ush (((x0 - ((ush x0 (nI 1)) &&& 1431655765)) &&& 858993459) + ((ush (x0 - ((ush x0 (nI 1)) &&& 1431655765)) (nI 2)) &&& 858993459)) (nI 4))) hx hb dJ6_bitCount_0f7a4_27 rfl ?_
  refine lv_iadd hx hb dJ6_bitCount_0f7a4_28 ?_
  refine lv_ldcw (v := 252645135) hx hb hown (hts (.constant RJ6 267 (252645135)) (List.mem_of_getElem? (i := 3) rfl)) dJ6_bitCount_0f7a4_29 ?_
  refine lv_iand hx hb dJ6_bitCount_0f7a4_32 ?_
  refine lv_istore_n (lv' := [(0, .int (((((x0 - ((ush x0 (nI 1)) &&& 1431655765)) &&& 858993459) + ((ush (x0 - ((ush x0 (nI 1)) &&& 1431655765)) (nI 2)) &&& 858993459)) + (ush (((x0 - ((ush x0 (nI 1)) &&& 1431655765)) &&& 858993459) + ((ush (x0 - ((ush x0 (nI 1)) &&& 1431655765)) (nI 2)) &&& 858993459)) (nI 4))) &&& 252645135))]) hx hb dJ6_bitCount_0f7a4_33 rfl hl (by decide) rfl (fun ls hl => ?_)
  refine lv_iload_n hx hb dJ6_bitCount_0f7a4_34 rfl (lv_at hl 0 rfl) ?_
  refine lv_iload_n hx hb dJ6_bitCount_0f7a4_35 rfl (lv_at hl 0 rfl) ?_
  refine lv_bipush (v := nI 8) hx hb dJ6_bitCount_0f7a4_36 (by decide) ?_
  refine lv_iushr (v := (ush (((((x0 - ((ush x0 (nI 1)) &&& 1431655765)) &&& 858993459) + ((ush (x0 - ((ush x0 (nI 1)) &&& 1431655765)) (nI 2)) &&& 858993459)) + (ush (((x0 - ((ush x0 (nI 1)) &&& 1431655765)) &&& 858993459) + ((ush (x0 - ((ush x0 (nI 1)) &&& 1431655765)) (nI 2)) &&& 858993459)) (nI 4))) &&& 252645135) (nI 8))) hx hb dJ6_bitCount_0f7a4_38 rfl ?_
  refine lv_iadd hx hb dJ6_bitCount_0f7a4_39 ?_
  refine lv_istore_n (lv' := [(0, .int ((((((x0 - ((ush x0 (nI 1)) &&& 1431655765)) &&& 858993459) + ((ush (x0 - ((ush x0 (nI 1)) &&& 1431655765)) (nI 2)) &&& 858993459)) + (ush (((x0 - ((ush x0 (nI 1)) &&& 1431655765)) &&& 858993459) + ((ush (x0 - ((ush x0 (nI 1)) &&& 1431655765)) (nI 2)) &&& 858993459)) (nI 4))) &&& 252645135) + (ush (((((x0 - ((ush x0 (nI 1)) &&& 1431655765)) &&& 858993459) + ((ush (x0 - ((ush x0 (nI 1)) &&& 1431655765)) (nI 2)) &&& 858993459)) + (ush (((x0 - ((ush x0 (nI 1)) &&& 1431655765)) &&& 858993459) + ((ush (x0 - ((ush x0 (nI 1)) &&& 1431655765)) (nI 2)) &&& 858993459)) (nI 4))) &&& 252645135) (nI 8))))]) hx hb dJ6_bitCount_0f7a4_40 rfl hl (by decide) rfl (fun ls hl => ?_)
  refine lv_iload_n hx hb dJ6_bitCount_0f7a4_41 rfl (lv_at hl 0 rfl) ?_
  refine lv_iload_n hx hb dJ6_bitCount_0f7a4_42 rfl (lv_at hl 0 rfl) ?_
  refine lv_bipush (v := nI 16) hx hb dJ6_bitCount_0f7a4_43 (by decide) ?_
  refine lv_iushr (v := (ush ((((((x0 - ((ush x0 (nI 1)) &&& 1431655765)) &&& 858993459) + ((ush (x0 - ((ush x0 (nI 1)) &&& 1431655765)) (nI 2)) &&& 858993459)) + (ush (((x0 - ((ush x0 (nI 1)) &&& 1431655765)) &&& 858993459) + ((ush (x0 - ((ush x0 (nI 1)) &&& 1431655765)) (nI 2)) &&& 858993459)) (nI 4))) &&& 252645135) + (ush (((((x0 - ((ush x0 (nI 1)) &&& 1431655765)) &&& 858993459) + ((ush (x0 - ((ush x0 (nI 1)) &&& 1431655765)) (nI 2)) &&& 858993459)) + (ush (((x0 - ((ush x0 (nI 1)) &&& 1431655765)) &&& 858993459) + ((ush (x0 - ((ush x0 (nI 1)) &&& 1431655765)) (nI 2)) &&& 858993459)) (nI 4))) &&& 252645135) (nI 8))) (nI 16))) hx hb dJ6_bitCount_0f7a4_45 rfl ?_
  refine lv_iadd hx hb dJ6_bitCount_0f7a4_46 ?_
  refine lv_istore_n (lv' := [(0, .int (((((((x0 - ((ush x0 (nI 1)) &&& 1431655765)) &&& 858993459) + ((ush (x0 - ((ush x0 (nI 1)) &&& 1431655765)) (nI 2)) &&& 858993459)) + (ush (((x0 - ((ush x0 (nI 1)) &&& 1431655765)) &&& 858993459) + ((ush (x0 - ((ush x0 (nI 1)) &&& 1431655765)) (nI 2)) &&& 858993459)) (nI 4))) &&& 252645135) + (ush (((((x0 - ((ush x0 (nI 1)) &&& 1431655765)) &&& 858993459) + ((ush (x0 - ((ush x0 (nI 1)) &&& 1431655765)) (nI 2)) &&& 858993459)) + (ush (((x0 - ((ush x0 (nI 1)) &&& 1431655765)) &&& 858993459) + ((ush (x0 - ((ush x0 (nI 1)) &&& 1431655765)) (nI 2)) &&& 858993459)) (nI 4))) &&& 252645135) (nI 8))) + (ush ((((((x0 - ((ush x0 (nI 1)) &&& 1431655765)) &&& 858993459) + ((ush (x0 - ((ush x0 (nI 1)) &&& 1431655765)) (nI 2)) &&& 858993459)) + (ush (((x0 - ((ush x0 (nI 1)) &&& 1431655765)) &&& 858993459) + ((ush (x0 - ((ush x0 (nI 1)) &&& 1431655765)) (nI 2)) &&& 858993459)) (nI 4))) &&& 252645135) + (ush (((((x0 - ((ush x0 (nI 1)) &&& 1431655765)) &&& 858993459) + ((ush (x0 - ((ush x0 (nI 1)) &&& 1431655765)) (nI 2)) &&& 858993459)) + (ush (((x0 - ((ush x0 (nI 1)) &&& 1431655765)) &&& 858993459) + ((ush (x0 - ((ush x0 (nI 1)) &&& 1431655765)) (nI 2)) &&& 858993459)) (nI 4))) &&& 252645135) (nI 8))) (nI 16))))]) hx hb dJ6_bitCount_0f7a4_47 rfl hl (by decide) rfl (fun ls hl => ?_)
  refine lv_iload_n hx hb dJ6_bitCount_0f7a4_48 rfl (lv_at hl 0 rfl) ?_
  refine lv_bipush (v := nI 63) hx hb dJ6_bitCount_0f7a4_49 (by decide) ?_
  refine lv_iand hx hb dJ6_bitCount_0f7a4_51 ?_
  have e_0 : (((((((((x0 - ((ush x0 (nI 1)) &&& 1431655765)) &&& 858993459) + ((ush (x0 - ((ush x0 (nI 1)) &&& 1431655765)) (nI 2)) &&& 858993459)) + (ush (((x0 - ((ush x0 (nI 1)) &&& 1431655765)) &&& 858993459) + ((ush (x0 - ((ush x0 (nI 1)) &&& 1431655765)) (nI 2)) &&& 858993459)) (nI 4))) &&& 252645135) + (ush (((((x0 - ((ush x0 (nI 1)) &&& 1431655765)) &&& 858993459) + ((ush (x0 - ((ush x0 (nI 1)) &&& 1431655765)) (nI 2)) &&& 858993459)) + (ush (((x0 - ((ush x0 (nI 1)) &&& 1431655765)) &&& 858993459) + ((ush (x0 - ((ush x0 (nI 1)) &&& 1431655765)) (nI 2)) &&& 858993459)) (nI 4))) &&& 252645135) (nI 8))) + (ush ((((((x0 - ((ush x0 (nI 1)) &&& 1431655765)) &&& 858993459) + ((ush (x0 - ((ush x0 (nI 1)) &&& 1431655765)) (nI 2)) &&& 858993459)) + (ush (((x0 - ((ush x0 (nI 1)) &&& 1431655765)) &&& 858993459) + ((ush (x0 - ((ush x0 (nI 1)) &&& 1431655765)) (nI 2)) &&& 858993459)) (nI 4))) &&& 252645135) + (ush (((((x0 - ((ush x0 (nI 1)) &&& 1431655765)) &&& 858993459) + ((ush (x0 - ((ush x0 (nI 1)) &&& 1431655765)) (nI 2)) &&& 858993459)) + (ush (((x0 - ((ush x0 (nI 1)) &&& 1431655765)) &&& 858993459) + ((ush (x0 - ((ush x0 (nI 1)) &&& 1431655765)) (nI 2)) &&& 858993459)) (nI 4))) &&& 252645135) (nI 8))) (nI 16))) &&& (nI 63)) : Int32) = (bcI x0) := by first | rfl | omega | (simp [Int32.not_lt, Int32.not_le]; done) | (simp [Int32.not_lt, Int32.not_le]; omega)
  exact kr_iret hx hb hrt hlocks e_0 rfl dJ6_bitCount_0f7a4_52
set_option maxHeartbeats 4000000 in
set_option maxRecDepth 100000 in
theorem c_J9_floorDiv_7cf53 (l : Launch) (D : va_G) (cI cC cH cL : ClassId)  (x0 : Int32) (y0 : Int32) (hy : ¬ y0 = 0) : Met l yJ9_floorDiv_7cf53 wsJ9_floorDiv_7cf53 ({ frames := 0, cells := 0, slots := 0, locals := 0 }) (kp [.int x0, .int y0] D ([]) (kT cI cC cH cL)) (kr (.returned (some (.int (fdI x0 y0))))) 0 0 (fun _ => False) := by
  refine kx_ofWF (cc := cJ9_floorDiv_7cf53) (maxL := 3) (ret := (some .int)) (by decide +kernel) rfl ?_
  intro p e s m args below meth c s₁ B hml hv
  obtain ⟨rfl, hP, hK⟩ := hv
  have hx := B.exec
  have hb := B.bytes
  have hrt := B.returns
  have hts := atoms_spec (ws := wsJ9_floorDiv_7cf53) B.pre
  have hown : s.vm.findClass RJ9 = some m.cls := findClass_of_methodNamed B.named
  have hlocks := B.notSynchronized
  have hl := lv_entry ([.int x0, .int y0]) (n := 3) (Nat.le_of_ble_eq_true rfl)
  rw [lg_entry_eq]
  generalize (lg_sl ([.int x0, .int y0]) ++ List.replicate (3 - (lg_sl ([.int x0, .int y0])).length) Slot.unset).toArray = ls at hl ⊢
  have hl : lv_has ls 3 [(0, .int x0), (1, .int y0)] := hl
  refine lv_iload_n hx hb dJ9_floorDiv_7cf53_0 rfl (lv_at hl 0 rfl) ?_
  refine lv_iload_n hx hb dJ9_floorDiv_7cf53_1 rfl (lv_at hl 1 rfl) ?_
  refine lv_idiv hx hb dJ9_floorDiv_7cf53_2 (by exact hy) ?_
  refine lv_istore_n (lv' := [(2, .int (x0 / y0)), (0, .int x0), (1, .int y0)]) hx hb dJ9_floorDiv_7cf53_3 rfl hl (by decide) rfl (fun ls hl => ?_)
  refine lv_iload_n hx hb dJ9_floorDiv_7cf53_4 rfl (lv_at hl 1 rfl) ?_
  refine lv_iload_n hx hb dJ9_floorDiv_7cf53_5 rfl (lv_at hl 2 rfl) ?_
  refine lv_ixor hx hb dJ9_floorDiv_7cf53_6 ?_
  refine lv_if_ge (tgt := 21) hx hb dJ9_floorDiv_7cf53_7 (by decide) (fun c_7_0 => ?_) (fun c_7_1 => ?_)
  · have c_7_0 : (0 : Int32) ≤ (x0 ^^^ y0) := c_7_0
    refine lv_iload_n hx hb dJ9_floorDiv_7cf53_21 rfl (lv_at hl 0 rfl) ?_
    have e_2 : ((x0 / y0) : Int32) = (fdI x0 y0) := by first | rfl | omega | (simp [fdI, Int32.not_lt, Int32.not_le, c_7_0, Int32.not_lt.mpr c_7_0]; done) | (simp [fdI, Int32.not_lt, Int32.not_le, c_7_0, Int32.not_lt.mpr c_7_0]; omega) | (revert c_7_0; simp +contextual [fdI, Int32.not_lt, Int32.not_le]; done) | (revert c_7_0; simp +contextual [fdI, Int32.not_lt, Int32.not_le]; omega)
    exact kr_iret hx hb hrt hlocks e_2 rfl dJ9_floorDiv_7cf53_22
  · have c_7_1 : ¬ (0 : Int32) ≤ (x0 ^^^ y0) := c_7_1
    refine lv_iload_n hx hb dJ9_floorDiv_7cf53_10 rfl (lv_at hl 0 rfl) ?_
    refine lv_iload_n hx hb dJ9_floorDiv_7cf53_11 rfl (lv_at hl 2 rfl) ?_
    refine lv_imul hx hb dJ9_floorDiv_7cf53_12 ?_
    refine lv_iload_n hx hb dJ9_floorDiv_7cf53_13 rfl (lv_at hl 1 rfl) ?_
    refine lv_icmp_eq (tgt := 21) hx hb dJ9_floorDiv_7cf53_14 (by decide) (fun c_14_3 => ?_) (fun c_14_4 => ?_)
    · have c_14_3 : (((x0 / y0) * y0) : Int32) = x0 := c_14_3
      refine lv_iload_n hx hb dJ9_floorDiv_7cf53_21 rfl (lv_at hl 0 rfl) ?_
      have e_5 : ((x0 / y0) : Int32) = (fdI x0 y0) := by first | rfl | omega | (simp [fdI, Int32.not_lt, Int32.not_le, c_7_1, Int32.not_le.mp c_7_1, c_14_3]; done) | (simp [fdI, Int32.not_lt, Int32.not_le, c_7_1, Int32.not_le.mp c_7_1, c_14_3]; omega) | (revert c_7_1 c_14_3; simp +contextual [fdI, Int32.not_lt, Int32.not_le]; done) | (revert c_7_1 c_14_3; simp +contextual [fdI, Int32.not_lt, Int32.not_le]; omega)
      exact kr_iret hx hb hrt hlocks e_5 rfl dJ9_floorDiv_7cf53_22
    · have c_14_4 : ¬ (((x0 / y0) * y0) : Int32) = x0 := c_14_4
      refine lv_iload_n hx hb dJ9_floorDiv_7cf53_17 rfl (lv_at hl 0 rfl) ?_
      refine lv_iconst (v := nI 1) hx hb dJ9_floorDiv_7cf53_18 (by decide) ?_
      refine lv_isub hx hb dJ9_floorDiv_7cf53_19 ?_
      have e_6 : (((x0 / y0) - (nI 1)) : Int32) = (fdI x0 y0) := by first | rfl | omega | (simp [fdI, Int32.not_lt, Int32.not_le, c_7_1, Int32.not_le.mp c_7_1, c_14_4]; done) | (simp [fdI, Int32.not_lt, Int32.not_le, c_7_1, Int32.not_le.mp c_7_1, c_14_4]; omega) | (revert c_7_1 c_14_4; simp +contextual [fdI, Int32.not_lt, Int32.not_le]; done) | (revert c_7_1 c_14_4; simp +contextual [fdI, Int32.not_lt, Int32.not_le]; omega)
      exact kr_iret hx hb hrt hlocks e_6 rfl dJ9_floorDiv_7cf53_20
set_option maxRecDepth 20000 in
theorem iX0_takenInRow_0 : ∀ w ∈ wsX00, w ∈ wsX0_takenInRow := by decide +kernel
set_option maxHeartbeats 4000000 in
set_option maxRecDepth 100000 in
theorem c_X0_takenInRow (l : Launch) (D : va_G) (cI cC cH cL : ClassId) (b : Nat → Nat) (z : ZZ) (r0 : Nat) (hw : WF z) (hv : VT z) (hr : r0 < nR z) : Met l yX0_takenInRow wsX0_takenInRow ({ frames := 1, cells := 0, slots := 0, locals := 20 }) (kp [.ref (b 0), .int (nI r0)] D (HW b cI z) (kT cI cC cH cL)) (kr (.returned (some (.int (nI (takenIn z r0)))))) 0 0 (fun _ => False) := by
  refine Met.ofW (cc := cX0_takenInRow) (maxL := 2) (ret := (some .int)) (by decide) rfl ?_
  intro p e s m args below meth c s₁ B hml hv
  obtain ⟨rfl, hP, hK⟩ := hv
  have hx := B.exec
  have hb := B.bytes
  have hrt := B.returns
  have hts := atoms_spec (ws := wsX0_takenInRow) B.pre
  have hown : s.vm.findClass RX0 = some m.cls := findClass_of_methodNamed B.named
  have hlocks := B.notSynchronized
  have hl := lv_entry ([.ref (b 0), .int (nI r0)]) (n := 2) (Nat.le_of_ble_eq_true rfl)
  rw [lg_entry_eq]
  generalize (lg_sl ([.ref (b 0), .int (nI r0)]) ++ List.replicate (2 - (lg_sl ([.ref (b 0), .int (nI r0)])).length) Slot.unset).toArray = ls at hl ⊢
  have hl : lv_has ls 2 [(0, .ref (b 0)), (1, .int (nI r0))] := hl
  have hR10 := wf_R10 hw
  have hC4 := wf_C4 hw
  refine lv_aload_n hx hb dX0_takenInRow_0 rfl (lv_at hl 0 rfl) ?_
  refine va_get (D := D) (ci := 0) (v := .ref (b 4)) (C := RX0) (T := TX0) (N := 10) hx hb hts iX0_takenInRow_0 hown hK hP 0 rfl rfl 4 (by decide) (hts (.fieldLink RX0 21 "HallSights$Hall" "taken" "[I") (List.mem_of_getElem? (i := 1) rfl)) (fun _ h9 => h9) rfl dX0_takenInRow_1 ?_
  refine lv_iload_n hx hb dX0_takenInRow_4 rfl (lv_at hl 1 rfl) ?_
  refine kx_iald hx hb hK hP 4 0 rfl rfl (by omega) (by decide) dX0_takenInRow_5 ?_
  refine kr_S (As := [.int (z (5 + 4 * r0 + 3))]) (rest := []) (own := RX0) ⟨hx, hb, hml, hown, hts⟩ (c_J6_bitCount_0f7a4 l D cI cC cH cL  (z (5 + 4 * r0 + 3)) ) (va_cwS 1 hts gX0_takenInRow_J6_bitCount_0f7a4 rfl rfl rfl k_J6_bitCount_0f7a4S ⟨Nat.le_of_ble_eq_true rfl, Nat.le_of_ble_eq_true rfl⟩) (hP.sub (ws' := []) [] rfl) hK rfl hl.1 rfl (Nat.le_of_ble_eq_true rfl) dX0_takenInRow_6 ⟨Nat.le_of_ble_eq_true rfl, Nat.le_of_ble_eq_true rfl⟩ ?_
  refine kx_top (show (bcI (z (5 + 4 * r0 + 3)) : Int32) = nI (takenIn z r0) from by exact tk_cnt hw hv hr) ?_
  exact kr_iret hx hb hrt hlocks rfl rfl dX0_takenInRow_9
set_option maxRecDepth 20000 in
theorem iX0_takenInAll_0 : ∀ w ∈ wsX00, w ∈ wsX0_takenInAll := by decide +kernel
set_option maxHeartbeats 4000000 in
set_option maxRecDepth 100000 in
theorem c_X0_takenInAll (l : Launch) (D : va_G) (cI cC cH cL : ClassId) (b : Nat → Nat) (z : ZZ)  (hw : WF z) (hv : VT z) : Met l yX0_takenInAll wsX0_takenInAll ({ frames := 2, cells := 0, slots := 0, locals := 41 }) (kp [.ref (b 0)] D (HW b cI z) (kT cI cC cH cL)) (kr (.returned (some (.int (nI (takenAll z)))))) 0 0 (fun _ => False) := by
  refine Met.ofW (cc := cX0_takenInAll) (maxL := 3) (ret := (some .int)) (by decide) rfl ?_
  intro p e s m args below meth c s₁ B hml hv
  obtain ⟨rfl, hP, hK⟩ := hv
  have hx := B.exec
  have hb := B.bytes
  have hrt := B.returns
  have hts := atoms_spec (ws := wsX0_takenInAll) B.pre
  have hown : s.vm.findClass RX0 = some m.cls := findClass_of_methodNamed B.named
  have hlocks := B.notSynchronized
  have hl := lv_entry ([.ref (b 0)]) (n := 3) (Nat.le_of_ble_eq_true rfl)
  rw [lg_entry_eq]
  generalize (lg_sl ([.ref (b 0)]) ++ List.replicate (3 - (lg_sl ([.ref (b 0)])).length) Slot.unset).toArray = ls at hl ⊢
  have hl : lv_has ls 3 [(0, .ref (b 0))] := hl
  have hR10 := wf_R10 hw
  have hC4 := wf_C4 hw
  refine lv_iconst (v := nI 0) hx hb dX0_takenInAll_0 (by decide) ?_
  refine lv_istore_n (lv' := [(1, .int (nI 0)), (0, .ref (b 0))]) hx hb dX0_takenInAll_1 rfl hl (by decide) rfl (fun ls hl => ?_)
  refine lv_iconst (v := nI 0) hx hb dX0_takenInAll_2 (by decide) ?_
  refine lv_istore_n (lv' := [(2, .int (nI 0)), (1, .int (nI 0)), (0, .ref (b 0))]) hx hb dX0_takenInAll_3 rfl hl (by decide) rfl (fun ls hl => ?_)
  have e4_0 : (0 : Nat) = (sumN 0 (fun r => takenIn z r)) := by first | rfl | omega | (simp [takenAll, sumN_s, Int32.not_lt, Int32.not_le]; done) | (simp [takenAll, sumN_s, Int32.not_lt, Int32.not_le]; omega)
  have hl4_1 : lv_has ls 3 [(0, .ref (b 0)), (1, .int (nI (sumN 0 (fun r => takenIn z r)))), (2, .int (nI 0))] := lv_eqv (l1 := [(0, .ref (b 0)), (1, .int (nI 0)), (2, .int (nI 0))]) (lv_sub hl [2, 1, 0] rfl) (lv_ce rfl (lv_ce (congrArg (fun x => Value.int (nI x)) e4_0) (lv_ce rfl rfl)))
  refine kx_up (fun k ls => lv_has ls 3 [(0, .ref (b 0)), (1, .int (nI (sumN k (fun r => takenIn z r)))), (2, .int (nI k))]) (0) (nR z) (by omega) ls (hl4_1) ?_
  intro ir ls hirl hirh hp ih4
  have hl := hp
  refine lv_iload_n hx hb dX0_takenInAll_4 rfl (lv_at hl 2 rfl) ?_
  refine lv_aload_n hx hb dX0_takenInAll_5 rfl (lv_at hl 0 rfl) ?_
  refine va_get (D := D) (ci := 0) (v := .int (z 3)) (C := RX0) (T := TX0) (N := 10) hx hb hts iX0_takenInAll_0 hown hK hP 0 rfl rfl 0 (by decide) (hts (.fieldLink RX0 36 "HallSights$Hall" "rows" "I") (List.mem_of_getElem? (i := 1) rfl)) (fun _ h9 => h9) rfl dX0_takenInAll_6 ?_
  refine kx_top (wf_R hw) ?_
  refine kx_icmp_ge (tgt := 26) hx hb (by omega) (by omega) dX0_takenInAll_9 (by decide) (fun c_9_2 => ?_) (fun c_9_3 => ?_)
  · have hq4 : nR z = ir := by omega
    subst hq4
    refine lv_iload_n hx hb dX0_takenInAll_26 rfl (lv_at hl 1 rfl) ?_
    have e_5 : (sumN (nR z) (fun r => takenIn z r) : Nat) = (takenAll z) := by first | rfl | omega | (simp [takenAll, sumN_s, Int32.not_lt, Int32.not_le, c_9_2, Nat.not_lt.mpr c_9_2]; done) | (simp [takenAll, sumN_s, Int32.not_lt, Int32.not_le, c_9_2, Nat.not_lt.mpr c_9_2]; omega) | (revert c_9_2; simp +contextual [takenAll, sumN_s, Int32.not_lt, Int32.not_le]; done) | (revert c_9_2; simp +contextual [takenAll, sumN_s, Int32.not_lt, Int32.not_le]; omega)
    exact kr_iret hx hb hrt hlocks (congrArg nI e_5) rfl dX0_takenInAll_27
  · refine lv_iload_n hx hb dX0_takenInAll_12 rfl (lv_at hl 1 rfl) ?_
    refine lv_aload_n hx hb dX0_takenInAll_13 rfl (lv_at hl 0 rfl) ?_
    refine lv_iload_n hx hb dX0_takenInAll_14 rfl (lv_at hl 2 rfl) ?_
    refine kr_V (As := [.int (nI ir)]) (rest := [.int (nI (sumN ir (fun r => takenIn z r)))]) (C := RX0) (own := RX0) ⟨hx, hb, hml, hown, hts⟩ (c_X0_takenInRow l D cI cC cH cL b z ir (by first | assumption | omega) (by first | assumption | omega) (by first | assumption | omega)) (cwV 1 hts gX0_takenInAll_X0_takenInRow rfl rfl rfl k_X0_takenInRow ⟨Nat.le_of_ble_eq_true rfl, Nat.le_of_ble_eq_true rfl⟩) hP hK (va_recv (q := (RX0, TX0, 10)) hK hP (ci := 0) (q0 := 0) rfl rfl) rfl hl.1 rfl (Nat.le_of_ble_eq_true rfl) dX0_takenInAll_15 ⟨Nat.le_of_ble_eq_true rfl, Nat.le_of_ble_eq_true rfl⟩ ?_
    refine kx_iadd hx hb dX0_takenInAll_18 ?_
    refine lv_istore_n (lv' := [(1, .int (nI ((sumN ir (fun r => takenIn z r)) + (takenIn z ir)))), (0, .ref (b 0)), (2, .int (nI ir))]) hx hb dX0_takenInAll_19 rfl hl (by decide) rfl (fun ls hl => ?_)
    refine lv_iinc (v := nI (ir + 1)) (lv' := [(2, .int (nI (ir + 1))), (1, .int (nI ((sumN ir (fun r => takenIn z r)) + (takenIn z ir)))), (0, .ref (b 0))]) hx hb dX0_takenInAll_20 hl (k := 2) rfl (kx_inc 1) (by decide) rfl (fun ls hl => ?_)
    refine lv_goto (tgt := 4) hx hb dX0_takenInAll_23 (by decide) ?_
    have e4_6 : ((sumN ir (fun r => takenIn z r)) + (takenIn z ir) : Nat) = (sumN (ir + 1) (fun r => takenIn z r)) := by first | rfl | omega | (simp [takenAll, sumN_s, Int32.not_lt, Int32.not_le, c_9_3, Nat.not_le.mpr c_9_3]; done) | (simp [takenAll, sumN_s, Int32.not_lt, Int32.not_le, c_9_3, Nat.not_le.mpr c_9_3]; omega) | (revert c_9_3; simp +contextual [takenAll, sumN_s, Int32.not_lt, Int32.not_le]; done) | (revert c_9_3; simp +contextual [takenAll, sumN_s, Int32.not_lt, Int32.not_le]; omega)
    have e4_7 : (ir + 1 : Nat) = ((ir + 1)) := by first | rfl | omega | (simp [takenAll, sumN_s, Int32.not_lt, Int32.not_le, c_9_3, Nat.not_le.mpr c_9_3]; done) | (simp [takenAll, sumN_s, Int32.not_lt, Int32.not_le, c_9_3, Nat.not_le.mpr c_9_3]; omega) | (revert c_9_3; simp +contextual [takenAll, sumN_s, Int32.not_lt, Int32.not_le]; done) | (revert c_9_3; simp +contextual [takenAll, sumN_s, Int32.not_lt, Int32.not_le]; omega)
    have hl4_8 : lv_has ls 3 [(0, .ref (b 0)), (1, .int (nI (sumN (ir + 1) (fun r => takenIn z r)))), (2, .int (nI (ir + 1)))] := lv_eqv (l1 := [(0, .ref (b 0)), (1, .int (nI ((sumN ir (fun r => takenIn z r)) + (takenIn z ir)))), (2, .int (nI (ir + 1)))]) (lv_sub hl [2, 1, 0] rfl) (lv_ce rfl (lv_ce (congrArg (fun x => Value.int (nI x)) e4_6) (lv_ce (congrArg (fun x => Value.int (nI x)) e4_7) rfl)))
    exact ih4 _ (by omega) (hl4_8)
set_option maxRecDepth 20000 in
theorem iX0_nearestInWay_0 : ∀ w ∈ wsX00, w ∈ wsX0_nearestInWay := by decide +kernel
set_option maxHeartbeats 4000000 in
set_option maxRecDepth 100000 in
theorem c_X0_nearestInWay (l : Launch) (D : va_G) (cI cC cH cL : ClassId) (b : Nat → Nat) (z : ZZ) (r0 : Nat) (s0 : Nat) (hw : WF z) (hs : WS z) (hr : r0 < nR z) : Met l yX0_nearestInWay wsX0_nearestInWay ({ frames := 2, cells := 0, slots := 0, locals := 67 }) (kp [.ref (b 0), .int (nI r0), .int (nI s0)] D (HW b cI z) (kT cI cC cH cL)) (kr (.returned (some (.int (blockerI z r0 s0))))) 0 0 (fun _ => False) := by
  refine Met.ofW (cc := cX0_nearestInWay) (maxL := 5) (ret := (some .int)) (by decide) rfl ?_
  intro p e s m args below meth c s₁ B hml hv
  obtain ⟨rfl, hP, hK⟩ := hv
  have hx := B.exec
  have hb := B.bytes
  have hrt := B.returns
  have hts := atoms_spec (ws := wsX0_nearestInWay) B.pre
  have hown : s.vm.findClass RX0 = some m.cls := findClass_of_methodNamed B.named
  have hlocks := B.notSynchronized
  have hl := lv_entry ([.ref (b 0), .int (nI r0), .int (nI s0)]) (n := 5) (Nat.le_of_ble_eq_true rfl)
  rw [lg_entry_eq]
  generalize (lg_sl ([.ref (b 0), .int (nI r0), .int (nI s0)]) ++ List.replicate (5 - (lg_sl ([.ref (b 0), .int (nI r0), .int (nI s0)])).length) Slot.unset).toArray = ls at hl ⊢
  have hl : lv_has ls 5 [(0, .ref (b 0)), (1, .int (nI r0)), (2, .int (nI s0))] := hl
  have hR10 := wf_R10 hw
  have hC4 := wf_C4 hw
  refine lv_iload_n hx hb dX0_nearestInWay_0 rfl (lv_at hl 1 rfl) ?_
  refine lv_iconst (v := nI 1) hx hb dX0_nearestInWay_1 (by decide) ?_
  refine lv_isub hx hb dX0_nearestInWay_2 ?_
  refine lv_istore_n (lv' := [(3, .int ((nI r0) - (nI 1))), (0, .ref (b 0)), (1, .int (nI r0)), (2, .int (nI s0))]) hx hb dX0_nearestInWay_3 rfl hl (by decide) rfl (fun ls hl => ?_)
  have e4_0 : (((nI r0) - (nI 1)) : Int32) = ((nI r0 - nI 1)) := by first | rfl | exact (Int32.sub_eq_add_neg _ _).symm
  have hl4_1 : lv_has ls 5 [(0, .ref (b 0)), (1, .int (nI r0)), (2, .int (nI s0)), (3, .int (nI r0 - nI 1))] := lv_eqv (l1 := [(0, .ref (b 0)), (1, .int (nI r0)), (2, .int (nI s0)), (3, .int ((nI r0) - (nI 1)))]) (lv_sub hl [1, 2, 3, 0] rfl) (lv_ce rfl (lv_ce rfl (lv_ce rfl (lv_ce (congrArg Value.int e4_0) rfl))))
  refine kx_dn (fun k ls => lv_has ls 5 [(0, .ref (b 0)), (1, .int (nI r0)), (2, .int (nI s0)), (3, .int (nI k - nI 1))] ∧ (∀ o q, k ≤ o → o < r0 → q < nS z o → inWayB z r0 s0 o q = false)) (0) (r0) (by omega) ls (⟨hl4_1, by intro o q h1 h2; omega⟩) ?_
  intro ik ls hikl hikh hp ih4
  obtain ⟨hl, hinv4⟩ := hp
  rcases Nat.eq_zero_or_pos ik with q0 | q0
  · subst q0
    have hl : lv_has ls 5 [(0, .ref (b 0)), (1, .int (nI r0)), (2, .int (nI s0)), (3, .int (-1))] := lv_eqv (l1 := [(0, .ref (b 0)), (1, .int (nI r0)), (2, .int (nI s0)), (3, .int (nI 0 - nI 1))]) hl (lv_ce rfl (lv_ce rfl (lv_ce rfl (lv_ce (congrArg Value.int (show nI 0 - nI 1 = (-1 : Int32) from by decide)) rfl))))
    refine lv_iload_n hx hb dX0_nearestInWay_4 rfl (lv_at hl 3 rfl) ?_
    refine lv_if_lt (tgt := 64) hx hb dX0_nearestInWay_5 (by decide) (fun c_5_2 => ?_) (fun c => absurd c (by decide))
    refine lv_iconst (v := (-1)) hx hb dX0_nearestInWay_64 (by decide) ?_
    have e_3 : ((-1) : Int32) = (blockerI z r0 s0) := by exact (bk_none (fun o q h1 h2 => hinv4 o q (by omega) h1 h2)).symm
    exact kr_iret hx hb hrt hlocks e_3 rfl dX0_nearestInWay_65
  · have hl : lv_has ls 5 [(0, .ref (b 0)), (1, .int (nI r0)), (2, .int (nI s0)), (3, .int (nI (ik - 1)))] := lv_eqv (l1 := [(0, .ref (b 0)), (1, .int (nI r0)), (2, .int (nI s0)), (3, .int (nI ik - nI 1))]) hl (lv_ce rfl (lv_ce rfl (lv_ce rfl (lv_ce (congrArg Value.int (kx_pm1 q0)) rfl))))
    refine lv_iload_n hx hb dX0_nearestInWay_4 rfl (lv_at hl 3 rfl) ?_
    refine kx_if_lt (tgt := 64) hx hb (by omega) dX0_nearestInWay_5 (by decide) ?_
    refine lv_iconst (v := nI 0) hx hb dX0_nearestInWay_8 (by decide) ?_
    refine lv_istore (lv' := [(4, .int (nI 0)), (0, .ref (b 0)), (1, .int (nI r0)), (2, .int (nI s0)), (3, .int (nI (ik - 1)))]) hx hb dX0_nearestInWay_9 hl (by decide) rfl (fun ls hl => ?_)
    refine kx_up (fun k ls => lv_has ls 5 [(0, .ref (b 0)), (1, .int (nI r0)), (2, .int (nI s0)), (3, .int (nI (ik - 1))), (4, .int (nI k))] ∧ (∀ q, q < k → inWayB z r0 s0 (ik - 1) q = false)) (0) (nS z (ik - 1)) (by omega) ls (⟨(lv_sub hl [1, 2, 3, 4, 0] rfl), by intro q h; omega⟩) ?_
    intro iw ls hiwl hiwh hp ih11
    obtain ⟨hl, hinv11⟩ := hp
    have hS11 := wf_S12 hw (show ik - 1 < nR z by omega)
    refine lv_iload hx hb dX0_nearestInWay_11 (lv_at hl 4 rfl) ?_
    refine lv_aload_n hx hb dX0_nearestInWay_13 rfl (lv_at hl 0 rfl) ?_
    refine va_get (D := D) (ci := 0) (v := .ref (b 3)) (C := RX0) (T := TX0) (N := 10) hx hb hts iX0_nearestInWay_0 hown hK hP 0 rfl rfl 3 (by decide) (hts (.fieldLink RX0 18 "HallSights$Hall" "seats" "[I") (List.mem_of_getElem? (i := 1) rfl)) (fun _ h9 => h9) rfl dX0_nearestInWay_14 ?_
    refine lv_iload_n hx hb dX0_nearestInWay_17 rfl (lv_at hl 3 rfl) ?_
    refine kx_iald hx hb hK hP 3 0 rfl rfl (by omega) (by decide) dX0_nearestInWay_18 ?_
    refine kx_top (wf_S hw (show ((ik - 1)) < nR z by omega)) ?_
    have hS12_4 := wf_S12 hw (show ((ik - 1)) < nR z by omega)
    refine kx_icmp_ge (tgt := 58) hx hb (by omega) (by omega) dX0_nearestInWay_19 (by decide) (fun c_19_5 => ?_) (fun c_19_6 => ?_)
    · have hq7 : nS z (ik - 1) = iw := by omega
      subst hq7
      refine lv_iinc (v := (nI (ik - 1) - nI 1)) (lv' := [(3, .int (nI (ik - 1) - nI 1)), (0, .ref (b 0)), (1, .int (nI r0)), (2, .int (nI s0)), (4, .int (nI (nS z (ik - 1))))]) hx hb dX0_nearestInWay_58 hl (k := 3) rfl (kx_subm1 _) (by decide) rfl (fun ls hl => ?_)
      refine lv_goto (tgt := 4) hx hb dX0_nearestInWay_61 (by decide) ?_
      exact ih4 _ (by omega) (⟨(lv_sub hl [1, 2, 3, 0] rfl), by intro o q h1 h2 h3; rcases (show ik ≤ o ∨ o = ik - 1 by omega) with g | g; exact hinv4 o q g h2 h3; subst g; exact hinv11 q (by omega)⟩)
    · refine lv_aload_n hx hb dX0_nearestInWay_22 rfl (lv_at hl 0 rfl) ?_
      refine lv_iload_n hx hb dX0_nearestInWay_23 rfl (lv_at hl 3 rfl) ?_
      refine lv_iload hx hb dX0_nearestInWay_24 (lv_at hl 4 rfl) ?_
      refine kr_V (As := [.int (nI (ik - 1)), .int (nI iw)]) (rest := []) (C := RX0) (own := RX0) ⟨hx, hb, hml, hown, hts⟩ (c_X0_isTaken l D cI cC cH cL b z (ik - 1) iw (by first | assumption | omega)) (cwV 2 hts gX0_nearestInWay_X0_isTaken rfl rfl rfl k_X0_isTaken ⟨Nat.le_of_ble_eq_true rfl, Nat.le_of_ble_eq_true rfl⟩) hP hK (va_recv (q := (RX0, TX0, 10)) hK hP (ci := 0) (q0 := 0) rfl rfl) rfl hl.1 rfl (Nat.le_of_ble_eq_true rfl) dX0_nearestInWay_26 ⟨Nat.le_of_ble_eq_true rfl, Nat.le_of_ble_eq_true rfl⟩ ?_
      refine kx_if_eqb (tgt := 52) hx hb dX0_nearestInWay_29 (by decide) (fun c_29_8 => ?_) (fun c_29_9 => ?_)
      · refine lv_iinc (v := nI (iw + 1)) (lv' := [(4, .int (nI (iw + 1))), (0, .ref (b 0)), (1, .int (nI r0)), (2, .int (nI s0)), (3, .int (nI (ik - 1)))]) hx hb dX0_nearestInWay_52 hl (k := 4) rfl (kx_inc 1) (by decide) rfl (fun ls hl => ?_)
        refine lv_goto (tgt := 11) hx hb dX0_nearestInWay_55 (by decide) ?_
        have e11_10 : (iw + 1 : Nat) = ((iw + 1)) := by first | rfl | omega | (simp [inWayB, Int32.not_lt, Int32.not_le, c_19_6, Nat.not_le.mpr c_19_6, c_29_8]; done) | (simp [inWayB, Int32.not_lt, Int32.not_le, c_19_6, Nat.not_le.mpr c_19_6, c_29_8]; omega) | (revert c_19_6 c_29_8; simp +contextual [inWayB, Int32.not_lt, Int32.not_le]; done) | (revert c_19_6 c_29_8; simp +contextual [inWayB, Int32.not_lt, Int32.not_le]; omega)
        have hl11_11 : lv_has ls 5 [(0, .ref (b 0)), (1, .int (nI r0)), (2, .int (nI s0)), (3, .int (nI (ik - 1))), (4, .int (nI (iw + 1)))] := lv_eqv (l1 := [(0, .ref (b 0)), (1, .int (nI r0)), (2, .int (nI s0)), (3, .int (nI (ik - 1))), (4, .int (nI (iw + 1)))]) (lv_sub hl [1, 2, 3, 4, 0] rfl) (lv_ce rfl (lv_ce rfl (lv_ce rfl (lv_ce rfl (lv_ce (congrArg (fun x => Value.int (nI x)) e11_10) rfl)))))
        exact ih11 _ (by omega) (⟨hl11_11, by intro q h; rcases (show q < iw ∨ q = iw by omega) with g | g; exact hinv11 q g; subst g; unfold inWayB; simp [c_19_6, Nat.not_le.mpr c_19_6, c_29_8]⟩)
      · refine lv_aload_n hx hb dX0_nearestInWay_32 rfl (lv_at hl 0 rfl) ?_
        refine lv_iload_n hx hb dX0_nearestInWay_33 rfl (lv_at hl 1 rfl) ?_
        refine lv_iload_n hx hb dX0_nearestInWay_34 rfl (lv_at hl 2 rfl) ?_
        refine lv_iload_n hx hb dX0_nearestInWay_35 rfl (lv_at hl 3 rfl) ?_
        refine lv_iload hx hb dX0_nearestInWay_36 (lv_at hl 4 rfl) ?_
        refine kr_V (As := [.int (nI r0), .int (nI s0), .int (nI (ik - 1)), .int (nI iw)]) (rest := []) (C := RX0) (own := RX0) ⟨hx, hb, hml, hown, hts⟩ (c_X0_isHeadInWay l D cI cC cH cL b z r0 s0 (ik - 1) iw (by first | assumption | omega) (by first | assumption | omega) (by first | assumption | omega) (by first | assumption | omega)) (cwV 4 hts gX0_nearestInWay_X0_isHeadInWay rfl rfl rfl k_X0_isHeadInWay ⟨Nat.le_of_ble_eq_true rfl, Nat.le_of_ble_eq_true rfl⟩) hP hK (va_recv (q := (RX0, TX0, 10)) hK hP (ci := 0) (q0 := 0) rfl rfl) rfl hl.1 rfl (Nat.le_of_ble_eq_true rfl) dX0_nearestInWay_38 ⟨Nat.le_of_ble_eq_true rfl, Nat.le_of_ble_eq_true rfl⟩ ?_
        refine kx_if_eqb (tgt := 52) hx hb dX0_nearestInWay_41 (by decide) (fun c_41_12 => ?_) (fun c_41_13 => ?_)
        · refine lv_iinc (v := nI (iw + 1)) (lv' := [(4, .int (nI (iw + 1))), (0, .ref (b 0)), (1, .int (nI r0)), (2, .int (nI s0)), (3, .int (nI (ik - 1)))]) hx hb dX0_nearestInWay_52 hl (k := 4) rfl (kx_inc 1) (by decide) rfl (fun ls hl => ?_)
          refine lv_goto (tgt := 11) hx hb dX0_nearestInWay_55 (by decide) ?_
          have e11_14 : (iw + 1 : Nat) = ((iw + 1)) := by first | rfl | omega | (simp [inWayB, Int32.not_lt, Int32.not_le, c_19_6, Nat.not_le.mpr c_19_6, c_29_9, c_41_12]; done) | (simp [inWayB, Int32.not_lt, Int32.not_le, c_19_6, Nat.not_le.mpr c_19_6, c_29_9, c_41_12]; omega) | (revert c_19_6 c_29_9 c_41_12; simp +contextual [inWayB, Int32.not_lt, Int32.not_le]; done) | (revert c_19_6 c_29_9 c_41_12; simp +contextual [inWayB, Int32.not_lt, Int32.not_le]; omega)
          have hl11_15 : lv_has ls 5 [(0, .ref (b 0)), (1, .int (nI r0)), (2, .int (nI s0)), (3, .int (nI (ik - 1))), (4, .int (nI (iw + 1)))] := lv_eqv (l1 := [(0, .ref (b 0)), (1, .int (nI r0)), (2, .int (nI s0)), (3, .int (nI (ik - 1))), (4, .int (nI (iw + 1)))]) (lv_sub hl [1, 2, 3, 4, 0] rfl) (lv_ce rfl (lv_ce rfl (lv_ce rfl (lv_ce rfl (lv_ce (congrArg (fun x => Value.int (nI x)) e11_14) rfl)))))
          exact ih11 _ (by omega) (⟨hl11_15, by intro q h; rcases (show q < iw ∨ q = iw by omega) with g | g; exact hinv11 q g; subst g; unfold inWayB; simp [c_19_6, Nat.not_le.mpr c_19_6, c_29_9, c_41_12]⟩)
        · refine lv_bipush (v := nI 100) hx hb dX0_nearestInWay_44 (by decide) ?_
          refine lv_iload_n hx hb dX0_nearestInWay_46 rfl (lv_at hl 3 rfl) ?_
          refine kx_imul hx hb dX0_nearestInWay_47 ?_
          refine lv_iload hx hb dX0_nearestInWay_48 (lv_at hl 4 rfl) ?_
          refine kx_iadd hx hb dX0_nearestInWay_50 ?_
          have e_16 : (nI ((100 * (ik - 1)) + iw) : Int32) = (blockerI z r0 s0) := by exact (bk_found (a := ik - 1) (w := iw) (by omega) (by omega) (by unfold inWayB; simp [c_19_6, Nat.not_le.mpr c_19_6, c_29_9, c_41_13]) hinv11 (fun o q h1 h2 h3 => hinv4 o q (by omega) h2 h3)).symm
          exact kr_iret hx hb hrt hlocks e_16 rfl dX0_nearestInWay_51
set_option maxRecDepth 20000 in
theorem iX0_heightToSeeOver_0 : ∀ w ∈ wsX00, w ∈ wsX0_heightToSeeOver := by decide +kernel
set_option maxHeartbeats 4000000 in
set_option maxRecDepth 100000 in
theorem c_X0_heightToSeeOver (l : Launch) (D : va_G) (cI cC cH cL : ClassId) (b : Nat → Nat) (z : ZZ) (r0 : Nat) (a0 : Nat) (hv : VAL z) (hr : r0 < nR z) (ha : a0 < nR z) : Met l yX0_heightToSeeOver wsX0_heightToSeeOver ({ frames := 1, cells := 0, slots := 0, locals := 40 }) (kp [.ref (b 0), .int (nI r0), .int (nI a0)] D (HW b cI z) (kT cI cC cH cL)) (kr (.returned (some (.int (hgtFor z r0 a0))))) 0 0 (fun _ => False) := by
  refine Met.ofW (cc := cX0_heightToSeeOver) (maxL := 5) (ret := (some .int)) (by decide) rfl ?_
  intro p e s m args below meth c s₁ B hml hv
  obtain ⟨rfl, hP, hK⟩ := hv
  have hx := B.exec
  have hb := B.bytes
  have hrt := B.returns
  have hts := atoms_spec (ws := wsX0_heightToSeeOver) B.pre
  have hown : s.vm.findClass RX0 = some m.cls := findClass_of_methodNamed B.named
  have hlocks := B.notSynchronized
  have hl := lv_entry ([.ref (b 0), .int (nI r0), .int (nI a0)]) (n := 5) (Nat.le_of_ble_eq_true rfl)
  rw [lg_entry_eq]
  generalize (lg_sl ([.ref (b 0), .int (nI r0), .int (nI a0)]) ++ List.replicate (5 - (lg_sl ([.ref (b 0), .int (nI r0), .int (nI a0)])).length) Slot.unset).toArray = ls at hl ⊢
  have hl : lv_has ls 5 [(0, .ref (b 0)), (1, .int (nI r0)), (2, .int (nI a0))] := hl
  have hw := hv.1
  have hR10 := wf_R10 hw
  have hC4 := wf_C4 hw
  refine lv_iconst (v := nI 1) hx hb dX0_heightToSeeOver_0 (by decide) ?_
  refine lv_aload_n hx hb dX0_heightToSeeOver_1 rfl (lv_at hl 0 rfl) ?_
  refine va_get (D := D) (ci := 0) (v := .ref (b 1)) (C := RX0) (T := TX0) (N := 10) hx hb hts iX0_heightToSeeOver_0 hown hK hP 0 rfl rfl 1 (by decide) (hts (.fieldLink RX0 9 "HallSights$Hall" "distances" "[I") (List.mem_of_getElem? (i := 1) rfl)) (fun _ h9 => h9) rfl dX0_heightToSeeOver_2 ?_
  refine lv_iload_n hx hb dX0_heightToSeeOver_5 rfl (lv_at hl 2 rfl) ?_
  refine kx_iald hx hb hK hP 1 0 rfl rfl (by omega) (by decide) dX0_heightToSeeOver_6 ?_
  refine va_mmax hx hb (hml.trans hl.1.symm) hown (hts (.methodLink RX0 70 Lib.Math.max.name) (List.mem_of_getElem? (i := 2) rfl)) (hts (.static Lib.Math.max.name) (List.mem_of_getElem? (i := 3) rfl)) (hts (.initialized "java/lang/Math") (List.mem_of_getElem? (i := 4) rfl)) (hts (.code Lib.Math.max.name Lib.Math.max.code 2 (some .int)) (List.mem_of_getElem? (i := 5) rfl)) (Nat.le_of_ble_eq_true rfl) (Nat.le_of_ble_eq_true rfl) (Nat.le_of_ble_eq_true rfl) (Nat.le_of_ble_eq_true rfl) dX0_heightToSeeOver_7 ?_
  refine kx_top (show ((if (nI 1) < (z (5 + 4 * a0)) then (z (5 + 4 * a0)) else (nI 1)) : Int32) = z (5 + 4 * a0) from by exact max1 (hv.2.2.2.1 a0 ha).1.1) ?_
  refine lv_istore_n (lv' := [(3, .int (z (5 + 4 * a0))), (0, .ref (b 0)), (1, .int (nI r0)), (2, .int (nI a0))]) hx hb dX0_heightToSeeOver_10 rfl hl (by decide) rfl (fun ls hl => ?_)
  refine lv_aload_n hx hb dX0_heightToSeeOver_11 rfl (lv_at hl 1 rfl) ?_
  refine lv_iload_n hx hb dX0_heightToSeeOver_12 rfl (lv_at hl 3 rfl) ?_
  refine kr_V (As := [.int (nI a0)]) (rest := []) (C := RX0) (own := RX0) ⟨hx, hb, hml, hown, hts⟩ (c_X0_headOverPoint l D cI cC cH cL b z a0 (by first | assumption | omega)) (cwV 1 hts gX0_heightToSeeOver_X0_headOverPoint rfl rfl rfl k_X0_headOverPoint ⟨Nat.le_of_ble_eq_true rfl, Nat.le_of_ble_eq_true rfl⟩) hP hK (va_recv (q := (RX0, TX0, 10)) hK hP (ci := 0) (q0 := 0) rfl rfl) rfl hl.1 rfl (Nat.le_of_ble_eq_true rfl) dX0_heightToSeeOver_13 ⟨Nat.le_of_ble_eq_true rfl, Nat.le_of_ble_eq_true rfl⟩ ?_
  refine lv_ineg hx hb dX0_heightToSeeOver_16 ?_
  refine lv_aload_n hx hb dX0_heightToSeeOver_17 rfl (lv_at hl 1 rfl) ?_
  refine va_get (D := D) (ci := 0) (v := .ref (b 1)) (C := RX0) (T := TX0) (N := 10) hx hb hts iX0_heightToSeeOver_0 hown hK hP 0 rfl rfl 1 (by decide) (hts (.fieldLink RX0 9 "HallSights$Hall" "distances" "[I") (List.mem_of_getElem? (i := 1) rfl)) (fun _ h9 => h9) rfl dX0_heightToSeeOver_18 ?_
  refine lv_iload_n hx hb dX0_heightToSeeOver_21 rfl (lv_at hl 2 rfl) ?_
  refine kx_iald hx hb hK hP 1 0 rfl rfl (by omega) (by decide) dX0_heightToSeeOver_22 ?_
  refine lv_imul hx hb dX0_heightToSeeOver_23 ?_
  refine lv_iload_n hx hb dX0_heightToSeeOver_24 rfl (lv_at hl 0 rfl) ?_
  refine kr_S (As := [.int ((-(headP z a0)) * (z (5 + 4 * r0))), .int (z (5 + 4 * a0))]) (rest := []) (own := RX0) ⟨hx, hb, hml, hown, hts⟩ (c_J9_floorDiv_7cf53 l D cI cC cH cL  ((-(headP z a0)) * (z (5 + 4 * r0))) (z (5 + 4 * a0)) (by exact val_wd hv a0 ha)) (va_cwS 2 hts gX0_heightToSeeOver_J9_floorDiv_7cf53 rfl rfl rfl k_J9_floorDiv_7cf53S ⟨Nat.le_of_ble_eq_true rfl, Nat.le_of_ble_eq_true rfl⟩) (hP.sub (ws' := []) [] rfl) hK rfl hl.1 rfl (Nat.le_of_ble_eq_true rfl) dX0_heightToSeeOver_25 ⟨Nat.le_of_ble_eq_true rfl, Nat.le_of_ble_eq_true rfl⟩ ?_
  refine lv_ineg hx hb dX0_heightToSeeOver_28 ?_
  refine lv_istore (lv' := [(4, .int (-(fdI ((-(headP z a0)) * (z (5 + 4 * r0))) (z (5 + 4 * a0))))), (3, .int (z (5 + 4 * a0))), (0, .ref (b 0)), (1, .int (nI r0)), (2, .int (nI a0))]) hx hb dX0_heightToSeeOver_29 hl (by decide) rfl (fun ls hl => ?_)
  refine lv_iload hx hb dX0_heightToSeeOver_31 (lv_at hl 0 rfl) ?_
  refine lv_aload_n hx hb dX0_heightToSeeOver_33 rfl (lv_at hl 2 rfl) ?_
  refine va_get (D := D) (ci := 0) (v := .ref (b 8)) (C := RX0) (T := TX0) (N := 10) hx hb hts iX0_heightToSeeOver_0 hown hK hP 0 rfl rfl 9 (by decide) (hts (.fieldLink RX0 33 "HallSights$Hall" "settings" "[I") (List.mem_of_getElem? (i := 6) rfl)) (fun _ h9 => h9) rfl dX0_heightToSeeOver_34 ?_
  refine lv_iconst (v := nI 1) hx hb dX0_heightToSeeOver_37 (by decide) ?_
  refine kx_iald hx hb hK hP 8 0 rfl rfl (by omega) (by decide) dX0_heightToSeeOver_38 ?_
  refine lv_isub hx hb dX0_heightToSeeOver_39 ?_
  refine lv_aload_n hx hb dX0_heightToSeeOver_40 rfl (lv_at hl 2 rfl) ?_
  refine va_get (D := D) (ci := 0) (v := .ref (b 8)) (C := RX0) (T := TX0) (N := 10) hx hb hts iX0_heightToSeeOver_0 hown hK hP 0 rfl rfl 9 (by decide) (hts (.fieldLink RX0 33 "HallSights$Hall" "settings" "[I") (List.mem_of_getElem? (i := 6) rfl)) (fun _ h9 => h9) rfl dX0_heightToSeeOver_41 ?_
  refine lv_iconst (v := nI 0) hx hb dX0_heightToSeeOver_44 (by decide) ?_
  refine kx_iald hx hb hK hP 8 0 rfl rfl (by omega) (by decide) dX0_heightToSeeOver_45 ?_
  refine lv_iadd hx hb dX0_heightToSeeOver_46 ?_
  have e_0 : ((((-(fdI ((-(headP z a0)) * (z (5 + 4 * r0))) (z (5 + 4 * a0)))) - (z 1)) + (z 0)) : Int32) = (hgtFor z r0 a0) := by exact hgt_eq hv hr ha
  exact kr_iret hx hb hrt hlocks e_0 rfl dX0_heightToSeeOver_47
set_option maxHeartbeats 4000000 in
set_option maxRecDepth 100000 in
theorem c_X0_lowestHeight (l : Launch) (D : va_G) (cI cC cH cL : ClassId) (b : Nat → Nat) (z : ZZ) (r0 : Nat) (hv : VAL z) (hr : r0 < nR z) : Met l yX0_lowestHeight wsX0_lowestHeight ({ frames := 2, cells := 0, slots := 0, locals := 64 }) (kp [.ref (b 0), .int (nI r0)] D (HW b cI z) (kT cI cC cH cL)) (kr (.returned (some (.int (leastForI z r0))))) 0 0 (fun _ => False) := by
  refine Met.ofW (cc := cX0_lowestHeight) (maxL := 4) (ret := (some .int)) (by decide) rfl ?_
  intro p e s m args below meth c s₁ B hml hv
  obtain ⟨rfl, hP, hK⟩ := hv
  have hx := B.exec
  have hb := B.bytes
  have hrt := B.returns
  have hts := atoms_spec (ws := wsX0_lowestHeight) B.pre
  have hown : s.vm.findClass RX0 = some m.cls := findClass_of_methodNamed B.named
  have hlocks := B.notSynchronized
  have hl := lv_entry ([.ref (b 0), .int (nI r0)]) (n := 4) (Nat.le_of_ble_eq_true rfl)
  rw [lg_entry_eq]
  generalize (lg_sl ([.ref (b 0), .int (nI r0)]) ++ List.replicate (4 - (lg_sl ([.ref (b 0), .int (nI r0)])).length) Slot.unset).toArray = ls at hl ⊢
  have hl : lv_has ls 4 [(0, .ref (b 0)), (1, .int (nI r0))] := hl
  have hw := hv.1
  have hR10 := wf_R10 hw
  have hC4 := wf_C4 hw
  refine lv_iconst (v := nI 0) hx hb dX0_lowestHeight_0 (by decide) ?_
  refine lv_istore_n (lv' := [(2, .int (nI 0)), (0, .ref (b 0)), (1, .int (nI r0))]) hx hb dX0_lowestHeight_1 rfl hl (by decide) rfl (fun ls hl => ?_)
  refine lv_iconst (v := nI 0) hx hb dX0_lowestHeight_2 (by decide) ?_
  refine lv_istore_n (lv' := [(3, .int (nI 0)), (2, .int (nI 0)), (0, .ref (b 0)), (1, .int (nI r0))]) hx hb dX0_lowestHeight_3 rfl hl (by decide) rfl (fun ls hl => ?_)
  have e4_0 : (nI 0 : Int32) = (itN 0 (lfS z r0) (nI 0)) := by first | rfl | (rw [itN_s]; unfold lfS; exact max_le _ _)
  have hl4_1 : lv_has ls 4 [(0, .ref (b 0)), (1, .int (nI r0)), (2, .int (itN 0 (lfS z r0) (nI 0))), (3, .int (nI 0))] := lv_eqv (l1 := [(0, .ref (b 0)), (1, .int (nI r0)), (2, .int (nI 0)), (3, .int (nI 0))]) (lv_sub hl [2, 3, 1, 0] rfl) (lv_ce rfl (lv_ce rfl (lv_ce (congrArg Value.int e4_0) (lv_ce rfl rfl))))
  refine kx_up (fun k ls => lv_has ls 4 [(0, .ref (b 0)), (1, .int (nI r0)), (2, .int (itN k (lfS z r0) (nI 0))), (3, .int (nI k))]) (0) (r0) (by omega) ls (hl4_1) ?_
  intro ia ls hial hiah hp ih4
  have hl := hp
  refine lv_iload_n hx hb dX0_lowestHeight_4 rfl (lv_at hl 3 rfl) ?_
  refine lv_iload_n hx hb dX0_lowestHeight_5 rfl (lv_at hl 1 rfl) ?_
  refine kx_icmp_ge (tgt := 26) hx hb (by omega) (by omega) dX0_lowestHeight_6 (by decide) (fun c_6_2 => ?_) (fun c_6_3 => ?_)
  · have hq4 : r0 = ia := by omega
    subst hq4
    refine lv_iload_n hx hb dX0_lowestHeight_26 rfl (lv_at hl 2 rfl) ?_
    have e_5 : (itN r0 (lfS z r0) (nI 0) : Int32) = (leastForI z r0) := by first | rfl | omega | (simp [leastForI, lfS, itN_s, Int32.not_lt, Int32.not_le, c_6_2, Nat.not_lt.mpr c_6_2]; done) | (simp [leastForI, lfS, itN_s, Int32.not_lt, Int32.not_le, c_6_2, Nat.not_lt.mpr c_6_2]; omega) | (revert c_6_2; simp +contextual [leastForI, lfS, itN_s, Int32.not_lt, Int32.not_le]; done) | (revert c_6_2; simp +contextual [leastForI, lfS, itN_s, Int32.not_lt, Int32.not_le]; omega)
    exact kr_iret hx hb hrt hlocks e_5 rfl dX0_lowestHeight_27
  · refine lv_iload_n hx hb dX0_lowestHeight_9 rfl (lv_at hl 2 rfl) ?_
    refine lv_aload_n hx hb dX0_lowestHeight_10 rfl (lv_at hl 0 rfl) ?_
    refine lv_iload_n hx hb dX0_lowestHeight_11 rfl (lv_at hl 1 rfl) ?_
    refine lv_iload_n hx hb dX0_lowestHeight_12 rfl (lv_at hl 3 rfl) ?_
    refine kr_V (As := [.int (nI r0), .int (nI ia)]) (rest := [.int (itN ia (lfS z r0) (nI 0))]) (C := RX0) (own := RX0) ⟨hx, hb, hml, hown, hts⟩ (c_X0_heightToSeeOver l D cI cC cH cL b z r0 ia (by first | assumption | omega) (by first | assumption | omega) (by first | assumption | omega)) (cwV 2 hts gX0_lowestHeight_X0_heightToSeeOver rfl rfl rfl k_X0_heightToSeeOver ⟨Nat.le_of_ble_eq_true rfl, Nat.le_of_ble_eq_true rfl⟩) hP hK (va_recv (q := (RX0, TX0, 10)) hK hP (ci := 0) (q0 := 0) rfl rfl) rfl hl.1 rfl (Nat.le_of_ble_eq_true rfl) dX0_lowestHeight_13 ⟨Nat.le_of_ble_eq_true rfl, Nat.le_of_ble_eq_true rfl⟩ ?_
    refine va_mmax hx hb (hml.trans hl.1.symm) hown (hts (.methodLink RX0 70 Lib.Math.max.name) (List.mem_of_getElem? (i := 1) rfl)) (hts (.static Lib.Math.max.name) (List.mem_of_getElem? (i := 2) rfl)) (hts (.initialized "java/lang/Math") (List.mem_of_getElem? (i := 3) rfl)) (hts (.code Lib.Math.max.name Lib.Math.max.code 2 (some .int)) (List.mem_of_getElem? (i := 4) rfl)) (Nat.le_of_ble_eq_true rfl) (Nat.le_of_ble_eq_true rfl) (Nat.le_of_ble_eq_true rfl) (Nat.le_of_ble_eq_true rfl) dX0_lowestHeight_16 ?_
    refine lv_istore_n (lv' := [(2, .int (if (itN ia (lfS z r0) (nI 0)) < (hgtFor z r0 ia) then (hgtFor z r0 ia) else (itN ia (lfS z r0) (nI 0)))), (0, .ref (b 0)), (1, .int (nI r0)), (3, .int (nI ia))]) hx hb dX0_lowestHeight_19 rfl hl (by decide) rfl (fun ls hl => ?_)
    refine lv_iinc (v := nI (ia + 1)) (lv' := [(3, .int (nI (ia + 1))), (2, .int (if (itN ia (lfS z r0) (nI 0)) < (hgtFor z r0 ia) then (hgtFor z r0 ia) else (itN ia (lfS z r0) (nI 0)))), (0, .ref (b 0)), (1, .int (nI r0))]) hx hb dX0_lowestHeight_20 hl (k := 3) rfl (kx_inc 1) (by decide) rfl (fun ls hl => ?_)
    refine lv_goto (tgt := 4) hx hb dX0_lowestHeight_23 (by decide) ?_
    have e4_6 : ((if (itN ia (lfS z r0) (nI 0)) < (hgtFor z r0 ia) then (hgtFor z r0 ia) else (itN ia (lfS z r0) (nI 0))) : Int32) = (itN (ia + 1) (lfS z r0) (nI 0)) := by first | rfl | (rw [itN_s]; unfold lfS; exact max_le _ _)
    have e4_7 : (ia + 1 : Nat) = ((ia + 1)) := by first | rfl | omega | (simp [leastForI, lfS, itN_s, Int32.not_lt, Int32.not_le, c_6_3, Nat.not_le.mpr c_6_3]; done) | (simp [leastForI, lfS, itN_s, Int32.not_lt, Int32.not_le, c_6_3, Nat.not_le.mpr c_6_3]; omega) | (revert c_6_3; simp +contextual [leastForI, lfS, itN_s, Int32.not_lt, Int32.not_le]; done) | (revert c_6_3; simp +contextual [leastForI, lfS, itN_s, Int32.not_lt, Int32.not_le]; omega)
    have hl4_8 : lv_has ls 4 [(0, .ref (b 0)), (1, .int (nI r0)), (2, .int (itN (ia + 1) (lfS z r0) (nI 0))), (3, .int (nI (ia + 1)))] := lv_eqv (l1 := [(0, .ref (b 0)), (1, .int (nI r0)), (2, .int (if (itN ia (lfS z r0) (nI 0)) < (hgtFor z r0 ia) then (hgtFor z r0 ia) else (itN ia (lfS z r0) (nI 0)))), (3, .int (nI (ia + 1)))]) (lv_sub hl [2, 3, 1, 0] rfl) (lv_ce rfl (lv_ce rfl (lv_ce (congrArg Value.int e4_6) (lv_ce (congrArg (fun x => Value.int (nI x)) e4_7) rfl))))
    exact ih4 _ (by omega) (hl4_8)
